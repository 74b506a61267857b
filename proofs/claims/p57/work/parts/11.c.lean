set_option maxHeartbeats 4000000 in
set_option maxRecDepth 100000 in
theorem c_X4_readUnit_7_7 (l : Launch) (X : tq_X) (Z : tq_Z) (f : Nat → va_E) (h0 : Nat) (z_h0 : tq_z Z h0 (.inl 4)) (x1 : Int32) (i_x1 : tq_iv 7 7 x1) : tq_M l X Z f [(0, 0), (0, 1), (4, 1), (4, 2), (9, 3), (9, 4), (9, 5), (9, 6), (9, 7)] yX4_readUnit cX4_readUnit 4 (some .boolean) 5 [.ref h0, .int x1] (tq_ri 0 1) := by
  refine tq_starti (by decide) (Nat.le_of_ble_eq_true rfl) (fun p e R s m args below meth c Q hC hret hS ls hl => ?_)
  have hC : tq_C p R s m args c X (tq_A Z) RX4 cX4_readUnit 4 5 := hC
  have hx := hC.1.1
  have hb := hC.1.2.1
  have hown := hC.1.2.2.2.1
  have hts := hC.1.2.2.2.2
  have hl : lv_has ls 4 [(0, .ref h0), (1, .int x1)] := hl
  generalize hf0 : f = f0 at hret
  have hS : tq_S X Z (tq_A Z) s.heap f0 [(0, 0), (0, 1), (4, 1), (4, 2), (9, 3), (9, 4), (9, 5), (9, 6), (9, 7)] f s.heap [] := hf0 ▸ hS
  refine lv_aload_n hx hb dX4_readUnit_0 rfl (lv_at hl 0 rfl) ?_
  refine gf_RX4_30 hC hS z_h0 dX4_readUnit_1 (fun t_1 p_1 q_1 => ?_)
  refine gf_RX4_49 hC hS p_1 dX4_readUnit_4 (fun t_4 p_4 q_4 => ?_)
  refine lv_bipush (v := 40) hx hb dX4_readUnit_7 (by decide) ?_
  have K_17 : ∀ (y0_17 : Int32) (f : Nat → va_E) (H : Heap) (locs : List Loc) (ls : Array Slot), tq_S X Z (tq_A Z) s.heap f0 [(0, 0), (0, 1), (4, 1), (4, 2), (9, 3), (9, 4), (9, 5), (9, 6), (9, 7)] f H locs → tq_iv 0 1 y0_17 → lv_has ls 4 [(0, .ref h0), (1, .int x1)] → W p l e R s m args below meth c H locs 0 0 Q (F0 m 17 ls [.int y0_17]) := by
    intro y0_17 f H locs ls  hS i1_y0_17 hl
    refine lv_istore_n (lv' := [(2, .int y0_17), (0, .ref h0), (1, .int x1)]) hx hb dX4_readUnit_17 rfl hl (by decide) rfl (fun ls hl => ?_)
    refine lv_aload_n hx hb dX4_readUnit_18 rfl (lv_at hl 1 rfl) ?_
    refine tq_callVpi (As := []) (rest := []) hC (c_X4_unitHere l X Z _ h0 z_h0) k_X4_unitHere ql_RX4_241 rfl (by decide) hS z_h0 rfl hl.1 rfl (Nat.le_of_ble_eq_true rfl) ⟨Nat.zero_le _, Nat.zero_le _⟩ dX4_readUnit_19 (fun t_19 p_19 => ?_)
    refine lv_istore_n (lv' := [(3, .int t_19), (2, .int y0_17), (0, .ref h0), (1, .int x1)]) hx hb dX4_readUnit_22 rfl hl (by decide) rfl (fun ls hl => ?_)
    refine lv_iload_n hx hb dX4_readUnit_23 rfl (lv_at hl 1 rfl) ?_
    have K_47 : ∀ (f : Nat → va_E) (H : Heap) (locs : List Loc) (ls : Array Slot), tq_S X Z (tq_A Z) s.heap f0 [(0, 0), (0, 1), (4, 1), (4, 2), (9, 3), (9, 4), (9, 5), (9, 6), (9, 7)] f H locs → lv_has ls 4 [(0, .ref h0)] → W p l e R s m args below meth c H locs 0 0 Q (F0 m 47 ls []) := by
      intro f H locs ls  hS hl
      refine lv_aload_n hx hb dX4_readUnit_47 rfl (lv_at hl 0 rfl) ?_
      refine tq_callVi (As := []) (rest := []) hC (c_X4_refuse l X Z _ h0 z_h0) k_X4_refuse ql_RX4_63 (by decide) rfl (by decide) hS z_h0 rfl hl.1 rfl (Nat.le_of_ble_eq_true rfl) ⟨Nat.zero_le _, Nat.zero_le _⟩ dX4_readUnit_48 (fun t_48 f1_48 H locs p_48 hS k_48 => ?_)
      exact hret t_48 _ _ _ _ _ (tq_nb p_48 (by decide) (by decide)) ⟨_, rfl, tq_w p_48 (by decide) (by decide)⟩ hS dX4_readUnit_51
    have K_32 : ∀ (f : Nat → va_E) (H : Heap) (locs : List Loc) (ls : Array Slot), tq_S X Z (tq_A Z) s.heap f0 [(0, 0), (0, 1), (4, 1), (4, 2), (9, 3), (9, 4), (9, 5), (9, 6), (9, 7)] f H locs → lv_has ls 4 [(3, .int t_19), (2, .int y0_17), (0, .ref h0), (1, .int x1)] → W p l e R s m args below meth c H locs 0 0 Q (F0 m 32 ls []) := by
      intro f H locs ls  hS hl
      refine lv_aload_n hx hb dX4_readUnit_32 rfl (lv_at hl 2 rfl) ?_
      refine gf_RX4_12 hC hS z_h0 dX4_readUnit_33 (fun t_33 p_33 q_33 => ?_)
      refine gf_RX4_214 hC hS p_33 dX4_readUnit_36 (fun t_36 p_36 q_36 => ?_)
      refine gf_RX4_244 hC hS p_36 dX4_readUnit_39 (fun t_39 p_39 q_39 => ?_)
      refine lv_bipush (v := 30) hx hb dX4_readUnit_42 (by decide) ?_
      refine lv_icmp_lt (tgt := 52) hx hb dX4_readUnit_44 (by decide) (fun c_44 => ?_) (fun c_44 => ?_)
      · skip
        have i2_t_39 : tq_iv (-2147483648) 29 t_39 := tq_cut (tq_top t_39) (tq_ltL c_44 (tq_top t_39) (⟨by decide, by decide⟩ : tq_iv 30 30 30)) (by decide) (by decide)
        refine lv_iload_n hx hb dX4_readUnit_52 rfl (lv_at hl 1 rfl) ?_
        have K_67 : ∀ (f : Nat → va_E) (H : Heap) (locs : List Loc) (ls : Array Slot), tq_S X Z (tq_A Z) s.heap f0 [(0, 0), (0, 1), (4, 1), (4, 2), (9, 3), (9, 4), (9, 5), (9, 6), (9, 7)] f H locs → tq_iv 0 0 y0_17 → lv_has ls 4 [(3, .int t_19), (2, .int y0_17), (0, .ref h0), (1, .int x1)] → W p l e R s m args below meth c H locs 0 0 Q (F0 m 67 ls []) := by
          intro f H locs ls  hS i3_y0_17 hl
          refine lv_aload_n hx hb dX4_readUnit_67 rfl (lv_at hl 2 rfl) ?_
          refine gf_RX4_12 hC hS z_h0 dX4_readUnit_68 (fun t_68 p_68 q_68 => ?_)
          refine gf_RX4_214 hC hS p_68 dX4_readUnit_71 (fun t_71 p_71 q_71 => ?_)
          refine lv_dup hx hb dX4_readUnit_74 rfl ?_
          refine gf_RX4_244 hC hS p_71 dX4_readUnit_75 (fun t_75 p_75 q_75 => ?_)
          refine lv_iconst (v := 1) hx hb dX4_readUnit_78 (by decide) ?_
          refine lv_iadd hx hb dX4_readUnit_79 ?_
          refine lv_topi (fun t_79 e_79 => ?_)
          refine pf_RX4_244 hC hS p_71 (by decide) trivial dX4_readUnit_80 (fun f H locs hS q_80 k_80 => ?_)
          refine lv_iload_n hx hb dX4_readUnit_83 rfl (lv_at hl 1 rfl) ?_
          have K_105 : ∀ (f : Nat → va_E) (H : Heap) (locs : List Loc) (ls : Array Slot), tq_S X Z (tq_A Z) s.heap f0 [(0, 0), (0, 1), (4, 1), (4, 2), (9, 3), (9, 4), (9, 5), (9, 6), (9, 7)] f H locs → lv_has ls 4 [(2, .int y0_17), (0, .ref h0), (1, .int x1)] → W p l e R s m args below meth c H locs 0 0 Q (F0 m 105 ls []) := by
            intro f H locs ls  hS hl
            refine lv_aload_n hx hb dX4_readUnit_105 rfl (lv_at hl 1 rfl) ?_
            refine gf_RX4_30 hC hS z_h0 dX4_readUnit_106 (fun t_106 p_106 q_106 => ?_)
            refine tq_callVv (As := []) (rest := []) hC (c_X9_advance l X Z _ t_106 p_106) k_X9_advance ql_RX4_66 (by decide) rfl (by decide) hS p_106 rfl hl.1 rfl (Nat.le_of_ble_eq_true rfl) ⟨Nat.zero_le _, Nat.zero_le _⟩ dX4_readUnit_109 (fun f1_109 H locs hS k_109 => ?_)
            refine lv_iload_n hx hb dX4_readUnit_112 rfl (lv_at hl 0 rfl) ?_
            have K_140 : ∀ (y0_140 : Int32) (f : Nat → va_E) (H : Heap) (locs : List Loc) (ls : Array Slot), tq_S X Z (tq_A Z) s.heap f0 [(0, 0), (0, 1), (4, 1), (4, 2), (9, 3), (9, 4), (9, 5), (9, 6), (9, 7)] f H locs → tq_iv 1 1 y0_140 → lv_has ls 4 [] → W p l e R s m args below meth c H locs 0 0 Q (F0 m 140 ls [.int y0_140]) := by
              intro y0_140 f H locs ls  hS i4_y0_140 hl
              exact hret y0_140 _ _ _ _ _ (tq_nb i4_y0_140 (by decide) (by decide)) ⟨_, rfl, tq_w i4_y0_140 (by decide) (by decide)⟩ hS dX4_readUnit_140
            have K_135 : ∀ (f : Nat → va_E) (H : Heap) (locs : List Loc) (ls : Array Slot), tq_S X Z (tq_A Z) s.heap f0 [(0, 0), (0, 1), (4, 1), (4, 2), (9, 3), (9, 4), (9, 5), (9, 6), (9, 7)] f H locs → lv_has ls 4 [] → W p l e R s m args below meth c H locs 0 0 Q (F0 m 135 ls []) := by
              intro f H locs ls  hS hl
              refine lv_iconst (v := 1) hx hb dX4_readUnit_135 (by decide) ?_
              refine lv_goto (tgt := 140) hx hb dX4_readUnit_136 (by decide) ?_
              exact K_140 1 _ _ _ _ hS (tq_w (⟨by decide, by decide⟩ : tq_iv 1 1 1) (by decide) (by decide)) (lv_sub hl [] rfl)
            refine lv_if_eq (tgt := 135) hx hb dX4_readUnit_113 (by decide) (fun c_113 => ?_) (fun c_113 => ?_)
            · skip
              exact K_135 _ _ _ _ hS (lv_sub hl [] rfl)
            · skip
              exact (tq_xne c_113 i3_y0_17 (⟨by decide, by decide⟩ : tq_iv 0 0 0) (by decide)).elim
          refine lv_if_ne (tgt := 105) hx hb dX4_readUnit_84 (by decide) (fun c_84 => ?_) (fun c_84 => ?_)
          · skip
            exact (tq_xne c_84 i3_y0_17 (⟨by decide, by decide⟩ : tq_iv 0 0 0) (by decide)).elim
          · skip
            refine lv_aload_n hx hb dX4_readUnit_87 rfl (lv_at hl 2 rfl) ?_
            refine gf_RX4_12 hC hS z_h0 dX4_readUnit_88 (fun t_88 p_88 q_88 => ?_)
            refine gf_RX4_214 hC hS p_88 dX4_readUnit_91 (fun t_91 p_91 q_91 => ?_)
            refine lv_iload_n hx hb dX4_readUnit_94 rfl (lv_at hl 0 rfl) ?_
            refine lv_aload_n hx hb dX4_readUnit_95 rfl (lv_at hl 2 rfl) ?_
            refine gf_RX4_30 hC hS z_h0 dX4_readUnit_96 (fun t_96 p_96 q_96 => ?_)
            refine gf_RX4_106 hC hS p_96 dX4_readUnit_99 (fun t_99 p_99 q_99 => ?_)
            refine tq_callVv (As := [.int t_19, .int t_99]) (rest := []) hC (c_X0_append l X Z _ t_91 p_91 t_19 t_99) k_X0_append ql_RX4_220 (by decide) rfl (by decide) hS p_91 rfl hl.1 rfl (Nat.le_of_ble_eq_true rfl) ⟨Nat.zero_le _, Nat.zero_le _⟩ dX4_readUnit_102 (fun f1_102 H locs hS k_102 => ?_)
            exact K_105 _ _ _ _ hS (lv_sub hl [1, 2, 3] rfl)
        refine lv_if_eq (tgt := 67) hx hb dX4_readUnit_53 (by decide) (fun c_53 => ?_) (fun c_53 => ?_)
        · skip
          have i5_y0_17 : tq_iv 0 0 y0_17 := tq_cut i1_y0_17 (tq_eqL c_53 (⟨by decide, by decide⟩ : tq_iv 0 0 0)) (by decide) (by decide)
          exact K_67 _ _ _ _ hS (tq_w i5_y0_17 (by decide) (by decide)) (lv_sub hl [0, 1, 2, 3] rfl)
        · skip
          have i6_y0_17 : tq_iv 1 1 y0_17 := tq_w (tq_neLo c_53 i1_y0_17 (⟨by decide, by decide⟩ : tq_iv 0 0 0)) (by decide) (by decide)
          refine lv_iload_n hx hb dX4_readUnit_56 rfl (lv_at hl 3 rfl) ?_
          refine lv_bipush (v := 6) hx hb dX4_readUnit_57 (by decide) ?_
          refine lv_icmp_le (tgt := 67) hx hb dX4_readUnit_59 (by decide) (fun c_59 => ?_) (fun c_59 => ?_)
          · skip
            exact (tq_xle c_59 i_x1 (⟨by decide, by decide⟩ : tq_iv 6 6 6) (by decide)).elim
          · skip
            refine lv_aload_n hx hb dX4_readUnit_62 rfl (lv_at hl 2 rfl) ?_
            refine tq_callVi (As := []) (rest := []) hC (c_X4_refuse l X Z _ h0 z_h0) k_X4_refuse ql_RX4_63 (by decide) rfl (by decide) hS z_h0 rfl hl.1 rfl (Nat.le_of_ble_eq_true rfl) ⟨Nat.zero_le _, Nat.zero_le _⟩ dX4_readUnit_63 (fun t_63 f1_63 H locs p_63 hS k_63 => ?_)
            exact hret t_63 _ _ _ _ _ (tq_nb p_63 (by decide) (by decide)) ⟨_, rfl, tq_w p_63 (by decide) (by decide)⟩ hS dX4_readUnit_66
      · skip
        have i7_t_39 : tq_iv 30 2147483647 t_39 := tq_cut (tq_top t_39) (tq_leR (tq_nlt c_44) (⟨by decide, by decide⟩ : tq_iv 30 30 30) (tq_top t_39)) (by decide) (by decide)
        exact K_47 _ _ _ _ hS (lv_sub hl [2] rfl)
    refine lv_if_ne (tgt := 32) hx hb dX4_readUnit_24 (by decide) (fun c_24 => ?_) (fun c_24 => ?_)
    · skip
      have i8_y0_17 : tq_iv 1 1 y0_17 := tq_w (tq_neLo c_24 i1_y0_17 (⟨by decide, by decide⟩ : tq_iv 0 0 0)) (by decide) (by decide)
      exact K_32 _ _ _ _ hS (lv_sub hl [0, 1, 2, 3] rfl)
    · skip
      have i9_y0_17 : tq_iv 0 0 y0_17 := tq_cut i1_y0_17 (tq_eqL c_24 (⟨by decide, by decide⟩ : tq_iv 0 0 0)) (by decide) (by decide)
      refine lv_iload_n hx hb dX4_readUnit_27 rfl (lv_at hl 0 rfl) ?_
      refine lv_iconst (v := -1) hx hb dX4_readUnit_28 (by decide) ?_
      refine lv_icmp_eq (tgt := 47) hx hb dX4_readUnit_29 (by decide) (fun c_29 => ?_) (fun c_29 => ?_)
      · skip
        have i10_t_19 : tq_iv (-1) (-1) t_19 := tq_cut p_19 (tq_eqL c_29 (⟨by decide, by decide⟩ : tq_iv (-1) (-1) (-1))) (by decide) (by decide)
        exact K_47 _ _ _ _ hS (lv_sub hl [2] rfl)
      · skip
        have i11_t_19 : tq_iv 0 4 t_19 := tq_w (tq_neLo c_29 p_19 (⟨by decide, by decide⟩ : tq_iv (-1) (-1) (-1))) (by decide) (by decide)
        exact K_32 _ _ _ _ hS (lv_sub hl [0, 1, 2, 3] rfl)
  refine lv_icmp_ne (tgt := 16) hx hb dX4_readUnit_9 (by decide) (fun c_9 => ?_) (fun c_9 => ?_)
  · skip
    refine lv_iconst (v := 0) hx hb dX4_readUnit_16 (by decide) ?_
    exact K_17 0 _ _ _ _ hS (tq_w (⟨by decide, by decide⟩ : tq_iv 0 0 0) (by decide) (by decide)) (lv_sub hl [0, 1] rfl)
  · skip
    have i12_t_4 : tq_iv 40 40 t_4 := tq_cut (tq_top t_4) (tq_eqL c_9 (⟨by decide, by decide⟩ : tq_iv 40 40 40)) (by decide) (by decide)
    refine lv_iconst (v := 1) hx hb dX4_readUnit_12 (by decide) ?_
    refine lv_goto (tgt := 17) hx hb dX4_readUnit_13 (by decide) ?_
    exact K_17 1 _ _ _ _ hS (tq_w (⟨by decide, by decide⟩ : tq_iv 1 1 1) (by decide) (by decide)) (lv_sub hl [0, 1] rfl)
set_option maxHeartbeats 4000000 in
set_option maxRecDepth 100000 in
theorem c_X4_readTerm_7_7 (l : Launch) (X : tq_X) (Z : tq_Z) (f : Nat → va_E) (h0 : Nat) (z_h0 : tq_z Z h0 (.inl 4)) (x1 : Int32) (i_x1 : tq_iv 7 7 x1) : tq_M l X Z f [(0, 0), (0, 1), (4, 1), (4, 2), (9, 3), (9, 4), (9, 5), (9, 6), (9, 7)] yX4_readTerm cX4_readTerm 5 (some .boolean) 6 [.ref h0, .int x1] (tq_ri 0 1) := by
  refine tq_starti (by decide) (Nat.le_of_ble_eq_true rfl) (fun p e R s m args below meth c Q hC hret hS ls hl => ?_)
  have hC : tq_C p R s m args c X (tq_A Z) RX4 cX4_readTerm 5 6 := hC
  have hx := hC.1.1
  have hb := hC.1.2.1
  have hown := hC.1.2.2.2.1
  have hts := hC.1.2.2.2.2
  have hl : lv_has ls 5 [(0, .ref h0), (1, .int x1)] := hl
  generalize hf0 : f = f0 at hret
  have hS : tq_S X Z (tq_A Z) s.heap f0 [(0, 0), (0, 1), (4, 1), (4, 2), (9, 3), (9, 4), (9, 5), (9, 6), (9, 7)] f s.heap [] := hf0 ▸ hS
  refine lv_aload_n hx hb dX4_readTerm_0 rfl (lv_at hl 0 rfl) ?_
  refine lv_iload_n hx hb dX4_readTerm_1 rfl (lv_at hl 1 rfl) ?_
  refine tq_callVi (As := [.int x1]) (rest := []) hC (c_X4_readUnit_7_7 l X Z _ h0 z_h0 x1 (tq_w i_x1 (by decide) (by decide))) k_X4_readUnit ql_RX4_235 (by decide) rfl (by decide) hS z_h0 rfl hl.1 rfl (Nat.le_of_ble_eq_true rfl) ⟨Nat.zero_le _, Nat.zero_le _⟩ dX4_readTerm_2 (fun t_2 f1_2 H locs p_2 hS k_2 => ?_)
  refine lv_istore_n (lv' := [(2, .int t_2), (0, .ref h0), (1, .int x1)]) hx hb dX4_readTerm_5 rfl hl (by decide) rfl (fun ls hl => ?_)
  refine lv_iconst (v := 0) hx hb dX4_readTerm_6 (by decide) ?_
  refine lv_istore_n (lv' := [(3, .int 0), (2, .int t_2), (0, .ref h0), (1, .int x1)]) hx hb dX4_readTerm_7 rfl hl (by decide) rfl (fun ls hl => ?_)
  have K_8 : ∀ (n_8 : Nat) (x3_8 : Int32) (x2_8 : Int32) (f : Nat → va_E) (H : Heap) (locs : List Loc) (ls : Array Slot), tq_S X Z (tq_A Z) s.heap f0 [(0, 0), (0, 1), (4, 1), (4, 2), (9, 3), (9, 4), (9, 5), (9, 6), (9, 7)] f H locs → tq_iv 0 1 x2_8 → tq_iv 0 1600 x3_8 → (2147483647 - x3_8.toInt).toNat < n_8 → lv_has ls 5 [(3, .int x3_8), (2, .int x2_8), (0, .ref h0), (1, .int x1)] → W p l e R s m args below meth c H locs 0 0 Q (F0 m 8 ls []) := by
    intro n_8
    induction n_8 with
    | zero => intro x3_8 x2_8 f H locs ls  hS i1_x2_8 i2_x3_8 hn_8; exact absurd hn_8 (Nat.not_lt_zero _)
    | succ n_8 ih_8 =>
      intro x3_8 x2_8 f H locs ls  hS i1_x2_8 i2_x3_8 hn_8 hl
      refine lv_iload_n hx hb dX4_readTerm_8 rfl (lv_at hl 0 rfl) ?_
      refine lv_sipush (v := 1600) hx hb dX4_readTerm_9 (by decide) ?_
      have K_65 : ∀ (f : Nat → va_E) (H : Heap) (locs : List Loc) (ls : Array Slot), tq_S X Z (tq_A Z) s.heap f0 [(0, 0), (0, 1), (4, 1), (4, 2), (9, 3), (9, 4), (9, 5), (9, 6), (9, 7)] f H locs → lv_has ls 5 [(2, .int x2_8)] → W p l e R s m args below meth c H locs 0 0 Q (F0 m 65 ls []) := by
        intro f H locs ls  hS hl
        refine lv_iload_n hx hb dX4_readTerm_65 rfl (lv_at hl 0 rfl) ?_
        exact hret x2_8 _ _ _ _ _ (tq_nb i1_x2_8 (by decide) (by decide)) ⟨_, rfl, tq_w i1_x2_8 (by decide) (by decide)⟩ hS dX4_readTerm_66
      refine lv_icmp_ge (tgt := 65) hx hb dX4_readTerm_12 (by decide) (fun c_12 => ?_) (fun c_12 => ?_)
      · skip
        have i3_x3_8 : tq_iv 1600 1600 x3_8 := tq_cut i2_x3_8 (tq_leR c_12 (⟨by decide, by decide⟩ : tq_iv 1600 1600 1600) i2_x3_8) (by decide) (by decide)
        exact K_65 _ _ _ _ hS (lv_sub hl [1] rfl)
      · skip
        have i4_x3_8 : tq_iv 0 1599 x3_8 := tq_cut i2_x3_8 (tq_ltL (tq_nle c_12) i2_x3_8 (⟨by decide, by decide⟩ : tq_iv 1600 1600 1600)) (by decide) (by decide)
        refine lv_iload_n hx hb dX4_readTerm_15 rfl (lv_at hl 1 rfl) ?_
        refine lv_if_eq (tgt := 65) hx hb dX4_readTerm_16 (by decide) (fun c_16 => ?_) (fun c_16 => ?_)
        · skip
          have i5_x2_8 : tq_iv 0 0 x2_8 := tq_cut i1_x2_8 (tq_eqL c_16 (⟨by decide, by decide⟩ : tq_iv 0 0 0)) (by decide) (by decide)
          exact K_65 _ _ _ _ hS (lv_sub hl [1] rfl)
        · skip
          have i6_x2_8 : tq_iv 1 1 x2_8 := tq_w (tq_neLo c_16 i1_x2_8 (⟨by decide, by decide⟩ : tq_iv 0 0 0)) (by decide) (by decide)
          refine lv_aload_n hx hb dX4_readTerm_19 rfl (lv_at hl 2 rfl) ?_
          refine tq_callVpi (As := []) (rest := []) hC (c_X4_productHere l X Z _ h0 z_h0) k_X4_productHere ql_RX4_238 rfl (by decide) hS z_h0 rfl hl.1 rfl (Nat.le_of_ble_eq_true rfl) ⟨Nat.zero_le _, Nat.zero_le _⟩ dX4_readTerm_20 (fun t_20 p_20 => ?_)
          refine lv_iconst (v := -1) hx hb dX4_readTerm_23 (by decide) ?_
          refine lv_icmp_eq (tgt := 65) hx hb dX4_readTerm_24 (by decide) (fun c_24 => ?_) (fun c_24 => ?_)
          · skip
            have i7_t_20 : tq_iv (-1) (-1) t_20 := tq_cut p_20 (tq_eqL c_24 (⟨by decide, by decide⟩ : tq_iv (-1) (-1) (-1))) (by decide) (by decide)
            exact K_65 _ _ _ _ hS (lv_sub hl [1] rfl)
          · skip
            have i8_t_20 : tq_iv 0 15 t_20 := tq_w (tq_neLo c_24 p_20 (⟨by decide, by decide⟩ : tq_iv (-1) (-1) (-1))) (by decide) (by decide)
            refine lv_aload_n hx hb dX4_readTerm_27 rfl (lv_at hl 2 rfl) ?_
            refine tq_callVpi (As := []) (rest := []) hC (c_X4_productHere l X Z _ h0 z_h0) k_X4_productHere ql_RX4_238 rfl (by decide) hS z_h0 rfl hl.1 rfl (Nat.le_of_ble_eq_true rfl) ⟨Nat.zero_le _, Nat.zero_le _⟩ dX4_readTerm_28 (fun t_28 p_28 => ?_)
            refine lv_istore (lv' := [(4, .int t_28), (3, .int x3_8), (2, .int x2_8), (0, .ref h0), (1, .int x1)]) hx hb dX4_readTerm_31 hl (by decide) rfl (fun ls hl => ?_)
            refine lv_aload_n hx hb dX4_readTerm_33 rfl (lv_at hl 3 rfl) ?_
            refine gf_RX4_30 hC hS z_h0 dX4_readTerm_34 (fun t_34 p_34 q_34 => ?_)
            refine tq_callVv (As := []) (rest := []) hC (c_X9_advance l X Z _ t_34 p_34) k_X9_advance ql_RX4_66 (by decide) rfl (by decide) hS p_34 rfl hl.1 rfl (Nat.le_of_ble_eq_true rfl) ⟨Nat.zero_le _, Nat.zero_le _⟩ dX4_readTerm_37 (fun f1_37 H locs hS k_37 => ?_)
            refine lv_aload_n hx hb dX4_readTerm_40 rfl (lv_at hl 3 rfl) ?_
            refine lv_iload_n hx hb dX4_readTerm_41 rfl (lv_at hl 4 rfl) ?_
            refine tq_callVi (As := [.int x1]) (rest := []) hC (c_X4_readUnit_7_7 l X Z _ h0 z_h0 x1 (tq_w i_x1 (by decide) (by decide))) k_X4_readUnit ql_RX4_235 (by decide) rfl (by decide) hS z_h0 rfl hl.1 rfl (Nat.le_of_ble_eq_true rfl) ⟨Nat.zero_le _, Nat.zero_le _⟩ dX4_readTerm_42 (fun t_42 f1_42 H locs p_42 hS k_42 => ?_)
            refine lv_istore_n (lv' := [(2, .int t_42), (4, .int t_28), (3, .int x3_8), (0, .ref h0), (1, .int x1)]) hx hb dX4_readTerm_45 rfl hl (by decide) rfl (fun ls hl => ?_)
            refine lv_aload_n hx hb dX4_readTerm_46 rfl (lv_at hl 3 rfl) ?_
            refine gf_RX4_12 hC hS z_h0 dX4_readTerm_47 (fun t_47 p_47 q_47 => ?_)
            refine gf_RX4_214 hC hS p_47 dX4_readTerm_50 (fun t_50 p_50 q_50 => ?_)
            refine lv_iload hx hb dX4_readTerm_53 (lv_at hl 1 rfl) ?_
            refine lv_iconst (v := 0) hx hb dX4_readTerm_55 (by decide) ?_
            refine tq_callVv (As := [.int t_28, .int 0]) (rest := []) hC (c_X0_append l X Z _ t_50 p_50 t_28 0) k_X0_append ql_RX4_220 (by decide) rfl (by decide) hS p_50 rfl hl.1 rfl (Nat.le_of_ble_eq_true rfl) ⟨Nat.zero_le _, Nat.zero_le _⟩ dX4_readTerm_56 (fun f1_56 H locs hS k_56 => ?_)
            obtain ⟨t_59, e_59⟩ : ∃ y : Int32, y = x3_8 + 1 := ⟨_, rfl⟩
            have i9_t_59 : tq_iv 1 1600 t_59 := tq_w (tq_add e_59 i4_x3_8 (⟨by decide, by decide⟩ : tq_iv 1 1 1) (by decide) (by decide)) (by decide) (by decide)
            refine lv_iinc (v := t_59) (lv' := [(3, .int t_59), (2, .int t_42), (4, .int t_28), (0, .ref h0), (1, .int x1)]) hx hb dX4_readTerm_59 hl (k := 2) rfl (by rw [e_59]; rfl) (by decide) rfl (fun ls hl => ?_)
            refine lv_goto (tgt := 8) hx hb dX4_readTerm_62 (by decide) ?_
            exact ih_8 t_59 t_42 _ _ _ _ hS (tq_w p_42 (by decide) (by decide)) (tq_w i9_t_59 (by decide) (by decide)) (tq_up e_59 i4_x3_8 (⟨by decide, by decide⟩ : tq_iv 1 1 1) (by decide) (by decide) hn_8) (lv_sub hl [0, 1, 3, 4] rfl)
  exact K_8 _ 0 t_2 _ _ _ _ hS (tq_w p_2 (by decide) (by decide)) (tq_w (⟨by decide, by decide⟩ : tq_iv 0 0 0) (by decide) (by decide)) (Nat.lt_succ_self _) (lv_sub hl [0, 1, 2, 3] rfl)
set_option maxHeartbeats 4000000 in
set_option maxRecDepth 100000 in
theorem c_X4_readSum_7_7 (l : Launch) (X : tq_X) (Z : tq_Z) (f : Nat → va_E) (h0 : Nat) (z_h0 : tq_z Z h0 (.inl 4)) (x1 : Int32) (i_x1 : tq_iv 7 7 x1) : tq_M l X Z f [(0, 0), (0, 1), (4, 1), (4, 2), (9, 3), (9, 4), (9, 5), (9, 6), (9, 7)] yX4_readSum cX4_readSum 5 (some .boolean) 7 [.ref h0, .int x1] (tq_ri 0 1) := by
  refine tq_starti (by decide) (Nat.le_of_ble_eq_true rfl) (fun p e R s m args below meth c Q hC hret hS ls hl => ?_)
  have hC : tq_C p R s m args c X (tq_A Z) RX4 cX4_readSum 5 7 := hC
  have hx := hC.1.1
  have hb := hC.1.2.1
  have hown := hC.1.2.2.2.1
  have hts := hC.1.2.2.2.2
  have hl : lv_has ls 5 [(0, .ref h0), (1, .int x1)] := hl
  generalize hf0 : f = f0 at hret
  have hS : tq_S X Z (tq_A Z) s.heap f0 [(0, 0), (0, 1), (4, 1), (4, 2), (9, 3), (9, 4), (9, 5), (9, 6), (9, 7)] f s.heap [] := hf0 ▸ hS
  refine lv_aload_n hx hb dX4_readSum_0 rfl (lv_at hl 0 rfl) ?_
  refine lv_iload_n hx hb dX4_readSum_1 rfl (lv_at hl 1 rfl) ?_
  refine tq_callVi (As := [.int x1]) (rest := []) hC (c_X4_readTerm_7_7 l X Z _ h0 z_h0 x1 (tq_w i_x1 (by decide) (by decide))) k_X4_readTerm ql_RX4_232 (by decide) rfl (by decide) hS z_h0 rfl hl.1 rfl (Nat.le_of_ble_eq_true rfl) ⟨Nat.zero_le _, Nat.zero_le _⟩ dX4_readSum_2 (fun t_2 f1_2 H locs p_2 hS k_2 => ?_)
  refine lv_istore_n (lv' := [(2, .int t_2), (0, .ref h0), (1, .int x1)]) hx hb dX4_readSum_5 rfl hl (by decide) rfl (fun ls hl => ?_)
  refine lv_iconst (v := 0) hx hb dX4_readSum_6 (by decide) ?_
  refine lv_istore_n (lv' := [(3, .int 0), (2, .int t_2), (0, .ref h0), (1, .int x1)]) hx hb dX4_readSum_7 rfl hl (by decide) rfl (fun ls hl => ?_)
  have K_8 : ∀ (n_8 : Nat) (x3_8 : Int32) (x2_8 : Int32) (f : Nat → va_E) (H : Heap) (locs : List Loc) (ls : Array Slot), tq_S X Z (tq_A Z) s.heap f0 [(0, 0), (0, 1), (4, 1), (4, 2), (9, 3), (9, 4), (9, 5), (9, 6), (9, 7)] f H locs → tq_iv 0 1 x2_8 → tq_iv 0 1600 x3_8 → (2147483647 - x3_8.toInt).toNat < n_8 → lv_has ls 5 [(3, .int x3_8), (2, .int x2_8), (0, .ref h0), (1, .int x1)] → W p l e R s m args below meth c H locs 0 0 Q (F0 m 8 ls []) := by
    intro n_8
    induction n_8 with
    | zero => intro x3_8 x2_8 f H locs ls  hS i1_x2_8 i2_x3_8 hn_8; exact absurd hn_8 (Nat.not_lt_zero _)
    | succ n_8 ih_8 =>
      intro x3_8 x2_8 f H locs ls  hS i1_x2_8 i2_x3_8 hn_8 hl
      refine lv_iload_n hx hb dX4_readSum_8 rfl (lv_at hl 0 rfl) ?_
      refine lv_sipush (v := 1600) hx hb dX4_readSum_9 (by decide) ?_
      have K_96 : ∀ (f : Nat → va_E) (H : Heap) (locs : List Loc) (ls : Array Slot), tq_S X Z (tq_A Z) s.heap f0 [(0, 0), (0, 1), (4, 1), (4, 2), (9, 3), (9, 4), (9, 5), (9, 6), (9, 7)] f H locs → lv_has ls 5 [(2, .int x2_8)] → W p l e R s m args below meth c H locs 0 0 Q (F0 m 96 ls []) := by
        intro f H locs ls  hS hl
        refine lv_iload_n hx hb dX4_readSum_96 rfl (lv_at hl 0 rfl) ?_
        exact hret x2_8 _ _ _ _ _ (tq_nb i1_x2_8 (by decide) (by decide)) ⟨_, rfl, tq_w i1_x2_8 (by decide) (by decide)⟩ hS dX4_readSum_97
      refine lv_icmp_ge (tgt := 96) hx hb dX4_readSum_12 (by decide) (fun c_12 => ?_) (fun c_12 => ?_)
      · skip
        have i3_x3_8 : tq_iv 1600 1600 x3_8 := tq_cut i2_x3_8 (tq_leR c_12 (⟨by decide, by decide⟩ : tq_iv 1600 1600 1600) i2_x3_8) (by decide) (by decide)
        exact K_96 _ _ _ _ hS (lv_sub hl [1] rfl)
      · skip
        have i4_x3_8 : tq_iv 0 1599 x3_8 := tq_cut i2_x3_8 (tq_ltL (tq_nle c_12) i2_x3_8 (⟨by decide, by decide⟩ : tq_iv 1600 1600 1600)) (by decide) (by decide)
        refine lv_iload_n hx hb dX4_readSum_15 rfl (lv_at hl 1 rfl) ?_
        refine lv_if_eq (tgt := 96) hx hb dX4_readSum_16 (by decide) (fun c_16 => ?_) (fun c_16 => ?_)
        · skip
          have i5_x2_8 : tq_iv 0 0 x2_8 := tq_cut i1_x2_8 (tq_eqL c_16 (⟨by decide, by decide⟩ : tq_iv 0 0 0)) (by decide) (by decide)
          exact K_96 _ _ _ _ hS (lv_sub hl [1] rfl)
        · skip
          have i6_x2_8 : tq_iv 1 1 x2_8 := tq_w (tq_neLo c_16 i1_x2_8 (⟨by decide, by decide⟩ : tq_iv 0 0 0)) (by decide) (by decide)
          refine lv_aload_n hx hb dX4_readSum_19 rfl (lv_at hl 2 rfl) ?_
          refine gf_RX4_30 hC hS z_h0 dX4_readSum_20 (fun t_20 p_20 q_20 => ?_)
          refine gf_RX4_49 hC hS p_20 dX4_readSum_23 (fun t_23 p_23 q_23 => ?_)
          refine lv_bipush (v := 43) hx hb dX4_readSum_26 (by decide) ?_
          have K_43 : ∀ (f : Nat → va_E) (H : Heap) (locs : List Loc) (ls : Array Slot), tq_S X Z (tq_A Z) s.heap f0 [(0, 0), (0, 1), (4, 1), (4, 2), (9, 3), (9, 4), (9, 5), (9, 6), (9, 7)] f H locs → lv_has ls 5 [(3, .int x3_8), (0, .ref h0), (1, .int x1)] → W p l e R s m args below meth c H locs 0 0 Q (F0 m 43 ls []) := by
            intro f H locs ls  hS hl
            refine lv_aload_n hx hb dX4_readSum_43 rfl (lv_at hl 1 rfl) ?_
            refine gf_RX4_30 hC hS z_h0 dX4_readSum_44 (fun t_44 p_44 q_44 => ?_)
            refine gf_RX4_49 hC hS p_44 dX4_readSum_47 (fun t_47 p_47 q_47 => ?_)
            refine lv_bipush (v := 43) hx hb dX4_readSum_50 (by decide) ?_
            have K_62 : ∀ (y0_62 : Int32) (f : Nat → va_E) (H : Heap) (locs : List Loc) (ls : Array Slot), tq_S X Z (tq_A Z) s.heap f0 [(0, 0), (0, 1), (4, 1), (4, 2), (9, 3), (9, 4), (9, 5), (9, 6), (9, 7)] f H locs → tq_iv 11 12 y0_62 → lv_has ls 5 [(3, .int x3_8), (0, .ref h0), (1, .int x1)] → W p l e R s m args below meth c H locs 0 0 Q (F0 m 62 ls [.int y0_62]) := by
              intro y0_62 f H locs ls  hS i7_y0_62 hl
              refine lv_istore (lv' := [(4, .int y0_62), (3, .int x3_8), (0, .ref h0), (1, .int x1)]) hx hb dX4_readSum_62 hl (by decide) rfl (fun ls hl => ?_)
              refine lv_aload_n hx hb dX4_readSum_64 rfl (lv_at hl 2 rfl) ?_
              refine gf_RX4_30 hC hS z_h0 dX4_readSum_65 (fun t_65 p_65 q_65 => ?_)
              refine tq_callVv (As := []) (rest := []) hC (c_X9_advance l X Z _ t_65 p_65) k_X9_advance ql_RX4_66 (by decide) rfl (by decide) hS p_65 rfl hl.1 rfl (Nat.le_of_ble_eq_true rfl) ⟨Nat.zero_le _, Nat.zero_le _⟩ dX4_readSum_68 (fun f1_68 H locs hS k_68 => ?_)
              refine lv_aload_n hx hb dX4_readSum_71 rfl (lv_at hl 2 rfl) ?_
              refine lv_iload_n hx hb dX4_readSum_72 rfl (lv_at hl 3 rfl) ?_
              refine tq_callVi (As := [.int x1]) (rest := []) hC (c_X4_readTerm_7_7 l X Z _ h0 z_h0 x1 (tq_w i_x1 (by decide) (by decide))) k_X4_readTerm ql_RX4_232 (by decide) rfl (by decide) hS z_h0 rfl hl.1 rfl (Nat.le_of_ble_eq_true rfl) ⟨Nat.zero_le _, Nat.zero_le _⟩ dX4_readSum_73 (fun t_73 f1_73 H locs p_73 hS k_73 => ?_)
              refine lv_istore_n (lv' := [(2, .int t_73), (4, .int y0_62), (3, .int x3_8), (0, .ref h0), (1, .int x1)]) hx hb dX4_readSum_76 rfl hl (by decide) rfl (fun ls hl => ?_)
              refine lv_aload_n hx hb dX4_readSum_77 rfl (lv_at hl 3 rfl) ?_
              refine gf_RX4_12 hC hS z_h0 dX4_readSum_78 (fun t_78 p_78 q_78 => ?_)
              refine gf_RX4_214 hC hS p_78 dX4_readSum_81 (fun t_81 p_81 q_81 => ?_)
              refine lv_iload hx hb dX4_readSum_84 (lv_at hl 1 rfl) ?_
              refine lv_iconst (v := 0) hx hb dX4_readSum_86 (by decide) ?_
              refine tq_callVv (As := [.int y0_62, .int 0]) (rest := []) hC (c_X0_append l X Z _ t_81 p_81 y0_62 0) k_X0_append ql_RX4_220 (by decide) rfl (by decide) hS p_81 rfl hl.1 rfl (Nat.le_of_ble_eq_true rfl) ⟨Nat.zero_le _, Nat.zero_le _⟩ dX4_readSum_87 (fun f1_87 H locs hS k_87 => ?_)
              obtain ⟨t_90, e_90⟩ : ∃ y : Int32, y = x3_8 + 1 := ⟨_, rfl⟩
              have i8_t_90 : tq_iv 1 1600 t_90 := tq_w (tq_add e_90 i4_x3_8 (⟨by decide, by decide⟩ : tq_iv 1 1 1) (by decide) (by decide)) (by decide) (by decide)
              refine lv_iinc (v := t_90) (lv' := [(3, .int t_90), (2, .int t_73), (4, .int y0_62), (0, .ref h0), (1, .int x1)]) hx hb dX4_readSum_90 hl (k := 2) rfl (by rw [e_90]; rfl) (by decide) rfl (fun ls hl => ?_)
              refine lv_goto (tgt := 8) hx hb dX4_readSum_93 (by decide) ?_
              exact ih_8 t_90 t_73 _ _ _ _ hS (tq_w p_73 (by decide) (by decide)) (tq_w i8_t_90 (by decide) (by decide)) (tq_up e_90 i4_x3_8 (⟨by decide, by decide⟩ : tq_iv 1 1 1) (by decide) (by decide) hn_8) (lv_sub hl [0, 1, 3, 4] rfl)
            refine lv_icmp_ne (tgt := 60) hx hb dX4_readSum_52 (by decide) (fun c_52 => ?_) (fun c_52 => ?_)
            · skip
              refine lv_bipush (v := 12) hx hb dX4_readSum_60 (by decide) ?_
              exact K_62 12 _ _ _ _ hS (tq_w (⟨by decide, by decide⟩ : tq_iv 12 12 12) (by decide) (by decide)) (lv_sub hl [0, 1, 2] rfl)
            · skip
              have i9_t_47 : tq_iv 43 43 t_47 := tq_cut (tq_top t_47) (tq_eqL c_52 (⟨by decide, by decide⟩ : tq_iv 43 43 43)) (by decide) (by decide)
              refine lv_bipush (v := 11) hx hb dX4_readSum_55 (by decide) ?_
              refine lv_goto (tgt := 62) hx hb dX4_readSum_57 (by decide) ?_
              exact K_62 11 _ _ _ _ hS (tq_w (⟨by decide, by decide⟩ : tq_iv 11 11 11) (by decide) (by decide)) (lv_sub hl [0, 1, 2] rfl)
          refine lv_icmp_eq (tgt := 43) hx hb dX4_readSum_28 (by decide) (fun c_28 => ?_) (fun c_28 => ?_)
          · skip
            have i10_t_23 : tq_iv 43 43 t_23 := tq_cut (tq_top t_23) (tq_eqL c_28 (⟨by decide, by decide⟩ : tq_iv 43 43 43)) (by decide) (by decide)
            exact K_43 _ _ _ _ hS (lv_sub hl [0, 2, 3] rfl)
          · skip
            refine lv_aload_n hx hb dX4_readSum_31 rfl (lv_at hl 2 rfl) ?_
            refine gf_RX4_30 hC hS z_h0 dX4_readSum_32 (fun t_32 p_32 q_32 => ?_)
            refine gf_RX4_49 hC hS p_32 dX4_readSum_35 (fun t_35 p_35 q_35 => ?_)
            refine lv_bipush (v := 45) hx hb dX4_readSum_38 (by decide) ?_
            refine lv_icmp_ne (tgt := 96) hx hb dX4_readSum_40 (by decide) (fun c_40 => ?_) (fun c_40 => ?_)
            · skip
              exact K_96 _ _ _ _ hS (lv_sub hl [1] rfl)
            · skip
              have i11_t_35 : tq_iv 45 45 t_35 := tq_cut (tq_top t_35) (tq_eqL c_40 (⟨by decide, by decide⟩ : tq_iv 45 45 45)) (by decide) (by decide)
              exact K_43 _ _ _ _ hS (lv_sub hl [0, 2, 3] rfl)
  exact K_8 _ 0 t_2 _ _ _ _ hS (tq_w p_2 (by decide) (by decide)) (tq_w (⟨by decide, by decide⟩ : tq_iv 0 0 0) (by decide) (by decide)) (Nat.lt_succ_self _) (lv_sub hl [0, 1, 2, 3] rfl)
set_option maxHeartbeats 4000000 in
set_option maxRecDepth 100000 in
theorem c_X4_relationHere (l : Launch) (X : tq_X) (Z : tq_Z) (f : Nat → va_E) (h0 : Nat) (z_h0 : tq_z Z h0 (.inl 4)) : tq_Mp l X Z f yX4_relationHere cX4_relationHere 1 (some .int) 0 [.ref h0] (tq_ri (-1) 10) := by
  refine tq_startip (by decide) (Nat.le_of_ble_eq_true rfl) (fun p e R s m args below meth c Q hC hret hS ls hl => ?_)
  have hC : tq_C p R s m args c X (tq_A Z) RX4 cX4_relationHere 1 0 := hC
  have hx := hC.1.1
  have hb := hC.1.2.1
  have hown := hC.1.2.2.2.1
  have hts := hC.1.2.2.2.2
  have hl : lv_has ls 1 [(0, .ref h0)] := hl
  refine lv_aload_n hx hb dX4_relationHere_0 rfl (lv_at hl 0 rfl) ?_
  refine gf_RX4_30 hC hS z_h0 dX4_relationHere_1 (fun t_1 p_1 q_1 => ?_)
  refine gf_RX4_49 hC hS p_1 dX4_relationHere_4 (fun t_4 p_4 q_4 => ?_)
  by_cases s_7_0 : Int32.toInt t_4 = 60
  · refine lv_tableIn (tgt := 32) hx hb dX4_relationHere_7 (by omega) (by omega) (by first | (rw [s_7_0]; done) | (rw [s_7_0]; rfl)) (by decide) ?_
    have i1_t_4 : tq_iv 60 60 t_4 := ⟨by omega, by omega⟩
    refine lv_bipush (v := 8) hx hb dX4_relationHere_32 (by decide) ?_
    exact hret 8 _ _ rfl ⟨_, rfl, tq_w (⟨by decide, by decide⟩ : tq_iv 8 8 8) (by decide) (by decide)⟩ dX4_relationHere_34
  by_cases s_7_1 : Int32.toInt t_4 = 61
  · refine lv_tableIn (tgt := 38) hx hb dX4_relationHere_7 (by omega) (by omega) (by first | (rw [s_7_1]; done) | (rw [s_7_1]; rfl)) (by decide) ?_
    have i2_t_4 : tq_iv 61 61 t_4 := ⟨by omega, by omega⟩
    refine lv_bipush (v := 10) hx hb dX4_relationHere_38 (by decide) ?_
    exact hret 10 _ _ rfl ⟨_, rfl, tq_w (⟨by decide, by decide⟩ : tq_iv 10 10 10) (by decide) (by decide)⟩ dX4_relationHere_40
  by_cases s_7_2 : Int32.toInt t_4 = 62
  · refine lv_tableIn (tgt := 35) hx hb dX4_relationHere_7 (by omega) (by omega) (by first | (rw [s_7_2]; done) | (rw [s_7_2]; rfl)) (by decide) ?_
    have i3_t_4 : tq_iv 62 62 t_4 := ⟨by omega, by omega⟩
    refine lv_bipush (v := 9) hx hb dX4_relationHere_35 (by decide) ?_
    exact hret 9 _ _ rfl ⟨_, rfl, tq_w (⟨by decide, by decide⟩ : tq_iv 9 9 9) (by decide) (by decide)⟩ dX4_relationHere_37
  refine lv_tableOut (tgt := 41) hx hb dX4_relationHere_7 (by omega) (by decide) ?_
  refine lv_iconst (v := -1) hx hb dX4_relationHere_41 (by decide) ?_
  exact hret (-1) _ _ rfl ⟨_, rfl, tq_w (⟨by decide, by decide⟩ : tq_iv (-1) (-1) (-1)) (by decide) (by decide)⟩ dX4_relationHere_42
set_option maxHeartbeats 4000000 in
set_option maxRecDepth 100000 in
theorem c_X4_readOne_7_7 (l : Launch) (X : tq_X) (Z : tq_Z) (f : Nat → va_E) (h0 : Nat) (z_h0 : tq_z Z h0 (.inl 4)) (x1 : Int32) (i_x1 : tq_iv 7 7 x1) : tq_M l X Z f [(0, 0), (0, 1), (4, 1), (4, 2), (9, 3), (9, 4), (9, 5), (9, 6), (9, 7)] yX4_readOne cX4_readOne 4 (some .boolean) 8 [.ref h0, .int x1] (tq_ri 0 1) := by
  refine tq_starti (by decide) (Nat.le_of_ble_eq_true rfl) (fun p e R s m args below meth c Q hC hret hS ls hl => ?_)
  have hC : tq_C p R s m args c X (tq_A Z) RX4 cX4_readOne 4 8 := hC
  have hx := hC.1.1
  have hb := hC.1.2.1
  have hown := hC.1.2.2.2.1
  have hts := hC.1.2.2.2.2
  have hl : lv_has ls 4 [(0, .ref h0), (1, .int x1)] := hl
  generalize hf0 : f = f0 at hret
  have hS : tq_S X Z (tq_A Z) s.heap f0 [(0, 0), (0, 1), (4, 1), (4, 2), (9, 3), (9, 4), (9, 5), (9, 6), (9, 7)] f s.heap [] := hf0 ▸ hS
  refine lv_aload_n hx hb dX4_readOne_0 rfl (lv_at hl 0 rfl) ?_
  refine gf_RX4_30 hC hS z_h0 dX4_readOne_1 (fun t_1 p_1 q_1 => ?_)
  refine gf_RX4_49 hC hS p_1 dX4_readOne_4 (fun t_4 p_4 q_4 => ?_)
  refine lv_bipush (v := 18) hx hb dX4_readOne_7 (by decide) ?_
  refine lv_icmp_ne (tgt := 52) hx hb dX4_readOne_9 (by decide) (fun c_9 => ?_) (fun c_9 => ?_)
  · skip
    refine lv_aload_n hx hb dX4_readOne_52 rfl (lv_at hl 0 rfl) ?_
    refine lv_iload_n hx hb dX4_readOne_53 rfl (lv_at hl 1 rfl) ?_
    refine tq_callVi (As := [.int x1]) (rest := []) hC (c_X4_readSum_7_7 l X Z _ h0 z_h0 x1 (tq_w i_x1 (by decide) (by decide))) k_X4_readSum ql_RX4_226 (by decide) rfl (by decide) hS z_h0 rfl hl.1 rfl (Nat.le_of_ble_eq_true rfl) ⟨Nat.zero_le _, Nat.zero_le _⟩ dX4_readOne_54 (fun t_54 f1_54 H locs p_54 hS k_54 => ?_)
    refine lv_istore_n (lv' := [(2, .int t_54), (0, .ref h0), (1, .int x1)]) hx hb dX4_readOne_57 rfl hl (by decide) rfl (fun ls hl => ?_)
    refine lv_aload_n hx hb dX4_readOne_58 rfl (lv_at hl 1 rfl) ?_
    refine tq_callVpi (As := []) (rest := []) hC (c_X4_relationHere l X Z _ h0 z_h0) k_X4_relationHere ql_RX4_229 rfl (by decide) hS z_h0 rfl hl.1 rfl (Nat.le_of_ble_eq_true rfl) ⟨Nat.zero_le _, Nat.zero_le _⟩ dX4_readOne_59 (fun t_59 p_59 => ?_)
    refine lv_istore_n (lv' := [(3, .int t_59), (2, .int t_54), (0, .ref h0), (1, .int x1)]) hx hb dX4_readOne_62 rfl hl (by decide) rfl (fun ls hl => ?_)
    refine lv_iload_n hx hb dX4_readOne_63 rfl (lv_at hl 1 rfl) ?_
    have K_97 : ∀ (x2_97 : Int32) (f : Nat → va_E) (H : Heap) (locs : List Loc) (ls : Array Slot), tq_S X Z (tq_A Z) s.heap f0 [(0, 0), (0, 1), (4, 1), (4, 2), (9, 3), (9, 4), (9, 5), (9, 6), (9, 7)] f H locs → tq_iv 0 1 x2_97 → lv_has ls 4 [(2, .int x2_97)] → W p l e R s m args below meth c H locs 0 0 Q (F0 m 97 ls []) := by
      intro x2_97 f H locs ls  hS i1_x2_97 hl
      refine lv_iload_n hx hb dX4_readOne_97 rfl (lv_at hl 0 rfl) ?_
      exact hret x2_97 _ _ _ _ _ (tq_nb i1_x2_97 (by decide) (by decide)) ⟨_, rfl, tq_w i1_x2_97 (by decide) (by decide)⟩ hS dX4_readOne_98
    refine lv_if_eq (tgt := 97) hx hb dX4_readOne_64 (by decide) (fun c_64 => ?_) (fun c_64 => ?_)
    · skip
      have i2_t_54 : tq_iv 0 0 t_54 := tq_cut p_54 (tq_eqL c_64 (⟨by decide, by decide⟩ : tq_iv 0 0 0)) (by decide) (by decide)
      exact K_97 t_54 _ _ _ _ hS (tq_w i2_t_54 (by decide) (by decide)) (lv_sub hl [1] rfl)
    · skip
      have i3_t_54 : tq_iv 1 1 t_54 := tq_w (tq_neLo c_64 p_54 (⟨by decide, by decide⟩ : tq_iv 0 0 0)) (by decide) (by decide)
      refine lv_iload_n hx hb dX4_readOne_67 rfl (lv_at hl 0 rfl) ?_
      refine lv_iconst (v := -1) hx hb dX4_readOne_68 (by decide) ?_
      refine lv_icmp_eq (tgt := 97) hx hb dX4_readOne_69 (by decide) (fun c_69 => ?_) (fun c_69 => ?_)
      · skip
        have i4_t_59 : tq_iv (-1) (-1) t_59 := tq_cut p_59 (tq_eqL c_69 (⟨by decide, by decide⟩ : tq_iv (-1) (-1) (-1))) (by decide) (by decide)
        exact K_97 t_54 _ _ _ _ hS (tq_w i3_t_54 (by decide) (by decide)) (lv_sub hl [1] rfl)
      · skip
        have i5_t_59 : tq_iv 0 10 t_59 := tq_w (tq_neLo c_69 p_59 (⟨by decide, by decide⟩ : tq_iv (-1) (-1) (-1))) (by decide) (by decide)
        refine lv_aload_n hx hb dX4_readOne_72 rfl (lv_at hl 2 rfl) ?_
        refine gf_RX4_30 hC hS z_h0 dX4_readOne_73 (fun t_73 p_73 q_73 => ?_)
        refine tq_callVv (As := []) (rest := []) hC (c_X9_advance l X Z _ t_73 p_73) k_X9_advance ql_RX4_66 (by decide) rfl (by decide) hS p_73 rfl hl.1 rfl (Nat.le_of_ble_eq_true rfl) ⟨Nat.zero_le _, Nat.zero_le _⟩ dX4_readOne_76 (fun f1_76 H locs hS k_76 => ?_)
        refine lv_aload_n hx hb dX4_readOne_79 rfl (lv_at hl 2 rfl) ?_
        refine lv_iload_n hx hb dX4_readOne_80 rfl (lv_at hl 3 rfl) ?_
        refine tq_callVi (As := [.int x1]) (rest := []) hC (c_X4_readSum_7_7 l X Z _ h0 z_h0 x1 (tq_w i_x1 (by decide) (by decide))) k_X4_readSum ql_RX4_226 (by decide) rfl (by decide) hS z_h0 rfl hl.1 rfl (Nat.le_of_ble_eq_true rfl) ⟨Nat.zero_le _, Nat.zero_le _⟩ dX4_readOne_81 (fun t_81 f1_81 H locs p_81 hS k_81 => ?_)
        refine lv_istore_n (lv' := [(2, .int t_81), (3, .int t_59), (0, .ref h0), (1, .int x1)]) hx hb dX4_readOne_84 rfl hl (by decide) rfl (fun ls hl => ?_)
        refine lv_aload_n hx hb dX4_readOne_85 rfl (lv_at hl 2 rfl) ?_
        refine gf_RX4_12 hC hS z_h0 dX4_readOne_86 (fun t_86 p_86 q_86 => ?_)
        refine gf_RX4_214 hC hS p_86 dX4_readOne_89 (fun t_89 p_89 q_89 => ?_)
        refine lv_iload_n hx hb dX4_readOne_92 rfl (lv_at hl 1 rfl) ?_
        refine lv_iconst (v := 0) hx hb dX4_readOne_93 (by decide) ?_
        refine tq_callVv (As := [.int t_59, .int 0]) (rest := []) hC (c_X0_append l X Z _ t_89 p_89 t_59 0) k_X0_append ql_RX4_220 (by decide) rfl (by decide) hS p_89 rfl hl.1 rfl (Nat.le_of_ble_eq_true rfl) ⟨Nat.zero_le _, Nat.zero_le _⟩ dX4_readOne_94 (fun f1_94 H locs hS k_94 => ?_)
        exact K_97 t_81 _ _ _ _ hS (tq_w p_81 (by decide) (by decide)) (lv_sub hl [0] rfl)
  · skip
    have i6_t_4 : tq_iv 18 18 t_4 := tq_cut (tq_top t_4) (tq_eqL c_9 (⟨by decide, by decide⟩ : tq_iv 18 18 18)) (by decide) (by decide)
    refine lv_iload_n hx hb dX4_readOne_12 rfl (lv_at hl 1 rfl) ?_
    refine lv_bipush (v := 6) hx hb dX4_readOne_13 (by decide) ?_
    refine lv_icmp_le (tgt := 23) hx hb dX4_readOne_15 (by decide) (fun c_15 => ?_) (fun c_15 => ?_)
    · skip
      exact (tq_xle c_15 i_x1 (⟨by decide, by decide⟩ : tq_iv 6 6 6) (by decide)).elim
    · skip
      refine lv_aload_n hx hb dX4_readOne_18 rfl (lv_at hl 0 rfl) ?_
      refine tq_callVi (As := []) (rest := []) hC (c_X4_refuse l X Z _ h0 z_h0) k_X4_refuse ql_RX4_63 (by decide) rfl (by decide) hS z_h0 rfl hl.1 rfl (Nat.le_of_ble_eq_true rfl) ⟨Nat.zero_le _, Nat.zero_le _⟩ dX4_readOne_19 (fun t_19 f1_19 H locs p_19 hS k_19 => ?_)
      exact hret t_19 _ _ _ _ _ (tq_nb p_19 (by decide) (by decide)) ⟨_, rfl, tq_w p_19 (by decide) (by decide)⟩ hS dX4_readOne_22
set_option maxHeartbeats 4000000 in
set_option maxRecDepth 100000 in
theorem c_X4_readBoth_7_7 (l : Launch) (X : tq_X) (Z : tq_Z) (f : Nat → va_E) (h0 : Nat) (z_h0 : tq_z Z h0 (.inl 4)) (x1 : Int32) (i_x1 : tq_iv 7 7 x1) : tq_M l X Z f [(0, 0), (0, 1), (4, 1), (4, 2), (9, 3), (9, 4), (9, 5), (9, 6), (9, 7)] yX4_readBoth cX4_readBoth 4 (some .boolean) 9 [.ref h0, .int x1] (tq_ri 0 1) := by
  refine tq_starti (by decide) (Nat.le_of_ble_eq_true rfl) (fun p e R s m args below meth c Q hC hret hS ls hl => ?_)
  have hC : tq_C p R s m args c X (tq_A Z) RX4 cX4_readBoth 4 9 := hC
  have hx := hC.1.1
  have hb := hC.1.2.1
  have hown := hC.1.2.2.2.1
  have hts := hC.1.2.2.2.2
  have hl : lv_has ls 4 [(0, .ref h0), (1, .int x1)] := hl
  generalize hf0 : f = f0 at hret
  have hS : tq_S X Z (tq_A Z) s.heap f0 [(0, 0), (0, 1), (4, 1), (4, 2), (9, 3), (9, 4), (9, 5), (9, 6), (9, 7)] f s.heap [] := hf0 ▸ hS
  refine lv_aload_n hx hb dX4_readBoth_0 rfl (lv_at hl 0 rfl) ?_
  refine lv_iload_n hx hb dX4_readBoth_1 rfl (lv_at hl 1 rfl) ?_
  refine tq_callVi (As := [.int x1]) (rest := []) hC (c_X4_readOne_7_7 l X Z _ h0 z_h0 x1 (tq_w i_x1 (by decide) (by decide))) k_X4_readOne ql_RX4_223 (by decide) rfl (by decide) hS z_h0 rfl hl.1 rfl (Nat.le_of_ble_eq_true rfl) ⟨Nat.zero_le _, Nat.zero_le _⟩ dX4_readBoth_2 (fun t_2 f1_2 H locs p_2 hS k_2 => ?_)
  refine lv_istore_n (lv' := [(2, .int t_2), (0, .ref h0), (1, .int x1)]) hx hb dX4_readBoth_5 rfl hl (by decide) rfl (fun ls hl => ?_)
  refine lv_iconst (v := 0) hx hb dX4_readBoth_6 (by decide) ?_
  refine lv_istore_n (lv' := [(3, .int 0), (2, .int t_2), (0, .ref h0), (1, .int x1)]) hx hb dX4_readBoth_7 rfl hl (by decide) rfl (fun ls hl => ?_)
  have K_8 : ∀ (n_8 : Nat) (x3_8 : Int32) (x2_8 : Int32) (f : Nat → va_E) (H : Heap) (locs : List Loc) (ls : Array Slot), tq_S X Z (tq_A Z) s.heap f0 [(0, 0), (0, 1), (4, 1), (4, 2), (9, 3), (9, 4), (9, 5), (9, 6), (9, 7)] f H locs → tq_iv 0 1 x2_8 → tq_iv 0 1600 x3_8 → (2147483647 - x3_8.toInt).toNat < n_8 → lv_has ls 4 [(3, .int x3_8), (2, .int x2_8), (0, .ref h0), (1, .int x1)] → W p l e R s m args below meth c H locs 0 0 Q (F0 m 8 ls []) := by
    intro n_8
    induction n_8 with
    | zero => intro x3_8 x2_8 f H locs ls  hS i1_x2_8 i2_x3_8 hn_8; exact absurd hn_8 (Nat.not_lt_zero _)
    | succ n_8 ih_8 =>
      intro x3_8 x2_8 f H locs ls  hS i1_x2_8 i2_x3_8 hn_8 hl
      refine lv_iload_n hx hb dX4_readBoth_8 rfl (lv_at hl 0 rfl) ?_
      refine lv_sipush (v := 1600) hx hb dX4_readBoth_9 (by decide) ?_
      have K_63 : ∀ (f : Nat → va_E) (H : Heap) (locs : List Loc) (ls : Array Slot), tq_S X Z (tq_A Z) s.heap f0 [(0, 0), (0, 1), (4, 1), (4, 2), (9, 3), (9, 4), (9, 5), (9, 6), (9, 7)] f H locs → lv_has ls 4 [(2, .int x2_8)] → W p l e R s m args below meth c H locs 0 0 Q (F0 m 63 ls []) := by
        intro f H locs ls  hS hl
        refine lv_iload_n hx hb dX4_readBoth_63 rfl (lv_at hl 0 rfl) ?_
        exact hret x2_8 _ _ _ _ _ (tq_nb i1_x2_8 (by decide) (by decide)) ⟨_, rfl, tq_w i1_x2_8 (by decide) (by decide)⟩ hS dX4_readBoth_64
      refine lv_icmp_ge (tgt := 63) hx hb dX4_readBoth_12 (by decide) (fun c_12 => ?_) (fun c_12 => ?_)
      · skip
        have i3_x3_8 : tq_iv 1600 1600 x3_8 := tq_cut i2_x3_8 (tq_leR c_12 (⟨by decide, by decide⟩ : tq_iv 1600 1600 1600) i2_x3_8) (by decide) (by decide)
        exact K_63 _ _ _ _ hS (lv_sub hl [1] rfl)
      · skip
        have i4_x3_8 : tq_iv 0 1599 x3_8 := tq_cut i2_x3_8 (tq_ltL (tq_nle c_12) i2_x3_8 (⟨by decide, by decide⟩ : tq_iv 1600 1600 1600)) (by decide) (by decide)
        refine lv_iload_n hx hb dX4_readBoth_15 rfl (lv_at hl 1 rfl) ?_
        refine lv_if_eq (tgt := 63) hx hb dX4_readBoth_16 (by decide) (fun c_16 => ?_) (fun c_16 => ?_)
        · skip
          have i5_x2_8 : tq_iv 0 0 x2_8 := tq_cut i1_x2_8 (tq_eqL c_16 (⟨by decide, by decide⟩ : tq_iv 0 0 0)) (by decide) (by decide)
          exact K_63 _ _ _ _ hS (lv_sub hl [1] rfl)
        · skip
          have i6_x2_8 : tq_iv 1 1 x2_8 := tq_w (tq_neLo c_16 i1_x2_8 (⟨by decide, by decide⟩ : tq_iv 0 0 0)) (by decide) (by decide)
          refine lv_aload_n hx hb dX4_readBoth_19 rfl (lv_at hl 2 rfl) ?_
          refine gf_RX4_30 hC hS z_h0 dX4_readBoth_20 (fun t_20 p_20 q_20 => ?_)
          refine gf_RX4_49 hC hS p_20 dX4_readBoth_23 (fun t_23 p_23 q_23 => ?_)
          refine lv_bipush (v := 17) hx hb dX4_readBoth_26 (by decide) ?_
          refine lv_icmp_ne (tgt := 63) hx hb dX4_readBoth_28 (by decide) (fun c_28 => ?_) (fun c_28 => ?_)
          · skip
            exact K_63 _ _ _ _ hS (lv_sub hl [1] rfl)
          · skip
            have i7_t_23 : tq_iv 17 17 t_23 := tq_cut (tq_top t_23) (tq_eqL c_28 (⟨by decide, by decide⟩ : tq_iv 17 17 17)) (by decide) (by decide)
            refine lv_aload_n hx hb dX4_readBoth_31 rfl (lv_at hl 2 rfl) ?_
            refine gf_RX4_30 hC hS z_h0 dX4_readBoth_32 (fun t_32 p_32 q_32 => ?_)
            refine tq_callVv (As := []) (rest := []) hC (c_X9_advance l X Z _ t_32 p_32) k_X9_advance ql_RX4_66 (by decide) rfl (by decide) hS p_32 rfl hl.1 rfl (Nat.le_of_ble_eq_true rfl) ⟨Nat.zero_le _, Nat.zero_le _⟩ dX4_readBoth_35 (fun f1_35 H locs hS k_35 => ?_)
            refine lv_aload_n hx hb dX4_readBoth_38 rfl (lv_at hl 2 rfl) ?_
            refine lv_iload_n hx hb dX4_readBoth_39 rfl (lv_at hl 3 rfl) ?_
            refine tq_callVi (As := [.int x1]) (rest := []) hC (c_X4_readOne_7_7 l X Z _ h0 z_h0 x1 (tq_w i_x1 (by decide) (by decide))) k_X4_readOne ql_RX4_223 (by decide) rfl (by decide) hS z_h0 rfl hl.1 rfl (Nat.le_of_ble_eq_true rfl) ⟨Nat.zero_le _, Nat.zero_le _⟩ dX4_readBoth_40 (fun t_40 f1_40 H locs p_40 hS k_40 => ?_)
            refine lv_istore_n (lv' := [(2, .int t_40), (3, .int x3_8), (0, .ref h0), (1, .int x1)]) hx hb dX4_readBoth_43 rfl hl (by decide) rfl (fun ls hl => ?_)
            refine lv_aload_n hx hb dX4_readBoth_44 rfl (lv_at hl 2 rfl) ?_
            refine gf_RX4_12 hC hS z_h0 dX4_readBoth_45 (fun t_45 p_45 q_45 => ?_)
            refine gf_RX4_214 hC hS p_45 dX4_readBoth_48 (fun t_48 p_48 q_48 => ?_)
            refine lv_bipush (v := 7) hx hb dX4_readBoth_51 (by decide) ?_
            refine lv_iconst (v := 0) hx hb dX4_readBoth_53 (by decide) ?_
            refine tq_callVv (As := [.int 7, .int 0]) (rest := []) hC (c_X0_append l X Z _ t_48 p_48 7 0) k_X0_append ql_RX4_220 (by decide) rfl (by decide) hS p_48 rfl hl.1 rfl (Nat.le_of_ble_eq_true rfl) ⟨Nat.zero_le _, Nat.zero_le _⟩ dX4_readBoth_54 (fun f1_54 H locs hS k_54 => ?_)
            obtain ⟨t_57, e_57⟩ : ∃ y : Int32, y = x3_8 + 1 := ⟨_, rfl⟩
            have i8_t_57 : tq_iv 1 1600 t_57 := tq_w (tq_add e_57 i4_x3_8 (⟨by decide, by decide⟩ : tq_iv 1 1 1) (by decide) (by decide)) (by decide) (by decide)
            refine lv_iinc (v := t_57) (lv' := [(3, .int t_57), (2, .int t_40), (0, .ref h0), (1, .int x1)]) hx hb dX4_readBoth_57 hl (k := 1) rfl (by rw [e_57]; rfl) (by decide) rfl (fun ls hl => ?_)
            refine lv_goto (tgt := 8) hx hb dX4_readBoth_60 (by decide) ?_
            exact ih_8 t_57 t_40 _ _ _ _ hS (tq_w p_40 (by decide) (by decide)) (tq_w i8_t_57 (by decide) (by decide)) (tq_up e_57 i4_x3_8 (⟨by decide, by decide⟩ : tq_iv 1 1 1) (by decide) (by decide) hn_8) (lv_sub hl [0, 1, 2, 3] rfl)
  exact K_8 _ 0 t_2 _ _ _ _ hS (tq_w p_2 (by decide) (by decide)) (tq_w (⟨by decide, by decide⟩ : tq_iv 0 0 0) (by decide) (by decide)) (Nat.lt_succ_self _) (lv_sub hl [0, 1, 2, 3] rfl)
set_option maxHeartbeats 4000000 in
set_option maxRecDepth 100000 in
theorem c_X4_readEither_7_7 (l : Launch) (X : tq_X) (Z : tq_Z) (f : Nat → va_E) (h0 : Nat) (z_h0 : tq_z Z h0 (.inl 4)) (x1 : Int32) (i_x1 : tq_iv 7 7 x1) : tq_M l X Z f [(0, 0), (0, 1), (4, 1), (4, 2), (9, 3), (9, 4), (9, 5), (9, 6), (9, 7)] yX4_readEither cX4_readEither 4 (some .boolean) 10 [.ref h0, .int x1] (tq_ri 0 1) := by
  refine tq_starti (by decide) (Nat.le_of_ble_eq_true rfl) (fun p e R s m args below meth c Q hC hret hS ls hl => ?_)
  have hC : tq_C p R s m args c X (tq_A Z) RX4 cX4_readEither 4 10 := hC
  have hx := hC.1.1
  have hb := hC.1.2.1
  have hown := hC.1.2.2.2.1
  have hts := hC.1.2.2.2.2
  have hl : lv_has ls 4 [(0, .ref h0), (1, .int x1)] := hl
  generalize hf0 : f = f0 at hret
  have hS : tq_S X Z (tq_A Z) s.heap f0 [(0, 0), (0, 1), (4, 1), (4, 2), (9, 3), (9, 4), (9, 5), (9, 6), (9, 7)] f s.heap [] := hf0 ▸ hS
  refine lv_aload_n hx hb dX4_readEither_0 rfl (lv_at hl 0 rfl) ?_
  refine lv_iload_n hx hb dX4_readEither_1 rfl (lv_at hl 1 rfl) ?_
  refine tq_callVi (As := [.int x1]) (rest := []) hC (c_X4_readBoth_7_7 l X Z _ h0 z_h0 x1 (tq_w i_x1 (by decide) (by decide))) k_X4_readBoth ql_RX4_211 (by decide) rfl (by decide) hS z_h0 rfl hl.1 rfl (Nat.le_of_ble_eq_true rfl) ⟨Nat.zero_le _, Nat.zero_le _⟩ dX4_readEither_2 (fun t_2 f1_2 H locs p_2 hS k_2 => ?_)
  refine lv_istore_n (lv' := [(2, .int t_2), (0, .ref h0), (1, .int x1)]) hx hb dX4_readEither_5 rfl hl (by decide) rfl (fun ls hl => ?_)
  refine lv_iconst (v := 0) hx hb dX4_readEither_6 (by decide) ?_
  refine lv_istore_n (lv' := [(3, .int 0), (2, .int t_2), (0, .ref h0), (1, .int x1)]) hx hb dX4_readEither_7 rfl hl (by decide) rfl (fun ls hl => ?_)
  have K_8 : ∀ (n_8 : Nat) (x3_8 : Int32) (x2_8 : Int32) (f : Nat → va_E) (H : Heap) (locs : List Loc) (ls : Array Slot), tq_S X Z (tq_A Z) s.heap f0 [(0, 0), (0, 1), (4, 1), (4, 2), (9, 3), (9, 4), (9, 5), (9, 6), (9, 7)] f H locs → tq_iv 0 1 x2_8 → tq_iv 0 1600 x3_8 → (2147483647 - x3_8.toInt).toNat < n_8 → lv_has ls 4 [(3, .int x3_8), (2, .int x2_8), (0, .ref h0), (1, .int x1)] → W p l e R s m args below meth c H locs 0 0 Q (F0 m 8 ls []) := by
    intro n_8
    induction n_8 with
    | zero => intro x3_8 x2_8 f H locs ls  hS i1_x2_8 i2_x3_8 hn_8; exact absurd hn_8 (Nat.not_lt_zero _)
    | succ n_8 ih_8 =>
      intro x3_8 x2_8 f H locs ls  hS i1_x2_8 i2_x3_8 hn_8 hl
      refine lv_iload_n hx hb dX4_readEither_8 rfl (lv_at hl 0 rfl) ?_
      refine lv_sipush (v := 1600) hx hb dX4_readEither_9 (by decide) ?_
      have K_63 : ∀ (f : Nat → va_E) (H : Heap) (locs : List Loc) (ls : Array Slot), tq_S X Z (tq_A Z) s.heap f0 [(0, 0), (0, 1), (4, 1), (4, 2), (9, 3), (9, 4), (9, 5), (9, 6), (9, 7)] f H locs → lv_has ls 4 [(2, .int x2_8)] → W p l e R s m args below meth c H locs 0 0 Q (F0 m 63 ls []) := by
        intro f H locs ls  hS hl
        refine lv_iload_n hx hb dX4_readEither_63 rfl (lv_at hl 0 rfl) ?_
        exact hret x2_8 _ _ _ _ _ (tq_nb i1_x2_8 (by decide) (by decide)) ⟨_, rfl, tq_w i1_x2_8 (by decide) (by decide)⟩ hS dX4_readEither_64
      refine lv_icmp_ge (tgt := 63) hx hb dX4_readEither_12 (by decide) (fun c_12 => ?_) (fun c_12 => ?_)
      · skip
        have i3_x3_8 : tq_iv 1600 1600 x3_8 := tq_cut i2_x3_8 (tq_leR c_12 (⟨by decide, by decide⟩ : tq_iv 1600 1600 1600) i2_x3_8) (by decide) (by decide)
        exact K_63 _ _ _ _ hS (lv_sub hl [1] rfl)
      · skip
        have i4_x3_8 : tq_iv 0 1599 x3_8 := tq_cut i2_x3_8 (tq_ltL (tq_nle c_12) i2_x3_8 (⟨by decide, by decide⟩ : tq_iv 1600 1600 1600)) (by decide) (by decide)
        refine lv_iload_n hx hb dX4_readEither_15 rfl (lv_at hl 1 rfl) ?_
        refine lv_if_eq (tgt := 63) hx hb dX4_readEither_16 (by decide) (fun c_16 => ?_) (fun c_16 => ?_)
        · skip
          have i5_x2_8 : tq_iv 0 0 x2_8 := tq_cut i1_x2_8 (tq_eqL c_16 (⟨by decide, by decide⟩ : tq_iv 0 0 0)) (by decide) (by decide)
          exact K_63 _ _ _ _ hS (lv_sub hl [1] rfl)
        · skip
          have i6_x2_8 : tq_iv 1 1 x2_8 := tq_w (tq_neLo c_16 i1_x2_8 (⟨by decide, by decide⟩ : tq_iv 0 0 0)) (by decide) (by decide)
          refine lv_aload_n hx hb dX4_readEither_19 rfl (lv_at hl 2 rfl) ?_
          refine gf_RX4_30 hC hS z_h0 dX4_readEither_20 (fun t_20 p_20 q_20 => ?_)
          refine gf_RX4_49 hC hS p_20 dX4_readEither_23 (fun t_23 p_23 q_23 => ?_)
          refine lv_bipush (v := 16) hx hb dX4_readEither_26 (by decide) ?_
          refine lv_icmp_ne (tgt := 63) hx hb dX4_readEither_28 (by decide) (fun c_28 => ?_) (fun c_28 => ?_)
          · skip
            exact K_63 _ _ _ _ hS (lv_sub hl [1] rfl)
          · skip
            have i7_t_23 : tq_iv 16 16 t_23 := tq_cut (tq_top t_23) (tq_eqL c_28 (⟨by decide, by decide⟩ : tq_iv 16 16 16)) (by decide) (by decide)
            refine lv_aload_n hx hb dX4_readEither_31 rfl (lv_at hl 2 rfl) ?_
            refine gf_RX4_30 hC hS z_h0 dX4_readEither_32 (fun t_32 p_32 q_32 => ?_)
            refine tq_callVv (As := []) (rest := []) hC (c_X9_advance l X Z _ t_32 p_32) k_X9_advance ql_RX4_66 (by decide) rfl (by decide) hS p_32 rfl hl.1 rfl (Nat.le_of_ble_eq_true rfl) ⟨Nat.zero_le _, Nat.zero_le _⟩ dX4_readEither_35 (fun f1_35 H locs hS k_35 => ?_)
            refine lv_aload_n hx hb dX4_readEither_38 rfl (lv_at hl 2 rfl) ?_
            refine lv_iload_n hx hb dX4_readEither_39 rfl (lv_at hl 3 rfl) ?_
            refine tq_callVi (As := [.int x1]) (rest := []) hC (c_X4_readBoth_7_7 l X Z _ h0 z_h0 x1 (tq_w i_x1 (by decide) (by decide))) k_X4_readBoth ql_RX4_211 (by decide) rfl (by decide) hS z_h0 rfl hl.1 rfl (Nat.le_of_ble_eq_true rfl) ⟨Nat.zero_le _, Nat.zero_le _⟩ dX4_readEither_40 (fun t_40 f1_40 H locs p_40 hS k_40 => ?_)
            refine lv_istore_n (lv' := [(2, .int t_40), (3, .int x3_8), (0, .ref h0), (1, .int x1)]) hx hb dX4_readEither_43 rfl hl (by decide) rfl (fun ls hl => ?_)
            refine lv_aload_n hx hb dX4_readEither_44 rfl (lv_at hl 2 rfl) ?_
            refine gf_RX4_12 hC hS z_h0 dX4_readEither_45 (fun t_45 p_45 q_45 => ?_)
            refine gf_RX4_214 hC hS p_45 dX4_readEither_48 (fun t_48 p_48 q_48 => ?_)
            refine lv_bipush (v := 6) hx hb dX4_readEither_51 (by decide) ?_
            refine lv_iconst (v := 0) hx hb dX4_readEither_53 (by decide) ?_
            refine tq_callVv (As := [.int 6, .int 0]) (rest := []) hC (c_X0_append l X Z _ t_48 p_48 6 0) k_X0_append ql_RX4_220 (by decide) rfl (by decide) hS p_48 rfl hl.1 rfl (Nat.le_of_ble_eq_true rfl) ⟨Nat.zero_le _, Nat.zero_le _⟩ dX4_readEither_54 (fun f1_54 H locs hS k_54 => ?_)
            obtain ⟨t_57, e_57⟩ : ∃ y : Int32, y = x3_8 + 1 := ⟨_, rfl⟩
            have i8_t_57 : tq_iv 1 1600 t_57 := tq_w (tq_add e_57 i4_x3_8 (⟨by decide, by decide⟩ : tq_iv 1 1 1) (by decide) (by decide)) (by decide) (by decide)
            refine lv_iinc (v := t_57) (lv' := [(3, .int t_57), (2, .int t_40), (0, .ref h0), (1, .int x1)]) hx hb dX4_readEither_57 hl (k := 1) rfl (by rw [e_57]; rfl) (by decide) rfl (fun ls hl => ?_)
            refine lv_goto (tgt := 8) hx hb dX4_readEither_60 (by decide) ?_
            exact ih_8 t_57 t_40 _ _ _ _ hS (tq_w p_40 (by decide) (by decide)) (tq_w i8_t_57 (by decide) (by decide)) (tq_up e_57 i4_x3_8 (⟨by decide, by decide⟩ : tq_iv 1 1 1) (by decide) (by decide) hn_8) (lv_sub hl [0, 1, 2, 3] rfl)
  exact K_8 _ 0 t_2 _ _ _ _ hS (tq_w p_2 (by decide) (by decide)) (tq_w (⟨by decide, by decide⟩ : tq_iv 0 0 0) (by decide) (by decide)) (Nat.lt_succ_self _) (lv_sub hl [0, 1, 2, 3] rfl)
set_option maxHeartbeats 4000000 in
set_option maxRecDepth 100000 in
theorem c_X4_readUnit_6_6 (l : Launch) (X : tq_X) (Z : tq_Z) (f : Nat → va_E) (h0 : Nat) (z_h0 : tq_z Z h0 (.inl 4)) (x1 : Int32) (i_x1 : tq_iv 6 6 x1) : tq_M l X Z f [(0, 0), (0, 1), (4, 1), (4, 2), (9, 3), (9, 4), (9, 5), (9, 6), (9, 7)] yX4_readUnit cX4_readUnit 4 (some .boolean) 11 [.ref h0, .int x1] (tq_ri 0 1) := by
  refine tq_starti (by decide) (Nat.le_of_ble_eq_true rfl) (fun p e R s m args below meth c Q hC hret hS ls hl => ?_)
  have hC : tq_C p R s m args c X (tq_A Z) RX4 cX4_readUnit 4 11 := hC
  have hx := hC.1.1
  have hb := hC.1.2.1
  have hown := hC.1.2.2.2.1
  have hts := hC.1.2.2.2.2
  have hl : lv_has ls 4 [(0, .ref h0), (1, .int x1)] := hl
  generalize hf0 : f = f0 at hret
  have hS : tq_S X Z (tq_A Z) s.heap f0 [(0, 0), (0, 1), (4, 1), (4, 2), (9, 3), (9, 4), (9, 5), (9, 6), (9, 7)] f s.heap [] := hf0 ▸ hS
  refine lv_aload_n hx hb dX4_readUnit_0 rfl (lv_at hl 0 rfl) ?_
  refine gf_RX4_30 hC hS z_h0 dX4_readUnit_1 (fun t_1 p_1 q_1 => ?_)
  refine gf_RX4_49 hC hS p_1 dX4_readUnit_4 (fun t_4 p_4 q_4 => ?_)
  refine lv_bipush (v := 40) hx hb dX4_readUnit_7 (by decide) ?_
  have K_17 : ∀ (y0_17 : Int32) (f : Nat → va_E) (H : Heap) (locs : List Loc) (ls : Array Slot), tq_S X Z (tq_A Z) s.heap f0 [(0, 0), (0, 1), (4, 1), (4, 2), (9, 3), (9, 4), (9, 5), (9, 6), (9, 7)] f H locs → tq_iv 0 1 y0_17 → lv_has ls 4 [(0, .ref h0), (1, .int x1)] → W p l e R s m args below meth c H locs 0 0 Q (F0 m 17 ls [.int y0_17]) := by
    intro y0_17 f H locs ls  hS i1_y0_17 hl
    refine lv_istore_n (lv' := [(2, .int y0_17), (0, .ref h0), (1, .int x1)]) hx hb dX4_readUnit_17 rfl hl (by decide) rfl (fun ls hl => ?_)
    refine lv_aload_n hx hb dX4_readUnit_18 rfl (lv_at hl 1 rfl) ?_
    refine tq_callVpi (As := []) (rest := []) hC (c_X4_unitHere l X Z _ h0 z_h0) k_X4_unitHere ql_RX4_241 rfl (by decide) hS z_h0 rfl hl.1 rfl (Nat.le_of_ble_eq_true rfl) ⟨Nat.zero_le _, Nat.zero_le _⟩ dX4_readUnit_19 (fun t_19 p_19 => ?_)
    refine lv_istore_n (lv' := [(3, .int t_19), (2, .int y0_17), (0, .ref h0), (1, .int x1)]) hx hb dX4_readUnit_22 rfl hl (by decide) rfl (fun ls hl => ?_)
    refine lv_iload_n hx hb dX4_readUnit_23 rfl (lv_at hl 1 rfl) ?_
    have K_47 : ∀ (f : Nat → va_E) (H : Heap) (locs : List Loc) (ls : Array Slot), tq_S X Z (tq_A Z) s.heap f0 [(0, 0), (0, 1), (4, 1), (4, 2), (9, 3), (9, 4), (9, 5), (9, 6), (9, 7)] f H locs → lv_has ls 4 [(0, .ref h0)] → W p l e R s m args below meth c H locs 0 0 Q (F0 m 47 ls []) := by
      intro f H locs ls  hS hl
      refine lv_aload_n hx hb dX4_readUnit_47 rfl (lv_at hl 0 rfl) ?_
      refine tq_callVi (As := []) (rest := []) hC (c_X4_refuse l X Z _ h0 z_h0) k_X4_refuse ql_RX4_63 (by decide) rfl (by decide) hS z_h0 rfl hl.1 rfl (Nat.le_of_ble_eq_true rfl) ⟨Nat.zero_le _, Nat.zero_le _⟩ dX4_readUnit_48 (fun t_48 f1_48 H locs p_48 hS k_48 => ?_)
      exact hret t_48 _ _ _ _ _ (tq_nb p_48 (by decide) (by decide)) ⟨_, rfl, tq_w p_48 (by decide) (by decide)⟩ hS dX4_readUnit_51
    have K_32 : ∀ (f : Nat → va_E) (H : Heap) (locs : List Loc) (ls : Array Slot), tq_S X Z (tq_A Z) s.heap f0 [(0, 0), (0, 1), (4, 1), (4, 2), (9, 3), (9, 4), (9, 5), (9, 6), (9, 7)] f H locs → lv_has ls 4 [(3, .int t_19), (2, .int y0_17), (0, .ref h0), (1, .int x1)] → W p l e R s m args below meth c H locs 0 0 Q (F0 m 32 ls []) := by
      intro f H locs ls  hS hl
      refine lv_aload_n hx hb dX4_readUnit_32 rfl (lv_at hl 2 rfl) ?_
      refine gf_RX4_12 hC hS z_h0 dX4_readUnit_33 (fun t_33 p_33 q_33 => ?_)
      refine gf_RX4_214 hC hS p_33 dX4_readUnit_36 (fun t_36 p_36 q_36 => ?_)
      refine gf_RX4_244 hC hS p_36 dX4_readUnit_39 (fun t_39 p_39 q_39 => ?_)
      refine lv_bipush (v := 30) hx hb dX4_readUnit_42 (by decide) ?_
      refine lv_icmp_lt (tgt := 52) hx hb dX4_readUnit_44 (by decide) (fun c_44 => ?_) (fun c_44 => ?_)
      · skip
        have i2_t_39 : tq_iv (-2147483648) 29 t_39 := tq_cut (tq_top t_39) (tq_ltL c_44 (tq_top t_39) (⟨by decide, by decide⟩ : tq_iv 30 30 30)) (by decide) (by decide)
        refine lv_iload_n hx hb dX4_readUnit_52 rfl (lv_at hl 1 rfl) ?_
        have K_67 : ∀ (f : Nat → va_E) (H : Heap) (locs : List Loc) (ls : Array Slot), tq_S X Z (tq_A Z) s.heap f0 [(0, 0), (0, 1), (4, 1), (4, 2), (9, 3), (9, 4), (9, 5), (9, 6), (9, 7)] f H locs → lv_has ls 4 [(3, .int t_19), (2, .int y0_17), (0, .ref h0), (1, .int x1)] → W p l e R s m args below meth c H locs 0 0 Q (F0 m 67 ls []) := by
          intro f H locs ls  hS hl
          refine lv_aload_n hx hb dX4_readUnit_67 rfl (lv_at hl 2 rfl) ?_
          refine gf_RX4_12 hC hS z_h0 dX4_readUnit_68 (fun t_68 p_68 q_68 => ?_)
          refine gf_RX4_214 hC hS p_68 dX4_readUnit_71 (fun t_71 p_71 q_71 => ?_)
          refine lv_dup hx hb dX4_readUnit_74 rfl ?_
          refine gf_RX4_244 hC hS p_71 dX4_readUnit_75 (fun t_75 p_75 q_75 => ?_)
          refine lv_iconst (v := 1) hx hb dX4_readUnit_78 (by decide) ?_
          refine lv_iadd hx hb dX4_readUnit_79 ?_
          refine lv_topi (fun t_79 e_79 => ?_)
          refine pf_RX4_244 hC hS p_71 (by decide) trivial dX4_readUnit_80 (fun f H locs hS q_80 k_80 => ?_)
          refine lv_iload_n hx hb dX4_readUnit_83 rfl (lv_at hl 1 rfl) ?_
          have K_105 : ∀ (f : Nat → va_E) (H : Heap) (locs : List Loc) (ls : Array Slot), tq_S X Z (tq_A Z) s.heap f0 [(0, 0), (0, 1), (4, 1), (4, 2), (9, 3), (9, 4), (9, 5), (9, 6), (9, 7)] f H locs → lv_has ls 4 [(2, .int y0_17), (0, .ref h0), (1, .int x1)] → W p l e R s m args below meth c H locs 0 0 Q (F0 m 105 ls []) := by
            intro f H locs ls  hS hl
            refine lv_aload_n hx hb dX4_readUnit_105 rfl (lv_at hl 1 rfl) ?_
            refine gf_RX4_30 hC hS z_h0 dX4_readUnit_106 (fun t_106 p_106 q_106 => ?_)
            refine tq_callVv (As := []) (rest := []) hC (c_X9_advance l X Z _ t_106 p_106) k_X9_advance ql_RX4_66 (by decide) rfl (by decide) hS p_106 rfl hl.1 rfl (Nat.le_of_ble_eq_true rfl) ⟨Nat.zero_le _, Nat.zero_le _⟩ dX4_readUnit_109 (fun f1_109 H locs hS k_109 => ?_)
            refine lv_iload_n hx hb dX4_readUnit_112 rfl (lv_at hl 0 rfl) ?_
            have K_140 : ∀ (y0_140 : Int32) (f : Nat → va_E) (H : Heap) (locs : List Loc) (ls : Array Slot), tq_S X Z (tq_A Z) s.heap f0 [(0, 0), (0, 1), (4, 1), (4, 2), (9, 3), (9, 4), (9, 5), (9, 6), (9, 7)] f H locs → tq_iv 0 1 y0_140 → lv_has ls 4 [] → W p l e R s m args below meth c H locs 0 0 Q (F0 m 140 ls [.int y0_140]) := by
              intro y0_140 f H locs ls  hS i3_y0_140 hl
              exact hret y0_140 _ _ _ _ _ (tq_nb i3_y0_140 (by decide) (by decide)) ⟨_, rfl, tq_w i3_y0_140 (by decide) (by decide)⟩ hS dX4_readUnit_140
            have K_135 : ∀ (f : Nat → va_E) (H : Heap) (locs : List Loc) (ls : Array Slot), tq_S X Z (tq_A Z) s.heap f0 [(0, 0), (0, 1), (4, 1), (4, 2), (9, 3), (9, 4), (9, 5), (9, 6), (9, 7)] f H locs → lv_has ls 4 [] → W p l e R s m args below meth c H locs 0 0 Q (F0 m 135 ls []) := by
              intro f H locs ls  hS hl
              refine lv_iconst (v := 1) hx hb dX4_readUnit_135 (by decide) ?_
              refine lv_goto (tgt := 140) hx hb dX4_readUnit_136 (by decide) ?_
              exact K_140 1 _ _ _ _ hS (tq_w (⟨by decide, by decide⟩ : tq_iv 1 1 1) (by decide) (by decide)) (lv_sub hl [] rfl)
            refine lv_if_eq (tgt := 135) hx hb dX4_readUnit_113 (by decide) (fun c_113 => ?_) (fun c_113 => ?_)
            · skip
              have i4_y0_17 : tq_iv 0 0 y0_17 := tq_cut i1_y0_17 (tq_eqL c_113 (⟨by decide, by decide⟩ : tq_iv 0 0 0)) (by decide) (by decide)
              exact K_135 _ _ _ _ hS (lv_sub hl [] rfl)
            · skip
              have i5_y0_17 : tq_iv 1 1 y0_17 := tq_w (tq_neLo c_113 i1_y0_17 (⟨by decide, by decide⟩ : tq_iv 0 0 0)) (by decide) (by decide)
              refine lv_aload_n hx hb dX4_readUnit_116 rfl (lv_at hl 1 rfl) ?_
              refine lv_iload_n hx hb dX4_readUnit_117 rfl (lv_at hl 2 rfl) ?_
              refine lv_iconst (v := 1) hx hb dX4_readUnit_118 (by decide) ?_
              refine lv_iadd hx hb dX4_readUnit_119 ?_
              refine lv_topi (fun t_119 e_119 => ?_)
              have i6_t_119 : tq_iv 7 7 t_119 := tq_w (tq_add e_119 i_x1 (⟨by decide, by decide⟩ : tq_iv 1 1 1) (by decide) (by decide)) (by decide) (by decide)
              refine tq_callVi (As := [.int t_119]) (rest := []) hC (c_X4_readEither_7_7 l X Z _ h0 z_h0 t_119 (tq_w i6_t_119 (by decide) (by decide))) k_X4_readEither ql_RX4_94 (by decide) rfl (by decide) hS z_h0 rfl hl.1 rfl (Nat.le_of_ble_eq_true rfl) ⟨Nat.zero_le _, Nat.zero_le _⟩ dX4_readUnit_120 (fun t_120 f1_120 H locs p_120 hS k_120 => ?_)
              have K_139 : ∀ (f : Nat → va_E) (H : Heap) (locs : List Loc) (ls : Array Slot), tq_S X Z (tq_A Z) s.heap f0 [(0, 0), (0, 1), (4, 1), (4, 2), (9, 3), (9, 4), (9, 5), (9, 6), (9, 7)] f H locs → lv_has ls 4 [] → W p l e R s m args below meth c H locs 0 0 Q (F0 m 139 ls []) := by
                intro f H locs ls  hS hl
                refine lv_iconst (v := 0) hx hb dX4_readUnit_139 (by decide) ?_
                exact K_140 0 _ _ _ _ hS (tq_w (⟨by decide, by decide⟩ : tq_iv 0 0 0) (by decide) (by decide)) (lv_sub hl [] rfl)
              refine lv_if_eq (tgt := 139) hx hb dX4_readUnit_123 (by decide) (fun c_123 => ?_) (fun c_123 => ?_)
              · skip
                have i7_t_120 : tq_iv 0 0 t_120 := tq_cut p_120 (tq_eqL c_123 (⟨by decide, by decide⟩ : tq_iv 0 0 0)) (by decide) (by decide)
                exact K_139 _ _ _ _ hS (lv_sub hl [] rfl)
              · skip
                have i8_t_120 : tq_iv 1 1 t_120 := tq_w (tq_neLo c_123 p_120 (⟨by decide, by decide⟩ : tq_iv 0 0 0)) (by decide) (by decide)
                refine lv_aload_n hx hb dX4_readUnit_126 rfl (lv_at hl 1 rfl) ?_
                refine lv_bipush (v := 41) hx hb dX4_readUnit_127 (by decide) ?_
                refine tq_callVi (As := [.int 41]) (rest := []) hC (c_X4_expect l X Z _ h0 z_h0 41) k_X4_expect ql_RX4_97 (by decide) rfl (by decide) hS z_h0 rfl hl.1 rfl (Nat.le_of_ble_eq_true rfl) ⟨Nat.zero_le _, Nat.zero_le _⟩ dX4_readUnit_129 (fun t_129 f1_129 H locs p_129 hS k_129 => ?_)
                refine lv_if_eq (tgt := 139) hx hb dX4_readUnit_132 (by decide) (fun c_132 => ?_) (fun c_132 => ?_)
                · skip
                  have i9_t_129 : tq_iv 0 0 t_129 := tq_cut p_129 (tq_eqL c_132 (⟨by decide, by decide⟩ : tq_iv 0 0 0)) (by decide) (by decide)
                  exact K_139 _ _ _ _ hS (lv_sub hl [] rfl)
                · skip
                  have i10_t_129 : tq_iv 1 1 t_129 := tq_w (tq_neLo c_132 p_129 (⟨by decide, by decide⟩ : tq_iv 0 0 0)) (by decide) (by decide)
                  exact K_135 _ _ _ _ hS (lv_sub hl [] rfl)
          refine lv_if_ne (tgt := 105) hx hb dX4_readUnit_84 (by decide) (fun c_84 => ?_) (fun c_84 => ?_)
          · skip
            have i11_y0_17 : tq_iv 1 1 y0_17 := tq_w (tq_neLo c_84 i1_y0_17 (⟨by decide, by decide⟩ : tq_iv 0 0 0)) (by decide) (by decide)
            exact K_105 _ _ _ _ hS (lv_sub hl [1, 2, 3] rfl)
          · skip
            have i12_y0_17 : tq_iv 0 0 y0_17 := tq_cut i1_y0_17 (tq_eqL c_84 (⟨by decide, by decide⟩ : tq_iv 0 0 0)) (by decide) (by decide)
            refine lv_aload_n hx hb dX4_readUnit_87 rfl (lv_at hl 2 rfl) ?_
            refine gf_RX4_12 hC hS z_h0 dX4_readUnit_88 (fun t_88 p_88 q_88 => ?_)
            refine gf_RX4_214 hC hS p_88 dX4_readUnit_91 (fun t_91 p_91 q_91 => ?_)
            refine lv_iload_n hx hb dX4_readUnit_94 rfl (lv_at hl 0 rfl) ?_
            refine lv_aload_n hx hb dX4_readUnit_95 rfl (lv_at hl 2 rfl) ?_
            refine gf_RX4_30 hC hS z_h0 dX4_readUnit_96 (fun t_96 p_96 q_96 => ?_)
            refine gf_RX4_106 hC hS p_96 dX4_readUnit_99 (fun t_99 p_99 q_99 => ?_)
            refine tq_callVv (As := [.int t_19, .int t_99]) (rest := []) hC (c_X0_append l X Z _ t_91 p_91 t_19 t_99) k_X0_append ql_RX4_220 (by decide) rfl (by decide) hS p_91 rfl hl.1 rfl (Nat.le_of_ble_eq_true rfl) ⟨Nat.zero_le _, Nat.zero_le _⟩ dX4_readUnit_102 (fun f1_102 H locs hS k_102 => ?_)
            exact K_105 _ _ _ _ hS (lv_sub hl [1, 2, 3] rfl)
        refine lv_if_eq (tgt := 67) hx hb dX4_readUnit_53 (by decide) (fun c_53 => ?_) (fun c_53 => ?_)
        · skip
          have i13_y0_17 : tq_iv 0 0 y0_17 := tq_cut i1_y0_17 (tq_eqL c_53 (⟨by decide, by decide⟩ : tq_iv 0 0 0)) (by decide) (by decide)
          exact K_67 _ _ _ _ hS (lv_sub hl [0, 1, 2, 3] rfl)
        · skip
          have i14_y0_17 : tq_iv 1 1 y0_17 := tq_w (tq_neLo c_53 i1_y0_17 (⟨by decide, by decide⟩ : tq_iv 0 0 0)) (by decide) (by decide)
          refine lv_iload_n hx hb dX4_readUnit_56 rfl (lv_at hl 3 rfl) ?_
          refine lv_bipush (v := 6) hx hb dX4_readUnit_57 (by decide) ?_
          refine lv_icmp_le (tgt := 67) hx hb dX4_readUnit_59 (by decide) (fun c_59 => ?_) (fun c_59 => ?_)
          · skip
            exact K_67 _ _ _ _ hS (lv_sub hl [0, 1, 2, 3] rfl)
          · skip
            exact (tq_xlt (tq_nle c_59) (⟨by decide, by decide⟩ : tq_iv 6 6 6) i_x1 (by decide)).elim
      · skip
        have i15_t_39 : tq_iv 30 2147483647 t_39 := tq_cut (tq_top t_39) (tq_leR (tq_nlt c_44) (⟨by decide, by decide⟩ : tq_iv 30 30 30) (tq_top t_39)) (by decide) (by decide)
        exact K_47 _ _ _ _ hS (lv_sub hl [2] rfl)
    refine lv_if_ne (tgt := 32) hx hb dX4_readUnit_24 (by decide) (fun c_24 => ?_) (fun c_24 => ?_)
    · skip
      have i16_y0_17 : tq_iv 1 1 y0_17 := tq_w (tq_neLo c_24 i1_y0_17 (⟨by decide, by decide⟩ : tq_iv 0 0 0)) (by decide) (by decide)
      exact K_32 _ _ _ _ hS (lv_sub hl [0, 1, 2, 3] rfl)
    · skip
      have i17_y0_17 : tq_iv 0 0 y0_17 := tq_cut i1_y0_17 (tq_eqL c_24 (⟨by decide, by decide⟩ : tq_iv 0 0 0)) (by decide) (by decide)
      refine lv_iload_n hx hb dX4_readUnit_27 rfl (lv_at hl 0 rfl) ?_
      refine lv_iconst (v := -1) hx hb dX4_readUnit_28 (by decide) ?_
      refine lv_icmp_eq (tgt := 47) hx hb dX4_readUnit_29 (by decide) (fun c_29 => ?_) (fun c_29 => ?_)
      · skip
        have i18_t_19 : tq_iv (-1) (-1) t_19 := tq_cut p_19 (tq_eqL c_29 (⟨by decide, by decide⟩ : tq_iv (-1) (-1) (-1))) (by decide) (by decide)
        exact K_47 _ _ _ _ hS (lv_sub hl [2] rfl)
      · skip
        have i19_t_19 : tq_iv 0 4 t_19 := tq_w (tq_neLo c_29 p_19 (⟨by decide, by decide⟩ : tq_iv (-1) (-1) (-1))) (by decide) (by decide)
        exact K_32 _ _ _ _ hS (lv_sub hl [0, 1, 2, 3] rfl)
  refine lv_icmp_ne (tgt := 16) hx hb dX4_readUnit_9 (by decide) (fun c_9 => ?_) (fun c_9 => ?_)
  · skip
    refine lv_iconst (v := 0) hx hb dX4_readUnit_16 (by decide) ?_
    exact K_17 0 _ _ _ _ hS (tq_w (⟨by decide, by decide⟩ : tq_iv 0 0 0) (by decide) (by decide)) (lv_sub hl [0, 1] rfl)
  · skip
    have i20_t_4 : tq_iv 40 40 t_4 := tq_cut (tq_top t_4) (tq_eqL c_9 (⟨by decide, by decide⟩ : tq_iv 40 40 40)) (by decide) (by decide)
    refine lv_iconst (v := 1) hx hb dX4_readUnit_12 (by decide) ?_
    refine lv_goto (tgt := 17) hx hb dX4_readUnit_13 (by decide) ?_
    exact K_17 1 _ _ _ _ hS (tq_w (⟨by decide, by decide⟩ : tq_iv 1 1 1) (by decide) (by decide)) (lv_sub hl [0, 1] rfl)
set_option maxHeartbeats 4000000 in
set_option maxRecDepth 100000 in
theorem c_X4_readTerm_6_6 (l : Launch) (X : tq_X) (Z : tq_Z) (f : Nat → va_E) (h0 : Nat) (z_h0 : tq_z Z h0 (.inl 4)) (x1 : Int32) (i_x1 : tq_iv 6 6 x1) : tq_M l X Z f [(0, 0), (0, 1), (4, 1), (4, 2), (9, 3), (9, 4), (9, 5), (9, 6), (9, 7)] yX4_readTerm cX4_readTerm 5 (some .boolean) 12 [.ref h0, .int x1] (tq_ri 0 1) := by
  refine tq_starti (by decide) (Nat.le_of_ble_eq_true rfl) (fun p e R s m args below meth c Q hC hret hS ls hl => ?_)
  have hC : tq_C p R s m args c X (tq_A Z) RX4 cX4_readTerm 5 12 := hC
  have hx := hC.1.1
  have hb := hC.1.2.1
  have hown := hC.1.2.2.2.1
  have hts := hC.1.2.2.2.2
  have hl : lv_has ls 5 [(0, .ref h0), (1, .int x1)] := hl
  generalize hf0 : f = f0 at hret
  have hS : tq_S X Z (tq_A Z) s.heap f0 [(0, 0), (0, 1), (4, 1), (4, 2), (9, 3), (9, 4), (9, 5), (9, 6), (9, 7)] f s.heap [] := hf0 ▸ hS
  refine lv_aload_n hx hb dX4_readTerm_0 rfl (lv_at hl 0 rfl) ?_
  refine lv_iload_n hx hb dX4_readTerm_1 rfl (lv_at hl 1 rfl) ?_
  refine tq_callVi (As := [.int x1]) (rest := []) hC (c_X4_readUnit_6_6 l X Z _ h0 z_h0 x1 (tq_w i_x1 (by decide) (by decide))) k_X4_readUnit ql_RX4_235 (by decide) rfl (by decide) hS z_h0 rfl hl.1 rfl (Nat.le_of_ble_eq_true rfl) ⟨Nat.zero_le _, Nat.zero_le _⟩ dX4_readTerm_2 (fun t_2 f1_2 H locs p_2 hS k_2 => ?_)
  refine lv_istore_n (lv' := [(2, .int t_2), (0, .ref h0), (1, .int x1)]) hx hb dX4_readTerm_5 rfl hl (by decide) rfl (fun ls hl => ?_)
  refine lv_iconst (v := 0) hx hb dX4_readTerm_6 (by decide) ?_
  refine lv_istore_n (lv' := [(3, .int 0), (2, .int t_2), (0, .ref h0), (1, .int x1)]) hx hb dX4_readTerm_7 rfl hl (by decide) rfl (fun ls hl => ?_)
  have K_8 : ∀ (n_8 : Nat) (x3_8 : Int32) (x2_8 : Int32) (f : Nat → va_E) (H : Heap) (locs : List Loc) (ls : Array Slot), tq_S X Z (tq_A Z) s.heap f0 [(0, 0), (0, 1), (4, 1), (4, 2), (9, 3), (9, 4), (9, 5), (9, 6), (9, 7)] f H locs → tq_iv 0 1 x2_8 → tq_iv 0 1600 x3_8 → (2147483647 - x3_8.toInt).toNat < n_8 → lv_has ls 5 [(3, .int x3_8), (2, .int x2_8), (0, .ref h0), (1, .int x1)] → W p l e R s m args below meth c H locs 0 0 Q (F0 m 8 ls []) := by
    intro n_8
    induction n_8 with
    | zero => intro x3_8 x2_8 f H locs ls  hS i1_x2_8 i2_x3_8 hn_8; exact absurd hn_8 (Nat.not_lt_zero _)
    | succ n_8 ih_8 =>
      intro x3_8 x2_8 f H locs ls  hS i1_x2_8 i2_x3_8 hn_8 hl
      refine lv_iload_n hx hb dX4_readTerm_8 rfl (lv_at hl 0 rfl) ?_
      refine lv_sipush (v := 1600) hx hb dX4_readTerm_9 (by decide) ?_
      have K_65 : ∀ (f : Nat → va_E) (H : Heap) (locs : List Loc) (ls : Array Slot), tq_S X Z (tq_A Z) s.heap f0 [(0, 0), (0, 1), (4, 1), (4, 2), (9, 3), (9, 4), (9, 5), (9, 6), (9, 7)] f H locs → lv_has ls 5 [(2, .int x2_8)] → W p l e R s m args below meth c H locs 0 0 Q (F0 m 65 ls []) := by
        intro f H locs ls  hS hl
        refine lv_iload_n hx hb dX4_readTerm_65 rfl (lv_at hl 0 rfl) ?_
        exact hret x2_8 _ _ _ _ _ (tq_nb i1_x2_8 (by decide) (by decide)) ⟨_, rfl, tq_w i1_x2_8 (by decide) (by decide)⟩ hS dX4_readTerm_66
      refine lv_icmp_ge (tgt := 65) hx hb dX4_readTerm_12 (by decide) (fun c_12 => ?_) (fun c_12 => ?_)
      · skip
        have i3_x3_8 : tq_iv 1600 1600 x3_8 := tq_cut i2_x3_8 (tq_leR c_12 (⟨by decide, by decide⟩ : tq_iv 1600 1600 1600) i2_x3_8) (by decide) (by decide)
        exact K_65 _ _ _ _ hS (lv_sub hl [1] rfl)
      · skip
        have i4_x3_8 : tq_iv 0 1599 x3_8 := tq_cut i2_x3_8 (tq_ltL (tq_nle c_12) i2_x3_8 (⟨by decide, by decide⟩ : tq_iv 1600 1600 1600)) (by decide) (by decide)
        refine lv_iload_n hx hb dX4_readTerm_15 rfl (lv_at hl 1 rfl) ?_
        refine lv_if_eq (tgt := 65) hx hb dX4_readTerm_16 (by decide) (fun c_16 => ?_) (fun c_16 => ?_)
        · skip
          have i5_x2_8 : tq_iv 0 0 x2_8 := tq_cut i1_x2_8 (tq_eqL c_16 (⟨by decide, by decide⟩ : tq_iv 0 0 0)) (by decide) (by decide)
          exact K_65 _ _ _ _ hS (lv_sub hl [1] rfl)
        · skip
          have i6_x2_8 : tq_iv 1 1 x2_8 := tq_w (tq_neLo c_16 i1_x2_8 (⟨by decide, by decide⟩ : tq_iv 0 0 0)) (by decide) (by decide)
          refine lv_aload_n hx hb dX4_readTerm_19 rfl (lv_at hl 2 rfl) ?_
          refine tq_callVpi (As := []) (rest := []) hC (c_X4_productHere l X Z _ h0 z_h0) k_X4_productHere ql_RX4_238 rfl (by decide) hS z_h0 rfl hl.1 rfl (Nat.le_of_ble_eq_true rfl) ⟨Nat.zero_le _, Nat.zero_le _⟩ dX4_readTerm_20 (fun t_20 p_20 => ?_)
          refine lv_iconst (v := -1) hx hb dX4_readTerm_23 (by decide) ?_
          refine lv_icmp_eq (tgt := 65) hx hb dX4_readTerm_24 (by decide) (fun c_24 => ?_) (fun c_24 => ?_)
          · skip
            have i7_t_20 : tq_iv (-1) (-1) t_20 := tq_cut p_20 (tq_eqL c_24 (⟨by decide, by decide⟩ : tq_iv (-1) (-1) (-1))) (by decide) (by decide)
            exact K_65 _ _ _ _ hS (lv_sub hl [1] rfl)
          · skip
            have i8_t_20 : tq_iv 0 15 t_20 := tq_w (tq_neLo c_24 p_20 (⟨by decide, by decide⟩ : tq_iv (-1) (-1) (-1))) (by decide) (by decide)
            refine lv_aload_n hx hb dX4_readTerm_27 rfl (lv_at hl 2 rfl) ?_
            refine tq_callVpi (As := []) (rest := []) hC (c_X4_productHere l X Z _ h0 z_h0) k_X4_productHere ql_RX4_238 rfl (by decide) hS z_h0 rfl hl.1 rfl (Nat.le_of_ble_eq_true rfl) ⟨Nat.zero_le _, Nat.zero_le _⟩ dX4_readTerm_28 (fun t_28 p_28 => ?_)
            refine lv_istore (lv' := [(4, .int t_28), (3, .int x3_8), (2, .int x2_8), (0, .ref h0), (1, .int x1)]) hx hb dX4_readTerm_31 hl (by decide) rfl (fun ls hl => ?_)
            refine lv_aload_n hx hb dX4_readTerm_33 rfl (lv_at hl 3 rfl) ?_
            refine gf_RX4_30 hC hS z_h0 dX4_readTerm_34 (fun t_34 p_34 q_34 => ?_)
            refine tq_callVv (As := []) (rest := []) hC (c_X9_advance l X Z _ t_34 p_34) k_X9_advance ql_RX4_66 (by decide) rfl (by decide) hS p_34 rfl hl.1 rfl (Nat.le_of_ble_eq_true rfl) ⟨Nat.zero_le _, Nat.zero_le _⟩ dX4_readTerm_37 (fun f1_37 H locs hS k_37 => ?_)
            refine lv_aload_n hx hb dX4_readTerm_40 rfl (lv_at hl 3 rfl) ?_
            refine lv_iload_n hx hb dX4_readTerm_41 rfl (lv_at hl 4 rfl) ?_
            refine tq_callVi (As := [.int x1]) (rest := []) hC (c_X4_readUnit_6_6 l X Z _ h0 z_h0 x1 (tq_w i_x1 (by decide) (by decide))) k_X4_readUnit ql_RX4_235 (by decide) rfl (by decide) hS z_h0 rfl hl.1 rfl (Nat.le_of_ble_eq_true rfl) ⟨Nat.zero_le _, Nat.zero_le _⟩ dX4_readTerm_42 (fun t_42 f1_42 H locs p_42 hS k_42 => ?_)
            refine lv_istore_n (lv' := [(2, .int t_42), (4, .int t_28), (3, .int x3_8), (0, .ref h0), (1, .int x1)]) hx hb dX4_readTerm_45 rfl hl (by decide) rfl (fun ls hl => ?_)
            refine lv_aload_n hx hb dX4_readTerm_46 rfl (lv_at hl 3 rfl) ?_
            refine gf_RX4_12 hC hS z_h0 dX4_readTerm_47 (fun t_47 p_47 q_47 => ?_)
            refine gf_RX4_214 hC hS p_47 dX4_readTerm_50 (fun t_50 p_50 q_50 => ?_)
            refine lv_iload hx hb dX4_readTerm_53 (lv_at hl 1 rfl) ?_
            refine lv_iconst (v := 0) hx hb dX4_readTerm_55 (by decide) ?_
            refine tq_callVv (As := [.int t_28, .int 0]) (rest := []) hC (c_X0_append l X Z _ t_50 p_50 t_28 0) k_X0_append ql_RX4_220 (by decide) rfl (by decide) hS p_50 rfl hl.1 rfl (Nat.le_of_ble_eq_true rfl) ⟨Nat.zero_le _, Nat.zero_le _⟩ dX4_readTerm_56 (fun f1_56 H locs hS k_56 => ?_)
            obtain ⟨t_59, e_59⟩ : ∃ y : Int32, y = x3_8 + 1 := ⟨_, rfl⟩
            have i9_t_59 : tq_iv 1 1600 t_59 := tq_w (tq_add e_59 i4_x3_8 (⟨by decide, by decide⟩ : tq_iv 1 1 1) (by decide) (by decide)) (by decide) (by decide)
            refine lv_iinc (v := t_59) (lv' := [(3, .int t_59), (2, .int t_42), (4, .int t_28), (0, .ref h0), (1, .int x1)]) hx hb dX4_readTerm_59 hl (k := 2) rfl (by rw [e_59]; rfl) (by decide) rfl (fun ls hl => ?_)
            refine lv_goto (tgt := 8) hx hb dX4_readTerm_62 (by decide) ?_
            exact ih_8 t_59 t_42 _ _ _ _ hS (tq_w p_42 (by decide) (by decide)) (tq_w i9_t_59 (by decide) (by decide)) (tq_up e_59 i4_x3_8 (⟨by decide, by decide⟩ : tq_iv 1 1 1) (by decide) (by decide) hn_8) (lv_sub hl [0, 1, 3, 4] rfl)
  exact K_8 _ 0 t_2 _ _ _ _ hS (tq_w p_2 (by decide) (by decide)) (tq_w (⟨by decide, by decide⟩ : tq_iv 0 0 0) (by decide) (by decide)) (Nat.lt_succ_self _) (lv_sub hl [0, 1, 2, 3] rfl)
set_option maxHeartbeats 4000000 in
set_option maxRecDepth 100000 in
theorem c_X4_readSum_6_6 (l : Launch) (X : tq_X) (Z : tq_Z) (f : Nat → va_E) (h0 : Nat) (z_h0 : tq_z Z h0 (.inl 4)) (x1 : Int32) (i_x1 : tq_iv 6 6 x1) : tq_M l X Z f [(0, 0), (0, 1), (4, 1), (4, 2), (9, 3), (9, 4), (9, 5), (9, 6), (9, 7)] yX4_readSum cX4_readSum 5 (some .boolean) 13 [.ref h0, .int x1] (tq_ri 0 1) := by
  refine tq_starti (by decide) (Nat.le_of_ble_eq_true rfl) (fun p e R s m args below meth c Q hC hret hS ls hl => ?_)
  have hC : tq_C p R s m args c X (tq_A Z) RX4 cX4_readSum 5 13 := hC
  have hx := hC.1.1
  have hb := hC.1.2.1
  have hown := hC.1.2.2.2.1
  have hts := hC.1.2.2.2.2
  have hl : lv_has ls 5 [(0, .ref h0), (1, .int x1)] := hl
  generalize hf0 : f = f0 at hret
  have hS : tq_S X Z (tq_A Z) s.heap f0 [(0, 0), (0, 1), (4, 1), (4, 2), (9, 3), (9, 4), (9, 5), (9, 6), (9, 7)] f s.heap [] := hf0 ▸ hS
  refine lv_aload_n hx hb dX4_readSum_0 rfl (lv_at hl 0 rfl) ?_
  refine lv_iload_n hx hb dX4_readSum_1 rfl (lv_at hl 1 rfl) ?_
  refine tq_callVi (As := [.int x1]) (rest := []) hC (c_X4_readTerm_6_6 l X Z _ h0 z_h0 x1 (tq_w i_x1 (by decide) (by decide))) k_X4_readTerm ql_RX4_232 (by decide) rfl (by decide) hS z_h0 rfl hl.1 rfl (Nat.le_of_ble_eq_true rfl) ⟨Nat.zero_le _, Nat.zero_le _⟩ dX4_readSum_2 (fun t_2 f1_2 H locs p_2 hS k_2 => ?_)
  refine lv_istore_n (lv' := [(2, .int t_2), (0, .ref h0), (1, .int x1)]) hx hb dX4_readSum_5 rfl hl (by decide) rfl (fun ls hl => ?_)
  refine lv_iconst (v := 0) hx hb dX4_readSum_6 (by decide) ?_
  refine lv_istore_n (lv' := [(3, .int 0), (2, .int t_2), (0, .ref h0), (1, .int x1)]) hx hb dX4_readSum_7 rfl hl (by decide) rfl (fun ls hl => ?_)
  have K_8 : ∀ (n_8 : Nat) (x3_8 : Int32) (x2_8 : Int32) (f : Nat → va_E) (H : Heap) (locs : List Loc) (ls : Array Slot), tq_S X Z (tq_A Z) s.heap f0 [(0, 0), (0, 1), (4, 1), (4, 2), (9, 3), (9, 4), (9, 5), (9, 6), (9, 7)] f H locs → tq_iv 0 1 x2_8 → tq_iv 0 1600 x3_8 → (2147483647 - x3_8.toInt).toNat < n_8 → lv_has ls 5 [(3, .int x3_8), (2, .int x2_8), (0, .ref h0), (1, .int x1)] → W p l e R s m args below meth c H locs 0 0 Q (F0 m 8 ls []) := by
    intro n_8
    induction n_8 with
    | zero => intro x3_8 x2_8 f H locs ls  hS i1_x2_8 i2_x3_8 hn_8; exact absurd hn_8 (Nat.not_lt_zero _)
    | succ n_8 ih_8 =>
      intro x3_8 x2_8 f H locs ls  hS i1_x2_8 i2_x3_8 hn_8 hl
      refine lv_iload_n hx hb dX4_readSum_8 rfl (lv_at hl 0 rfl) ?_
      refine lv_sipush (v := 1600) hx hb dX4_readSum_9 (by decide) ?_
      have K_96 : ∀ (f : Nat → va_E) (H : Heap) (locs : List Loc) (ls : Array Slot), tq_S X Z (tq_A Z) s.heap f0 [(0, 0), (0, 1), (4, 1), (4, 2), (9, 3), (9, 4), (9, 5), (9, 6), (9, 7)] f H locs → lv_has ls 5 [(2, .int x2_8)] → W p l e R s m args below meth c H locs 0 0 Q (F0 m 96 ls []) := by
        intro f H locs ls  hS hl
        refine lv_iload_n hx hb dX4_readSum_96 rfl (lv_at hl 0 rfl) ?_
        exact hret x2_8 _ _ _ _ _ (tq_nb i1_x2_8 (by decide) (by decide)) ⟨_, rfl, tq_w i1_x2_8 (by decide) (by decide)⟩ hS dX4_readSum_97
      refine lv_icmp_ge (tgt := 96) hx hb dX4_readSum_12 (by decide) (fun c_12 => ?_) (fun c_12 => ?_)
      · skip
        have i3_x3_8 : tq_iv 1600 1600 x3_8 := tq_cut i2_x3_8 (tq_leR c_12 (⟨by decide, by decide⟩ : tq_iv 1600 1600 1600) i2_x3_8) (by decide) (by decide)
        exact K_96 _ _ _ _ hS (lv_sub hl [1] rfl)
      · skip
        have i4_x3_8 : tq_iv 0 1599 x3_8 := tq_cut i2_x3_8 (tq_ltL (tq_nle c_12) i2_x3_8 (⟨by decide, by decide⟩ : tq_iv 1600 1600 1600)) (by decide) (by decide)
        refine lv_iload_n hx hb dX4_readSum_15 rfl (lv_at hl 1 rfl) ?_
        refine lv_if_eq (tgt := 96) hx hb dX4_readSum_16 (by decide) (fun c_16 => ?_) (fun c_16 => ?_)
        · skip
          have i5_x2_8 : tq_iv 0 0 x2_8 := tq_cut i1_x2_8 (tq_eqL c_16 (⟨by decide, by decide⟩ : tq_iv 0 0 0)) (by decide) (by decide)
          exact K_96 _ _ _ _ hS (lv_sub hl [1] rfl)
        · skip
          have i6_x2_8 : tq_iv 1 1 x2_8 := tq_w (tq_neLo c_16 i1_x2_8 (⟨by decide, by decide⟩ : tq_iv 0 0 0)) (by decide) (by decide)
          refine lv_aload_n hx hb dX4_readSum_19 rfl (lv_at hl 2 rfl) ?_
          refine gf_RX4_30 hC hS z_h0 dX4_readSum_20 (fun t_20 p_20 q_20 => ?_)
          refine gf_RX4_49 hC hS p_20 dX4_readSum_23 (fun t_23 p_23 q_23 => ?_)
          refine lv_bipush (v := 43) hx hb dX4_readSum_26 (by decide) ?_
          have K_43 : ∀ (f : Nat → va_E) (H : Heap) (locs : List Loc) (ls : Array Slot), tq_S X Z (tq_A Z) s.heap f0 [(0, 0), (0, 1), (4, 1), (4, 2), (9, 3), (9, 4), (9, 5), (9, 6), (9, 7)] f H locs → lv_has ls 5 [(3, .int x3_8), (0, .ref h0), (1, .int x1)] → W p l e R s m args below meth c H locs 0 0 Q (F0 m 43 ls []) := by
            intro f H locs ls  hS hl
            refine lv_aload_n hx hb dX4_readSum_43 rfl (lv_at hl 1 rfl) ?_
            refine gf_RX4_30 hC hS z_h0 dX4_readSum_44 (fun t_44 p_44 q_44 => ?_)
            refine gf_RX4_49 hC hS p_44 dX4_readSum_47 (fun t_47 p_47 q_47 => ?_)
            refine lv_bipush (v := 43) hx hb dX4_readSum_50 (by decide) ?_
            have K_62 : ∀ (y0_62 : Int32) (f : Nat → va_E) (H : Heap) (locs : List Loc) (ls : Array Slot), tq_S X Z (tq_A Z) s.heap f0 [(0, 0), (0, 1), (4, 1), (4, 2), (9, 3), (9, 4), (9, 5), (9, 6), (9, 7)] f H locs → tq_iv 11 12 y0_62 → lv_has ls 5 [(3, .int x3_8), (0, .ref h0), (1, .int x1)] → W p l e R s m args below meth c H locs 0 0 Q (F0 m 62 ls [.int y0_62]) := by
              intro y0_62 f H locs ls  hS i7_y0_62 hl
              refine lv_istore (lv' := [(4, .int y0_62), (3, .int x3_8), (0, .ref h0), (1, .int x1)]) hx hb dX4_readSum_62 hl (by decide) rfl (fun ls hl => ?_)
              refine lv_aload_n hx hb dX4_readSum_64 rfl (lv_at hl 2 rfl) ?_
              refine gf_RX4_30 hC hS z_h0 dX4_readSum_65 (fun t_65 p_65 q_65 => ?_)
              refine tq_callVv (As := []) (rest := []) hC (c_X9_advance l X Z _ t_65 p_65) k_X9_advance ql_RX4_66 (by decide) rfl (by decide) hS p_65 rfl hl.1 rfl (Nat.le_of_ble_eq_true rfl) ⟨Nat.zero_le _, Nat.zero_le _⟩ dX4_readSum_68 (fun f1_68 H locs hS k_68 => ?_)
              refine lv_aload_n hx hb dX4_readSum_71 rfl (lv_at hl 2 rfl) ?_
              refine lv_iload_n hx hb dX4_readSum_72 rfl (lv_at hl 3 rfl) ?_
              refine tq_callVi (As := [.int x1]) (rest := []) hC (c_X4_readTerm_6_6 l X Z _ h0 z_h0 x1 (tq_w i_x1 (by decide) (by decide))) k_X4_readTerm ql_RX4_232 (by decide) rfl (by decide) hS z_h0 rfl hl.1 rfl (Nat.le_of_ble_eq_true rfl) ⟨Nat.zero_le _, Nat.zero_le _⟩ dX4_readSum_73 (fun t_73 f1_73 H locs p_73 hS k_73 => ?_)
              refine lv_istore_n (lv' := [(2, .int t_73), (4, .int y0_62), (3, .int x3_8), (0, .ref h0), (1, .int x1)]) hx hb dX4_readSum_76 rfl hl (by decide) rfl (fun ls hl => ?_)
              refine lv_aload_n hx hb dX4_readSum_77 rfl (lv_at hl 3 rfl) ?_
              refine gf_RX4_12 hC hS z_h0 dX4_readSum_78 (fun t_78 p_78 q_78 => ?_)
              refine gf_RX4_214 hC hS p_78 dX4_readSum_81 (fun t_81 p_81 q_81 => ?_)
              refine lv_iload hx hb dX4_readSum_84 (lv_at hl 1 rfl) ?_
              refine lv_iconst (v := 0) hx hb dX4_readSum_86 (by decide) ?_
              refine tq_callVv (As := [.int y0_62, .int 0]) (rest := []) hC (c_X0_append l X Z _ t_81 p_81 y0_62 0) k_X0_append ql_RX4_220 (by decide) rfl (by decide) hS p_81 rfl hl.1 rfl (Nat.le_of_ble_eq_true rfl) ⟨Nat.zero_le _, Nat.zero_le _⟩ dX4_readSum_87 (fun f1_87 H locs hS k_87 => ?_)
              obtain ⟨t_90, e_90⟩ : ∃ y : Int32, y = x3_8 + 1 := ⟨_, rfl⟩
              have i8_t_90 : tq_iv 1 1600 t_90 := tq_w (tq_add e_90 i4_x3_8 (⟨by decide, by decide⟩ : tq_iv 1 1 1) (by decide) (by decide)) (by decide) (by decide)
              refine lv_iinc (v := t_90) (lv' := [(3, .int t_90), (2, .int t_73), (4, .int y0_62), (0, .ref h0), (1, .int x1)]) hx hb dX4_readSum_90 hl (k := 2) rfl (by rw [e_90]; rfl) (by decide) rfl (fun ls hl => ?_)
              refine lv_goto (tgt := 8) hx hb dX4_readSum_93 (by decide) ?_
              exact ih_8 t_90 t_73 _ _ _ _ hS (tq_w p_73 (by decide) (by decide)) (tq_w i8_t_90 (by decide) (by decide)) (tq_up e_90 i4_x3_8 (⟨by decide, by decide⟩ : tq_iv 1 1 1) (by decide) (by decide) hn_8) (lv_sub hl [0, 1, 3, 4] rfl)
            refine lv_icmp_ne (tgt := 60) hx hb dX4_readSum_52 (by decide) (fun c_52 => ?_) (fun c_52 => ?_)
            · skip
              refine lv_bipush (v := 12) hx hb dX4_readSum_60 (by decide) ?_
              exact K_62 12 _ _ _ _ hS (tq_w (⟨by decide, by decide⟩ : tq_iv 12 12 12) (by decide) (by decide)) (lv_sub hl [0, 1, 2] rfl)
            · skip
              have i9_t_47 : tq_iv 43 43 t_47 := tq_cut (tq_top t_47) (tq_eqL c_52 (⟨by decide, by decide⟩ : tq_iv 43 43 43)) (by decide) (by decide)
              refine lv_bipush (v := 11) hx hb dX4_readSum_55 (by decide) ?_
              refine lv_goto (tgt := 62) hx hb dX4_readSum_57 (by decide) ?_
              exact K_62 11 _ _ _ _ hS (tq_w (⟨by decide, by decide⟩ : tq_iv 11 11 11) (by decide) (by decide)) (lv_sub hl [0, 1, 2] rfl)
          refine lv_icmp_eq (tgt := 43) hx hb dX4_readSum_28 (by decide) (fun c_28 => ?_) (fun c_28 => ?_)
          · skip
            have i10_t_23 : tq_iv 43 43 t_23 := tq_cut (tq_top t_23) (tq_eqL c_28 (⟨by decide, by decide⟩ : tq_iv 43 43 43)) (by decide) (by decide)
            exact K_43 _ _ _ _ hS (lv_sub hl [0, 2, 3] rfl)
          · skip
            refine lv_aload_n hx hb dX4_readSum_31 rfl (lv_at hl 2 rfl) ?_
            refine gf_RX4_30 hC hS z_h0 dX4_readSum_32 (fun t_32 p_32 q_32 => ?_)
            refine gf_RX4_49 hC hS p_32 dX4_readSum_35 (fun t_35 p_35 q_35 => ?_)
            refine lv_bipush (v := 45) hx hb dX4_readSum_38 (by decide) ?_
            refine lv_icmp_ne (tgt := 96) hx hb dX4_readSum_40 (by decide) (fun c_40 => ?_) (fun c_40 => ?_)
            · skip
              exact K_96 _ _ _ _ hS (lv_sub hl [1] rfl)
            · skip
              have i11_t_35 : tq_iv 45 45 t_35 := tq_cut (tq_top t_35) (tq_eqL c_40 (⟨by decide, by decide⟩ : tq_iv 45 45 45)) (by decide) (by decide)
              exact K_43 _ _ _ _ hS (lv_sub hl [0, 2, 3] rfl)
  exact K_8 _ 0 t_2 _ _ _ _ hS (tq_w p_2 (by decide) (by decide)) (tq_w (⟨by decide, by decide⟩ : tq_iv 0 0 0) (by decide) (by decide)) (Nat.lt_succ_self _) (lv_sub hl [0, 1, 2, 3] rfl)
set_option maxHeartbeats 4000000 in
set_option maxRecDepth 100000 in
theorem c_X4_readOne_6_6 (l : Launch) (X : tq_X) (Z : tq_Z) (f : Nat → va_E) (h0 : Nat) (z_h0 : tq_z Z h0 (.inl 4)) (x1 : Int32) (i_x1 : tq_iv 6 6 x1) : tq_M l X Z f [(0, 0), (0, 1), (4, 1), (4, 2), (9, 3), (9, 4), (9, 5), (9, 6), (9, 7)] yX4_readOne cX4_readOne 4 (some .boolean) 14 [.ref h0, .int x1] (tq_ri 0 1) := by
  refine tq_starti (by decide) (Nat.le_of_ble_eq_true rfl) (fun p e R s m args below meth c Q hC hret hS ls hl => ?_)
  have hC : tq_C p R s m args c X (tq_A Z) RX4 cX4_readOne 4 14 := hC
  have hx := hC.1.1
  have hb := hC.1.2.1
  have hown := hC.1.2.2.2.1
  have hts := hC.1.2.2.2.2
  have hl : lv_has ls 4 [(0, .ref h0), (1, .int x1)] := hl
  generalize hf0 : f = f0 at hret
  have hS : tq_S X Z (tq_A Z) s.heap f0 [(0, 0), (0, 1), (4, 1), (4, 2), (9, 3), (9, 4), (9, 5), (9, 6), (9, 7)] f s.heap [] := hf0 ▸ hS
  refine lv_aload_n hx hb dX4_readOne_0 rfl (lv_at hl 0 rfl) ?_
  refine gf_RX4_30 hC hS z_h0 dX4_readOne_1 (fun t_1 p_1 q_1 => ?_)
  refine gf_RX4_49 hC hS p_1 dX4_readOne_4 (fun t_4 p_4 q_4 => ?_)
  refine lv_bipush (v := 18) hx hb dX4_readOne_7 (by decide) ?_
  refine lv_icmp_ne (tgt := 52) hx hb dX4_readOne_9 (by decide) (fun c_9 => ?_) (fun c_9 => ?_)
  · skip
    refine lv_aload_n hx hb dX4_readOne_52 rfl (lv_at hl 0 rfl) ?_
    refine lv_iload_n hx hb dX4_readOne_53 rfl (lv_at hl 1 rfl) ?_
    refine tq_callVi (As := [.int x1]) (rest := []) hC (c_X4_readSum_6_6 l X Z _ h0 z_h0 x1 (tq_w i_x1 (by decide) (by decide))) k_X4_readSum ql_RX4_226 (by decide) rfl (by decide) hS z_h0 rfl hl.1 rfl (Nat.le_of_ble_eq_true rfl) ⟨Nat.zero_le _, Nat.zero_le _⟩ dX4_readOne_54 (fun t_54 f1_54 H locs p_54 hS k_54 => ?_)
    refine lv_istore_n (lv' := [(2, .int t_54), (0, .ref h0), (1, .int x1)]) hx hb dX4_readOne_57 rfl hl (by decide) rfl (fun ls hl => ?_)
    refine lv_aload_n hx hb dX4_readOne_58 rfl (lv_at hl 1 rfl) ?_
    refine tq_callVpi (As := []) (rest := []) hC (c_X4_relationHere l X Z _ h0 z_h0) k_X4_relationHere ql_RX4_229 rfl (by decide) hS z_h0 rfl hl.1 rfl (Nat.le_of_ble_eq_true rfl) ⟨Nat.zero_le _, Nat.zero_le _⟩ dX4_readOne_59 (fun t_59 p_59 => ?_)
    refine lv_istore_n (lv' := [(3, .int t_59), (2, .int t_54), (0, .ref h0), (1, .int x1)]) hx hb dX4_readOne_62 rfl hl (by decide) rfl (fun ls hl => ?_)
    refine lv_iload_n hx hb dX4_readOne_63 rfl (lv_at hl 1 rfl) ?_
    have K_97 : ∀ (x2_97 : Int32) (f : Nat → va_E) (H : Heap) (locs : List Loc) (ls : Array Slot), tq_S X Z (tq_A Z) s.heap f0 [(0, 0), (0, 1), (4, 1), (4, 2), (9, 3), (9, 4), (9, 5), (9, 6), (9, 7)] f H locs → tq_iv 0 1 x2_97 → lv_has ls 4 [(2, .int x2_97)] → W p l e R s m args below meth c H locs 0 0 Q (F0 m 97 ls []) := by
      intro x2_97 f H locs ls  hS i1_x2_97 hl
      refine lv_iload_n hx hb dX4_readOne_97 rfl (lv_at hl 0 rfl) ?_
      exact hret x2_97 _ _ _ _ _ (tq_nb i1_x2_97 (by decide) (by decide)) ⟨_, rfl, tq_w i1_x2_97 (by decide) (by decide)⟩ hS dX4_readOne_98
    refine lv_if_eq (tgt := 97) hx hb dX4_readOne_64 (by decide) (fun c_64 => ?_) (fun c_64 => ?_)
    · skip
      have i2_t_54 : tq_iv 0 0 t_54 := tq_cut p_54 (tq_eqL c_64 (⟨by decide, by decide⟩ : tq_iv 0 0 0)) (by decide) (by decide)
      exact K_97 t_54 _ _ _ _ hS (tq_w i2_t_54 (by decide) (by decide)) (lv_sub hl [1] rfl)
    · skip
      have i3_t_54 : tq_iv 1 1 t_54 := tq_w (tq_neLo c_64 p_54 (⟨by decide, by decide⟩ : tq_iv 0 0 0)) (by decide) (by decide)
      refine lv_iload_n hx hb dX4_readOne_67 rfl (lv_at hl 0 rfl) ?_
      refine lv_iconst (v := -1) hx hb dX4_readOne_68 (by decide) ?_
      refine lv_icmp_eq (tgt := 97) hx hb dX4_readOne_69 (by decide) (fun c_69 => ?_) (fun c_69 => ?_)
      · skip
        have i4_t_59 : tq_iv (-1) (-1) t_59 := tq_cut p_59 (tq_eqL c_69 (⟨by decide, by decide⟩ : tq_iv (-1) (-1) (-1))) (by decide) (by decide)
        exact K_97 t_54 _ _ _ _ hS (tq_w i3_t_54 (by decide) (by decide)) (lv_sub hl [1] rfl)
      · skip
        have i5_t_59 : tq_iv 0 10 t_59 := tq_w (tq_neLo c_69 p_59 (⟨by decide, by decide⟩ : tq_iv (-1) (-1) (-1))) (by decide) (by decide)
        refine lv_aload_n hx hb dX4_readOne_72 rfl (lv_at hl 2 rfl) ?_
        refine gf_RX4_30 hC hS z_h0 dX4_readOne_73 (fun t_73 p_73 q_73 => ?_)
        refine tq_callVv (As := []) (rest := []) hC (c_X9_advance l X Z _ t_73 p_73) k_X9_advance ql_RX4_66 (by decide) rfl (by decide) hS p_73 rfl hl.1 rfl (Nat.le_of_ble_eq_true rfl) ⟨Nat.zero_le _, Nat.zero_le _⟩ dX4_readOne_76 (fun f1_76 H locs hS k_76 => ?_)
        refine lv_aload_n hx hb dX4_readOne_79 rfl (lv_at hl 2 rfl) ?_
        refine lv_iload_n hx hb dX4_readOne_80 rfl (lv_at hl 3 rfl) ?_
        refine tq_callVi (As := [.int x1]) (rest := []) hC (c_X4_readSum_6_6 l X Z _ h0 z_h0 x1 (tq_w i_x1 (by decide) (by decide))) k_X4_readSum ql_RX4_226 (by decide) rfl (by decide) hS z_h0 rfl hl.1 rfl (Nat.le_of_ble_eq_true rfl) ⟨Nat.zero_le _, Nat.zero_le _⟩ dX4_readOne_81 (fun t_81 f1_81 H locs p_81 hS k_81 => ?_)
        refine lv_istore_n (lv' := [(2, .int t_81), (3, .int t_59), (0, .ref h0), (1, .int x1)]) hx hb dX4_readOne_84 rfl hl (by decide) rfl (fun ls hl => ?_)
        refine lv_aload_n hx hb dX4_readOne_85 rfl (lv_at hl 2 rfl) ?_
        refine gf_RX4_12 hC hS z_h0 dX4_readOne_86 (fun t_86 p_86 q_86 => ?_)
        refine gf_RX4_214 hC hS p_86 dX4_readOne_89 (fun t_89 p_89 q_89 => ?_)
        refine lv_iload_n hx hb dX4_readOne_92 rfl (lv_at hl 1 rfl) ?_
        refine lv_iconst (v := 0) hx hb dX4_readOne_93 (by decide) ?_
        refine tq_callVv (As := [.int t_59, .int 0]) (rest := []) hC (c_X0_append l X Z _ t_89 p_89 t_59 0) k_X0_append ql_RX4_220 (by decide) rfl (by decide) hS p_89 rfl hl.1 rfl (Nat.le_of_ble_eq_true rfl) ⟨Nat.zero_le _, Nat.zero_le _⟩ dX4_readOne_94 (fun f1_94 H locs hS k_94 => ?_)
        exact K_97 t_81 _ _ _ _ hS (tq_w p_81 (by decide) (by decide)) (lv_sub hl [0] rfl)
  · skip
    have i6_t_4 : tq_iv 18 18 t_4 := tq_cut (tq_top t_4) (tq_eqL c_9 (⟨by decide, by decide⟩ : tq_iv 18 18 18)) (by decide) (by decide)
    refine lv_iload_n hx hb dX4_readOne_12 rfl (lv_at hl 1 rfl) ?_
    refine lv_bipush (v := 6) hx hb dX4_readOne_13 (by decide) ?_
    refine lv_icmp_le (tgt := 23) hx hb dX4_readOne_15 (by decide) (fun c_15 => ?_) (fun c_15 => ?_)
    · skip
      refine lv_aload_n hx hb dX4_readOne_23 rfl (lv_at hl 0 rfl) ?_
      refine gf_RX4_30 hC hS z_h0 dX4_readOne_24 (fun t_24 p_24 q_24 => ?_)
      refine tq_callVv (As := []) (rest := []) hC (c_X9_advance l X Z _ t_24 p_24) k_X9_advance ql_RX4_66 (by decide) rfl (by decide) hS p_24 rfl hl.1 rfl (Nat.le_of_ble_eq_true rfl) ⟨Nat.zero_le _, Nat.zero_le _⟩ dX4_readOne_27 (fun f1_27 H locs hS k_27 => ?_)
      refine lv_aload_n hx hb dX4_readOne_30 rfl (lv_at hl 0 rfl) ?_
      refine lv_iload_n hx hb dX4_readOne_31 rfl (lv_at hl 1 rfl) ?_
      refine lv_iconst (v := 1) hx hb dX4_readOne_32 (by decide) ?_
      refine lv_iadd hx hb dX4_readOne_33 ?_
      refine lv_topi (fun t_33 e_33 => ?_)
      have i7_t_33 : tq_iv 7 7 t_33 := tq_w (tq_add e_33 i_x1 (⟨by decide, by decide⟩ : tq_iv 1 1 1) (by decide) (by decide)) (by decide) (by decide)
      refine tq_callVi (As := [.int t_33]) (rest := []) hC (c_X4_readOne_7_7 l X Z _ h0 z_h0 t_33 (tq_w i7_t_33 (by decide) (by decide))) k_X4_readOne ql_RX4_223 (by decide) rfl (by decide) hS z_h0 rfl hl.1 rfl (Nat.le_of_ble_eq_true rfl) ⟨Nat.zero_le _, Nat.zero_le _⟩ dX4_readOne_34 (fun t_34 f1_34 H locs p_34 hS k_34 => ?_)
      refine lv_istore_n (lv' := [(2, .int t_34), (0, .ref h0), (1, .int x1)]) hx hb dX4_readOne_37 rfl hl (by decide) rfl (fun ls hl => ?_)
      refine lv_aload_n hx hb dX4_readOne_38 rfl (lv_at hl 1 rfl) ?_
      refine gf_RX4_12 hC hS z_h0 dX4_readOne_39 (fun t_39 p_39 q_39 => ?_)
      refine gf_RX4_214 hC hS p_39 dX4_readOne_42 (fun t_42 p_42 q_42 => ?_)
      refine lv_iconst (v := 5) hx hb dX4_readOne_45 (by decide) ?_
      refine lv_iconst (v := 0) hx hb dX4_readOne_46 (by decide) ?_
      refine tq_callVv (As := [.int 5, .int 0]) (rest := []) hC (c_X0_append l X Z _ t_42 p_42 5 0) k_X0_append ql_RX4_220 (by decide) rfl (by decide) hS p_42 rfl hl.1 rfl (Nat.le_of_ble_eq_true rfl) ⟨Nat.zero_le _, Nat.zero_le _⟩ dX4_readOne_47 (fun f1_47 H locs hS k_47 => ?_)
      refine lv_iload_n hx hb dX4_readOne_50 rfl (lv_at hl 0 rfl) ?_
      exact hret t_34 _ _ _ _ _ (tq_nb p_34 (by decide) (by decide)) ⟨_, rfl, tq_w p_34 (by decide) (by decide)⟩ hS dX4_readOne_51
    · skip
      exact (tq_xlt (tq_nle c_15) (⟨by decide, by decide⟩ : tq_iv 6 6 6) i_x1 (by decide)).elim
set_option maxHeartbeats 4000000 in
set_option maxRecDepth 100000 in
theorem c_X4_readBoth_6_6 (l : Launch) (X : tq_X) (Z : tq_Z) (f : Nat → va_E) (h0 : Nat) (z_h0 : tq_z Z h0 (.inl 4)) (x1 : Int32) (i_x1 : tq_iv 6 6 x1) : tq_M l X Z f [(0, 0), (0, 1), (4, 1), (4, 2), (9, 3), (9, 4), (9, 5), (9, 6), (9, 7)] yX4_readBoth cX4_readBoth 4 (some .boolean) 15 [.ref h0, .int x1] (tq_ri 0 1) := by
  refine tq_starti (by decide) (Nat.le_of_ble_eq_true rfl) (fun p e R s m args below meth c Q hC hret hS ls hl => ?_)
  have hC : tq_C p R s m args c X (tq_A Z) RX4 cX4_readBoth 4 15 := hC
  have hx := hC.1.1
  have hb := hC.1.2.1
  have hown := hC.1.2.2.2.1
  have hts := hC.1.2.2.2.2
  have hl : lv_has ls 4 [(0, .ref h0), (1, .int x1)] := hl
  generalize hf0 : f = f0 at hret
  have hS : tq_S X Z (tq_A Z) s.heap f0 [(0, 0), (0, 1), (4, 1), (4, 2), (9, 3), (9, 4), (9, 5), (9, 6), (9, 7)] f s.heap [] := hf0 ▸ hS
  refine lv_aload_n hx hb dX4_readBoth_0 rfl (lv_at hl 0 rfl) ?_
  refine lv_iload_n hx hb dX4_readBoth_1 rfl (lv_at hl 1 rfl) ?_
  refine tq_callVi (As := [.int x1]) (rest := []) hC (c_X4_readOne_6_6 l X Z _ h0 z_h0 x1 (tq_w i_x1 (by decide) (by decide))) k_X4_readOne ql_RX4_223 (by decide) rfl (by decide) hS z_h0 rfl hl.1 rfl (Nat.le_of_ble_eq_true rfl) ⟨Nat.zero_le _, Nat.zero_le _⟩ dX4_readBoth_2 (fun t_2 f1_2 H locs p_2 hS k_2 => ?_)
  refine lv_istore_n (lv' := [(2, .int t_2), (0, .ref h0), (1, .int x1)]) hx hb dX4_readBoth_5 rfl hl (by decide) rfl (fun ls hl => ?_)
  refine lv_iconst (v := 0) hx hb dX4_readBoth_6 (by decide) ?_
  refine lv_istore_n (lv' := [(3, .int 0), (2, .int t_2), (0, .ref h0), (1, .int x1)]) hx hb dX4_readBoth_7 rfl hl (by decide) rfl (fun ls hl => ?_)
  have K_8 : ∀ (n_8 : Nat) (x3_8 : Int32) (x2_8 : Int32) (f : Nat → va_E) (H : Heap) (locs : List Loc) (ls : Array Slot), tq_S X Z (tq_A Z) s.heap f0 [(0, 0), (0, 1), (4, 1), (4, 2), (9, 3), (9, 4), (9, 5), (9, 6), (9, 7)] f H locs → tq_iv 0 1 x2_8 → tq_iv 0 1600 x3_8 → (2147483647 - x3_8.toInt).toNat < n_8 → lv_has ls 4 [(3, .int x3_8), (2, .int x2_8), (0, .ref h0), (1, .int x1)] → W p l e R s m args below meth c H locs 0 0 Q (F0 m 8 ls []) := by
    intro n_8
    induction n_8 with
    | zero => intro x3_8 x2_8 f H locs ls  hS i1_x2_8 i2_x3_8 hn_8; exact absurd hn_8 (Nat.not_lt_zero _)
    | succ n_8 ih_8 =>
      intro x3_8 x2_8 f H locs ls  hS i1_x2_8 i2_x3_8 hn_8 hl
      refine lv_iload_n hx hb dX4_readBoth_8 rfl (lv_at hl 0 rfl) ?_
      refine lv_sipush (v := 1600) hx hb dX4_readBoth_9 (by decide) ?_
      have K_63 : ∀ (f : Nat → va_E) (H : Heap) (locs : List Loc) (ls : Array Slot), tq_S X Z (tq_A Z) s.heap f0 [(0, 0), (0, 1), (4, 1), (4, 2), (9, 3), (9, 4), (9, 5), (9, 6), (9, 7)] f H locs → lv_has ls 4 [(2, .int x2_8)] → W p l e R s m args below meth c H locs 0 0 Q (F0 m 63 ls []) := by
        intro f H locs ls  hS hl
        refine lv_iload_n hx hb dX4_readBoth_63 rfl (lv_at hl 0 rfl) ?_
        exact hret x2_8 _ _ _ _ _ (tq_nb i1_x2_8 (by decide) (by decide)) ⟨_, rfl, tq_w i1_x2_8 (by decide) (by decide)⟩ hS dX4_readBoth_64
      refine lv_icmp_ge (tgt := 63) hx hb dX4_readBoth_12 (by decide) (fun c_12 => ?_) (fun c_12 => ?_)
      · skip
        have i3_x3_8 : tq_iv 1600 1600 x3_8 := tq_cut i2_x3_8 (tq_leR c_12 (⟨by decide, by decide⟩ : tq_iv 1600 1600 1600) i2_x3_8) (by decide) (by decide)
        exact K_63 _ _ _ _ hS (lv_sub hl [1] rfl)
      · skip
        have i4_x3_8 : tq_iv 0 1599 x3_8 := tq_cut i2_x3_8 (tq_ltL (tq_nle c_12) i2_x3_8 (⟨by decide, by decide⟩ : tq_iv 1600 1600 1600)) (by decide) (by decide)
        refine lv_iload_n hx hb dX4_readBoth_15 rfl (lv_at hl 1 rfl) ?_
        refine lv_if_eq (tgt := 63) hx hb dX4_readBoth_16 (by decide) (fun c_16 => ?_) (fun c_16 => ?_)
        · skip
          have i5_x2_8 : tq_iv 0 0 x2_8 := tq_cut i1_x2_8 (tq_eqL c_16 (⟨by decide, by decide⟩ : tq_iv 0 0 0)) (by decide) (by decide)
          exact K_63 _ _ _ _ hS (lv_sub hl [1] rfl)
        · skip
          have i6_x2_8 : tq_iv 1 1 x2_8 := tq_w (tq_neLo c_16 i1_x2_8 (⟨by decide, by decide⟩ : tq_iv 0 0 0)) (by decide) (by decide)
          refine lv_aload_n hx hb dX4_readBoth_19 rfl (lv_at hl 2 rfl) ?_
          refine gf_RX4_30 hC hS z_h0 dX4_readBoth_20 (fun t_20 p_20 q_20 => ?_)
          refine gf_RX4_49 hC hS p_20 dX4_readBoth_23 (fun t_23 p_23 q_23 => ?_)
          refine lv_bipush (v := 17) hx hb dX4_readBoth_26 (by decide) ?_
          refine lv_icmp_ne (tgt := 63) hx hb dX4_readBoth_28 (by decide) (fun c_28 => ?_) (fun c_28 => ?_)
          · skip
            exact K_63 _ _ _ _ hS (lv_sub hl [1] rfl)
          · skip
            have i7_t_23 : tq_iv 17 17 t_23 := tq_cut (tq_top t_23) (tq_eqL c_28 (⟨by decide, by decide⟩ : tq_iv 17 17 17)) (by decide) (by decide)
            refine lv_aload_n hx hb dX4_readBoth_31 rfl (lv_at hl 2 rfl) ?_
            refine gf_RX4_30 hC hS z_h0 dX4_readBoth_32 (fun t_32 p_32 q_32 => ?_)
            refine tq_callVv (As := []) (rest := []) hC (c_X9_advance l X Z _ t_32 p_32) k_X9_advance ql_RX4_66 (by decide) rfl (by decide) hS p_32 rfl hl.1 rfl (Nat.le_of_ble_eq_true rfl) ⟨Nat.zero_le _, Nat.zero_le _⟩ dX4_readBoth_35 (fun f1_35 H locs hS k_35 => ?_)
            refine lv_aload_n hx hb dX4_readBoth_38 rfl (lv_at hl 2 rfl) ?_
            refine lv_iload_n hx hb dX4_readBoth_39 rfl (lv_at hl 3 rfl) ?_
            refine tq_callVi (As := [.int x1]) (rest := []) hC (c_X4_readOne_6_6 l X Z _ h0 z_h0 x1 (tq_w i_x1 (by decide) (by decide))) k_X4_readOne ql_RX4_223 (by decide) rfl (by decide) hS z_h0 rfl hl.1 rfl (Nat.le_of_ble_eq_true rfl) ⟨Nat.zero_le _, Nat.zero_le _⟩ dX4_readBoth_40 (fun t_40 f1_40 H locs p_40 hS k_40 => ?_)
            refine lv_istore_n (lv' := [(2, .int t_40), (3, .int x3_8), (0, .ref h0), (1, .int x1)]) hx hb dX4_readBoth_43 rfl hl (by decide) rfl (fun ls hl => ?_)
            refine lv_aload_n hx hb dX4_readBoth_44 rfl (lv_at hl 2 rfl) ?_
            refine gf_RX4_12 hC hS z_h0 dX4_readBoth_45 (fun t_45 p_45 q_45 => ?_)
            refine gf_RX4_214 hC hS p_45 dX4_readBoth_48 (fun t_48 p_48 q_48 => ?_)
            refine lv_bipush (v := 7) hx hb dX4_readBoth_51 (by decide) ?_
            refine lv_iconst (v := 0) hx hb dX4_readBoth_53 (by decide) ?_
            refine tq_callVv (As := [.int 7, .int 0]) (rest := []) hC (c_X0_append l X Z _ t_48 p_48 7 0) k_X0_append ql_RX4_220 (by decide) rfl (by decide) hS p_48 rfl hl.1 rfl (Nat.le_of_ble_eq_true rfl) ⟨Nat.zero_le _, Nat.zero_le _⟩ dX4_readBoth_54 (fun f1_54 H locs hS k_54 => ?_)
            obtain ⟨t_57, e_57⟩ : ∃ y : Int32, y = x3_8 + 1 := ⟨_, rfl⟩
            have i8_t_57 : tq_iv 1 1600 t_57 := tq_w (tq_add e_57 i4_x3_8 (⟨by decide, by decide⟩ : tq_iv 1 1 1) (by decide) (by decide)) (by decide) (by decide)
            refine lv_iinc (v := t_57) (lv' := [(3, .int t_57), (2, .int t_40), (0, .ref h0), (1, .int x1)]) hx hb dX4_readBoth_57 hl (k := 1) rfl (by rw [e_57]; rfl) (by decide) rfl (fun ls hl => ?_)
            refine lv_goto (tgt := 8) hx hb dX4_readBoth_60 (by decide) ?_
            exact ih_8 t_57 t_40 _ _ _ _ hS (tq_w p_40 (by decide) (by decide)) (tq_w i8_t_57 (by decide) (by decide)) (tq_up e_57 i4_x3_8 (⟨by decide, by decide⟩ : tq_iv 1 1 1) (by decide) (by decide) hn_8) (lv_sub hl [0, 1, 2, 3] rfl)
  exact K_8 _ 0 t_2 _ _ _ _ hS (tq_w p_2 (by decide) (by decide)) (tq_w (⟨by decide, by decide⟩ : tq_iv 0 0 0) (by decide) (by decide)) (Nat.lt_succ_self _) (lv_sub hl [0, 1, 2, 3] rfl)
set_option maxHeartbeats 4000000 in
set_option maxRecDepth 100000 in
theorem c_X4_readEither_6_6 (l : Launch) (X : tq_X) (Z : tq_Z) (f : Nat → va_E) (h0 : Nat) (z_h0 : tq_z Z h0 (.inl 4)) (x1 : Int32) (i_x1 : tq_iv 6 6 x1) : tq_M l X Z f [(0, 0), (0, 1), (4, 1), (4, 2), (9, 3), (9, 4), (9, 5), (9, 6), (9, 7)] yX4_readEither cX4_readEither 4 (some .boolean) 16 [.ref h0, .int x1] (tq_ri 0 1) := by
  refine tq_starti (by decide) (Nat.le_of_ble_eq_true rfl) (fun p e R s m args below meth c Q hC hret hS ls hl => ?_)
  have hC : tq_C p R s m args c X (tq_A Z) RX4 cX4_readEither 4 16 := hC
  have hx := hC.1.1
  have hb := hC.1.2.1
  have hown := hC.1.2.2.2.1
  have hts := hC.1.2.2.2.2
  have hl : lv_has ls 4 [(0, .ref h0), (1, .int x1)] := hl
  generalize hf0 : f = f0 at hret
  have hS : tq_S X Z (tq_A Z) s.heap f0 [(0, 0), (0, 1), (4, 1), (4, 2), (9, 3), (9, 4), (9, 5), (9, 6), (9, 7)] f s.heap [] := hf0 ▸ hS
  refine lv_aload_n hx hb dX4_readEither_0 rfl (lv_at hl 0 rfl) ?_
  refine lv_iload_n hx hb dX4_readEither_1 rfl (lv_at hl 1 rfl) ?_
  refine tq_callVi (As := [.int x1]) (rest := []) hC (c_X4_readBoth_6_6 l X Z _ h0 z_h0 x1 (tq_w i_x1 (by decide) (by decide))) k_X4_readBoth ql_RX4_211 (by decide) rfl (by decide) hS z_h0 rfl hl.1 rfl (Nat.le_of_ble_eq_true rfl) ⟨Nat.zero_le _, Nat.zero_le _⟩ dX4_readEither_2 (fun t_2 f1_2 H locs p_2 hS k_2 => ?_)
  refine lv_istore_n (lv' := [(2, .int t_2), (0, .ref h0), (1, .int x1)]) hx hb dX4_readEither_5 rfl hl (by decide) rfl (fun ls hl => ?_)
  refine lv_iconst (v := 0) hx hb dX4_readEither_6 (by decide) ?_
  refine lv_istore_n (lv' := [(3, .int 0), (2, .int t_2), (0, .ref h0), (1, .int x1)]) hx hb dX4_readEither_7 rfl hl (by decide) rfl (fun ls hl => ?_)
  have K_8 : ∀ (n_8 : Nat) (x3_8 : Int32) (x2_8 : Int32) (f : Nat → va_E) (H : Heap) (locs : List Loc) (ls : Array Slot), tq_S X Z (tq_A Z) s.heap f0 [(0, 0), (0, 1), (4, 1), (4, 2), (9, 3), (9, 4), (9, 5), (9, 6), (9, 7)] f H locs → tq_iv 0 1 x2_8 → tq_iv 0 1600 x3_8 → (2147483647 - x3_8.toInt).toNat < n_8 → lv_has ls 4 [(3, .int x3_8), (2, .int x2_8), (0, .ref h0), (1, .int x1)] → W p l e R s m args below meth c H locs 0 0 Q (F0 m 8 ls []) := by
    intro n_8
    induction n_8 with
    | zero => intro x3_8 x2_8 f H locs ls  hS i1_x2_8 i2_x3_8 hn_8; exact absurd hn_8 (Nat.not_lt_zero _)
    | succ n_8 ih_8 =>
      intro x3_8 x2_8 f H locs ls  hS i1_x2_8 i2_x3_8 hn_8 hl
      refine lv_iload_n hx hb dX4_readEither_8 rfl (lv_at hl 0 rfl) ?_
      refine lv_sipush (v := 1600) hx hb dX4_readEither_9 (by decide) ?_
      have K_63 : ∀ (f : Nat → va_E) (H : Heap) (locs : List Loc) (ls : Array Slot), tq_S X Z (tq_A Z) s.heap f0 [(0, 0), (0, 1), (4, 1), (4, 2), (9, 3), (9, 4), (9, 5), (9, 6), (9, 7)] f H locs → lv_has ls 4 [(2, .int x2_8)] → W p l e R s m args below meth c H locs 0 0 Q (F0 m 63 ls []) := by
        intro f H locs ls  hS hl
        refine lv_iload_n hx hb dX4_readEither_63 rfl (lv_at hl 0 rfl) ?_
        exact hret x2_8 _ _ _ _ _ (tq_nb i1_x2_8 (by decide) (by decide)) ⟨_, rfl, tq_w i1_x2_8 (by decide) (by decide)⟩ hS dX4_readEither_64
      refine lv_icmp_ge (tgt := 63) hx hb dX4_readEither_12 (by decide) (fun c_12 => ?_) (fun c_12 => ?_)
      · skip
        have i3_x3_8 : tq_iv 1600 1600 x3_8 := tq_cut i2_x3_8 (tq_leR c_12 (⟨by decide, by decide⟩ : tq_iv 1600 1600 1600) i2_x3_8) (by decide) (by decide)
        exact K_63 _ _ _ _ hS (lv_sub hl [1] rfl)
      · skip
        have i4_x3_8 : tq_iv 0 1599 x3_8 := tq_cut i2_x3_8 (tq_ltL (tq_nle c_12) i2_x3_8 (⟨by decide, by decide⟩ : tq_iv 1600 1600 1600)) (by decide) (by decide)
        refine lv_iload_n hx hb dX4_readEither_15 rfl (lv_at hl 1 rfl) ?_
        refine lv_if_eq (tgt := 63) hx hb dX4_readEither_16 (by decide) (fun c_16 => ?_) (fun c_16 => ?_)
        · skip
          have i5_x2_8 : tq_iv 0 0 x2_8 := tq_cut i1_x2_8 (tq_eqL c_16 (⟨by decide, by decide⟩ : tq_iv 0 0 0)) (by decide) (by decide)
          exact K_63 _ _ _ _ hS (lv_sub hl [1] rfl)
        · skip
          have i6_x2_8 : tq_iv 1 1 x2_8 := tq_w (tq_neLo c_16 i1_x2_8 (⟨by decide, by decide⟩ : tq_iv 0 0 0)) (by decide) (by decide)
          refine lv_aload_n hx hb dX4_readEither_19 rfl (lv_at hl 2 rfl) ?_
          refine gf_RX4_30 hC hS z_h0 dX4_readEither_20 (fun t_20 p_20 q_20 => ?_)
          refine gf_RX4_49 hC hS p_20 dX4_readEither_23 (fun t_23 p_23 q_23 => ?_)
          refine lv_bipush (v := 16) hx hb dX4_readEither_26 (by decide) ?_
          refine lv_icmp_ne (tgt := 63) hx hb dX4_readEither_28 (by decide) (fun c_28 => ?_) (fun c_28 => ?_)
          · skip
            exact K_63 _ _ _ _ hS (lv_sub hl [1] rfl)
          · skip
            have i7_t_23 : tq_iv 16 16 t_23 := tq_cut (tq_top t_23) (tq_eqL c_28 (⟨by decide, by decide⟩ : tq_iv 16 16 16)) (by decide) (by decide)
            refine lv_aload_n hx hb dX4_readEither_31 rfl (lv_at hl 2 rfl) ?_
            refine gf_RX4_30 hC hS z_h0 dX4_readEither_32 (fun t_32 p_32 q_32 => ?_)
            refine tq_callVv (As := []) (rest := []) hC (c_X9_advance l X Z _ t_32 p_32) k_X9_advance ql_RX4_66 (by decide) rfl (by decide) hS p_32 rfl hl.1 rfl (Nat.le_of_ble_eq_true rfl) ⟨Nat.zero_le _, Nat.zero_le _⟩ dX4_readEither_35 (fun f1_35 H locs hS k_35 => ?_)
            refine lv_aload_n hx hb dX4_readEither_38 rfl (lv_at hl 2 rfl) ?_
            refine lv_iload_n hx hb dX4_readEither_39 rfl (lv_at hl 3 rfl) ?_
            refine tq_callVi (As := [.int x1]) (rest := []) hC (c_X4_readBoth_6_6 l X Z _ h0 z_h0 x1 (tq_w i_x1 (by decide) (by decide))) k_X4_readBoth ql_RX4_211 (by decide) rfl (by decide) hS z_h0 rfl hl.1 rfl (Nat.le_of_ble_eq_true rfl) ⟨Nat.zero_le _, Nat.zero_le _⟩ dX4_readEither_40 (fun t_40 f1_40 H locs p_40 hS k_40 => ?_)
            refine lv_istore_n (lv' := [(2, .int t_40), (3, .int x3_8), (0, .ref h0), (1, .int x1)]) hx hb dX4_readEither_43 rfl hl (by decide) rfl (fun ls hl => ?_)
            refine lv_aload_n hx hb dX4_readEither_44 rfl (lv_at hl 2 rfl) ?_
            refine gf_RX4_12 hC hS z_h0 dX4_readEither_45 (fun t_45 p_45 q_45 => ?_)
            refine gf_RX4_214 hC hS p_45 dX4_readEither_48 (fun t_48 p_48 q_48 => ?_)
            refine lv_bipush (v := 6) hx hb dX4_readEither_51 (by decide) ?_
            refine lv_iconst (v := 0) hx hb dX4_readEither_53 (by decide) ?_
            refine tq_callVv (As := [.int 6, .int 0]) (rest := []) hC (c_X0_append l X Z _ t_48 p_48 6 0) k_X0_append ql_RX4_220 (by decide) rfl (by decide) hS p_48 rfl hl.1 rfl (Nat.le_of_ble_eq_true rfl) ⟨Nat.zero_le _, Nat.zero_le _⟩ dX4_readEither_54 (fun f1_54 H locs hS k_54 => ?_)
            obtain ⟨t_57, e_57⟩ : ∃ y : Int32, y = x3_8 + 1 := ⟨_, rfl⟩
            have i8_t_57 : tq_iv 1 1600 t_57 := tq_w (tq_add e_57 i4_x3_8 (⟨by decide, by decide⟩ : tq_iv 1 1 1) (by decide) (by decide)) (by decide) (by decide)
            refine lv_iinc (v := t_57) (lv' := [(3, .int t_57), (2, .int t_40), (0, .ref h0), (1, .int x1)]) hx hb dX4_readEither_57 hl (k := 1) rfl (by rw [e_57]; rfl) (by decide) rfl (fun ls hl => ?_)
            refine lv_goto (tgt := 8) hx hb dX4_readEither_60 (by decide) ?_
            exact ih_8 t_57 t_40 _ _ _ _ hS (tq_w p_40 (by decide) (by decide)) (tq_w i8_t_57 (by decide) (by decide)) (tq_up e_57 i4_x3_8 (⟨by decide, by decide⟩ : tq_iv 1 1 1) (by decide) (by decide) hn_8) (lv_sub hl [0, 1, 2, 3] rfl)
  exact K_8 _ 0 t_2 _ _ _ _ hS (tq_w p_2 (by decide) (by decide)) (tq_w (⟨by decide, by decide⟩ : tq_iv 0 0 0) (by decide) (by decide)) (Nat.lt_succ_self _) (lv_sub hl [0, 1, 2, 3] rfl)
set_option maxHeartbeats 4000000 in
set_option maxRecDepth 100000 in
theorem c_X4_readUnit_5_5 (l : Launch) (X : tq_X) (Z : tq_Z) (f : Nat → va_E) (h0 : Nat) (z_h0 : tq_z Z h0 (.inl 4)) (x1 : Int32) (i_x1 : tq_iv 5 5 x1) : tq_M l X Z f [(0, 0), (0, 1), (4, 1), (4, 2), (9, 3), (9, 4), (9, 5), (9, 6), (9, 7)] yX4_readUnit cX4_readUnit 4 (some .boolean) 17 [.ref h0, .int x1] (tq_ri 0 1) := by
  refine tq_starti (by decide) (Nat.le_of_ble_eq_true rfl) (fun p e R s m args below meth c Q hC hret hS ls hl => ?_)
  have hC : tq_C p R s m args c X (tq_A Z) RX4 cX4_readUnit 4 17 := hC
  have hx := hC.1.1
  have hb := hC.1.2.1
  have hown := hC.1.2.2.2.1
  have hts := hC.1.2.2.2.2
  have hl : lv_has ls 4 [(0, .ref h0), (1, .int x1)] := hl
  generalize hf0 : f = f0 at hret
  have hS : tq_S X Z (tq_A Z) s.heap f0 [(0, 0), (0, 1), (4, 1), (4, 2), (9, 3), (9, 4), (9, 5), (9, 6), (9, 7)] f s.heap [] := hf0 ▸ hS
  refine lv_aload_n hx hb dX4_readUnit_0 rfl (lv_at hl 0 rfl) ?_
  refine gf_RX4_30 hC hS z_h0 dX4_readUnit_1 (fun t_1 p_1 q_1 => ?_)
  refine gf_RX4_49 hC hS p_1 dX4_readUnit_4 (fun t_4 p_4 q_4 => ?_)
  refine lv_bipush (v := 40) hx hb dX4_readUnit_7 (by decide) ?_
  have K_17 : ∀ (y0_17 : Int32) (f : Nat → va_E) (H : Heap) (locs : List Loc) (ls : Array Slot), tq_S X Z (tq_A Z) s.heap f0 [(0, 0), (0, 1), (4, 1), (4, 2), (9, 3), (9, 4), (9, 5), (9, 6), (9, 7)] f H locs → tq_iv 0 1 y0_17 → lv_has ls 4 [(0, .ref h0), (1, .int x1)] → W p l e R s m args below meth c H locs 0 0 Q (F0 m 17 ls [.int y0_17]) := by
    intro y0_17 f H locs ls  hS i1_y0_17 hl
    refine lv_istore_n (lv' := [(2, .int y0_17), (0, .ref h0), (1, .int x1)]) hx hb dX4_readUnit_17 rfl hl (by decide) rfl (fun ls hl => ?_)
    refine lv_aload_n hx hb dX4_readUnit_18 rfl (lv_at hl 1 rfl) ?_
    refine tq_callVpi (As := []) (rest := []) hC (c_X4_unitHere l X Z _ h0 z_h0) k_X4_unitHere ql_RX4_241 rfl (by decide) hS z_h0 rfl hl.1 rfl (Nat.le_of_ble_eq_true rfl) ⟨Nat.zero_le _, Nat.zero_le _⟩ dX4_readUnit_19 (fun t_19 p_19 => ?_)
    refine lv_istore_n (lv' := [(3, .int t_19), (2, .int y0_17), (0, .ref h0), (1, .int x1)]) hx hb dX4_readUnit_22 rfl hl (by decide) rfl (fun ls hl => ?_)
    refine lv_iload_n hx hb dX4_readUnit_23 rfl (lv_at hl 1 rfl) ?_
    have K_47 : ∀ (f : Nat → va_E) (H : Heap) (locs : List Loc) (ls : Array Slot), tq_S X Z (tq_A Z) s.heap f0 [(0, 0), (0, 1), (4, 1), (4, 2), (9, 3), (9, 4), (9, 5), (9, 6), (9, 7)] f H locs → lv_has ls 4 [(0, .ref h0)] → W p l e R s m args below meth c H locs 0 0 Q (F0 m 47 ls []) := by
      intro f H locs ls  hS hl
      refine lv_aload_n hx hb dX4_readUnit_47 rfl (lv_at hl 0 rfl) ?_
      refine tq_callVi (As := []) (rest := []) hC (c_X4_refuse l X Z _ h0 z_h0) k_X4_refuse ql_RX4_63 (by decide) rfl (by decide) hS z_h0 rfl hl.1 rfl (Nat.le_of_ble_eq_true rfl) ⟨Nat.zero_le _, Nat.zero_le _⟩ dX4_readUnit_48 (fun t_48 f1_48 H locs p_48 hS k_48 => ?_)
      exact hret t_48 _ _ _ _ _ (tq_nb p_48 (by decide) (by decide)) ⟨_, rfl, tq_w p_48 (by decide) (by decide)⟩ hS dX4_readUnit_51
    have K_32 : ∀ (f : Nat → va_E) (H : Heap) (locs : List Loc) (ls : Array Slot), tq_S X Z (tq_A Z) s.heap f0 [(0, 0), (0, 1), (4, 1), (4, 2), (9, 3), (9, 4), (9, 5), (9, 6), (9, 7)] f H locs → lv_has ls 4 [(3, .int t_19), (2, .int y0_17), (0, .ref h0), (1, .int x1)] → W p l e R s m args below meth c H locs 0 0 Q (F0 m 32 ls []) := by
      intro f H locs ls  hS hl
      refine lv_aload_n hx hb dX4_readUnit_32 rfl (lv_at hl 2 rfl) ?_
      refine gf_RX4_12 hC hS z_h0 dX4_readUnit_33 (fun t_33 p_33 q_33 => ?_)
      refine gf_RX4_214 hC hS p_33 dX4_readUnit_36 (fun t_36 p_36 q_36 => ?_)
      refine gf_RX4_244 hC hS p_36 dX4_readUnit_39 (fun t_39 p_39 q_39 => ?_)
      refine lv_bipush (v := 30) hx hb dX4_readUnit_42 (by decide) ?_
      refine lv_icmp_lt (tgt := 52) hx hb dX4_readUnit_44 (by decide) (fun c_44 => ?_) (fun c_44 => ?_)
      · skip
        have i2_t_39 : tq_iv (-2147483648) 29 t_39 := tq_cut (tq_top t_39) (tq_ltL c_44 (tq_top t_39) (⟨by decide, by decide⟩ : tq_iv 30 30 30)) (by decide) (by decide)
        refine lv_iload_n hx hb dX4_readUnit_52 rfl (lv_at hl 1 rfl) ?_
        have K_67 : ∀ (f : Nat → va_E) (H : Heap) (locs : List Loc) (ls : Array Slot), tq_S X Z (tq_A Z) s.heap f0 [(0, 0), (0, 1), (4, 1), (4, 2), (9, 3), (9, 4), (9, 5), (9, 6), (9, 7)] f H locs → lv_has ls 4 [(3, .int t_19), (2, .int y0_17), (0, .ref h0), (1, .int x1)] → W p l e R s m args below meth c H locs 0 0 Q (F0 m 67 ls []) := by
          intro f H locs ls  hS hl
          refine lv_aload_n hx hb dX4_readUnit_67 rfl (lv_at hl 2 rfl) ?_
          refine gf_RX4_12 hC hS z_h0 dX4_readUnit_68 (fun t_68 p_68 q_68 => ?_)
          refine gf_RX4_214 hC hS p_68 dX4_readUnit_71 (fun t_71 p_71 q_71 => ?_)
          refine lv_dup hx hb dX4_readUnit_74 rfl ?_
          refine gf_RX4_244 hC hS p_71 dX4_readUnit_75 (fun t_75 p_75 q_75 => ?_)
          refine lv_iconst (v := 1) hx hb dX4_readUnit_78 (by decide) ?_
          refine lv_iadd hx hb dX4_readUnit_79 ?_
          refine lv_topi (fun t_79 e_79 => ?_)
          refine pf_RX4_244 hC hS p_71 (by decide) trivial dX4_readUnit_80 (fun f H locs hS q_80 k_80 => ?_)
          refine lv_iload_n hx hb dX4_readUnit_83 rfl (lv_at hl 1 rfl) ?_
          have K_105 : ∀ (f : Nat → va_E) (H : Heap) (locs : List Loc) (ls : Array Slot), tq_S X Z (tq_A Z) s.heap f0 [(0, 0), (0, 1), (4, 1), (4, 2), (9, 3), (9, 4), (9, 5), (9, 6), (9, 7)] f H locs → lv_has ls 4 [(2, .int y0_17), (0, .ref h0), (1, .int x1)] → W p l e R s m args below meth c H locs 0 0 Q (F0 m 105 ls []) := by
            intro f H locs ls  hS hl
            refine lv_aload_n hx hb dX4_readUnit_105 rfl (lv_at hl 1 rfl) ?_
            refine gf_RX4_30 hC hS z_h0 dX4_readUnit_106 (fun t_106 p_106 q_106 => ?_)
            refine tq_callVv (As := []) (rest := []) hC (c_X9_advance l X Z _ t_106 p_106) k_X9_advance ql_RX4_66 (by decide) rfl (by decide) hS p_106 rfl hl.1 rfl (Nat.le_of_ble_eq_true rfl) ⟨Nat.zero_le _, Nat.zero_le _⟩ dX4_readUnit_109 (fun f1_109 H locs hS k_109 => ?_)
            refine lv_iload_n hx hb dX4_readUnit_112 rfl (lv_at hl 0 rfl) ?_
            have K_140 : ∀ (y0_140 : Int32) (f : Nat → va_E) (H : Heap) (locs : List Loc) (ls : Array Slot), tq_S X Z (tq_A Z) s.heap f0 [(0, 0), (0, 1), (4, 1), (4, 2), (9, 3), (9, 4), (9, 5), (9, 6), (9, 7)] f H locs → tq_iv 0 1 y0_140 → lv_has ls 4 [] → W p l e R s m args below meth c H locs 0 0 Q (F0 m 140 ls [.int y0_140]) := by
              intro y0_140 f H locs ls  hS i3_y0_140 hl
              exact hret y0_140 _ _ _ _ _ (tq_nb i3_y0_140 (by decide) (by decide)) ⟨_, rfl, tq_w i3_y0_140 (by decide) (by decide)⟩ hS dX4_readUnit_140
            have K_135 : ∀ (f : Nat → va_E) (H : Heap) (locs : List Loc) (ls : Array Slot), tq_S X Z (tq_A Z) s.heap f0 [(0, 0), (0, 1), (4, 1), (4, 2), (9, 3), (9, 4), (9, 5), (9, 6), (9, 7)] f H locs → lv_has ls 4 [] → W p l e R s m args below meth c H locs 0 0 Q (F0 m 135 ls []) := by
              intro f H locs ls  hS hl
              refine lv_iconst (v := 1) hx hb dX4_readUnit_135 (by decide) ?_
              refine lv_goto (tgt := 140) hx hb dX4_readUnit_136 (by decide) ?_
              exact K_140 1 _ _ _ _ hS (tq_w (⟨by decide, by decide⟩ : tq_iv 1 1 1) (by decide) (by decide)) (lv_sub hl [] rfl)
            refine lv_if_eq (tgt := 135) hx hb dX4_readUnit_113 (by decide) (fun c_113 => ?_) (fun c_113 => ?_)
            · skip
              have i4_y0_17 : tq_iv 0 0 y0_17 := tq_cut i1_y0_17 (tq_eqL c_113 (⟨by decide, by decide⟩ : tq_iv 0 0 0)) (by decide) (by decide)
              exact K_135 _ _ _ _ hS (lv_sub hl [] rfl)
            · skip
              have i5_y0_17 : tq_iv 1 1 y0_17 := tq_w (tq_neLo c_113 i1_y0_17 (⟨by decide, by decide⟩ : tq_iv 0 0 0)) (by decide) (by decide)
              refine lv_aload_n hx hb dX4_readUnit_116 rfl (lv_at hl 1 rfl) ?_
              refine lv_iload_n hx hb dX4_readUnit_117 rfl (lv_at hl 2 rfl) ?_
              refine lv_iconst (v := 1) hx hb dX4_readUnit_118 (by decide) ?_
              refine lv_iadd hx hb dX4_readUnit_119 ?_
              refine lv_topi (fun t_119 e_119 => ?_)
              have i6_t_119 : tq_iv 6 6 t_119 := tq_w (tq_add e_119 i_x1 (⟨by decide, by decide⟩ : tq_iv 1 1 1) (by decide) (by decide)) (by decide) (by decide)
              refine tq_callVi (As := [.int t_119]) (rest := []) hC (c_X4_readEither_6_6 l X Z _ h0 z_h0 t_119 (tq_w i6_t_119 (by decide) (by decide))) k_X4_readEither ql_RX4_94 (by decide) rfl (by decide) hS z_h0 rfl hl.1 rfl (Nat.le_of_ble_eq_true rfl) ⟨Nat.zero_le _, Nat.zero_le _⟩ dX4_readUnit_120 (fun t_120 f1_120 H locs p_120 hS k_120 => ?_)
              have K_139 : ∀ (f : Nat → va_E) (H : Heap) (locs : List Loc) (ls : Array Slot), tq_S X Z (tq_A Z) s.heap f0 [(0, 0), (0, 1), (4, 1), (4, 2), (9, 3), (9, 4), (9, 5), (9, 6), (9, 7)] f H locs → lv_has ls 4 [] → W p l e R s m args below meth c H locs 0 0 Q (F0 m 139 ls []) := by
                intro f H locs ls  hS hl
                refine lv_iconst (v := 0) hx hb dX4_readUnit_139 (by decide) ?_
                exact K_140 0 _ _ _ _ hS (tq_w (⟨by decide, by decide⟩ : tq_iv 0 0 0) (by decide) (by decide)) (lv_sub hl [] rfl)
              refine lv_if_eq (tgt := 139) hx hb dX4_readUnit_123 (by decide) (fun c_123 => ?_) (fun c_123 => ?_)
              · skip
                have i7_t_120 : tq_iv 0 0 t_120 := tq_cut p_120 (tq_eqL c_123 (⟨by decide, by decide⟩ : tq_iv 0 0 0)) (by decide) (by decide)
                exact K_139 _ _ _ _ hS (lv_sub hl [] rfl)
              · skip
                have i8_t_120 : tq_iv 1 1 t_120 := tq_w (tq_neLo c_123 p_120 (⟨by decide, by decide⟩ : tq_iv 0 0 0)) (by decide) (by decide)
                refine lv_aload_n hx hb dX4_readUnit_126 rfl (lv_at hl 1 rfl) ?_
                refine lv_bipush (v := 41) hx hb dX4_readUnit_127 (by decide) ?_
                refine tq_callVi (As := [.int 41]) (rest := []) hC (c_X4_expect l X Z _ h0 z_h0 41) k_X4_expect ql_RX4_97 (by decide) rfl (by decide) hS z_h0 rfl hl.1 rfl (Nat.le_of_ble_eq_true rfl) ⟨Nat.zero_le _, Nat.zero_le _⟩ dX4_readUnit_129 (fun t_129 f1_129 H locs p_129 hS k_129 => ?_)
                refine lv_if_eq (tgt := 139) hx hb dX4_readUnit_132 (by decide) (fun c_132 => ?_) (fun c_132 => ?_)
                · skip
                  have i9_t_129 : tq_iv 0 0 t_129 := tq_cut p_129 (tq_eqL c_132 (⟨by decide, by decide⟩ : tq_iv 0 0 0)) (by decide) (by decide)
                  exact K_139 _ _ _ _ hS (lv_sub hl [] rfl)
                · skip
                  have i10_t_129 : tq_iv 1 1 t_129 := tq_w (tq_neLo c_132 p_129 (⟨by decide, by decide⟩ : tq_iv 0 0 0)) (by decide) (by decide)
                  exact K_135 _ _ _ _ hS (lv_sub hl [] rfl)
          refine lv_if_ne (tgt := 105) hx hb dX4_readUnit_84 (by decide) (fun c_84 => ?_) (fun c_84 => ?_)
          · skip
            have i11_y0_17 : tq_iv 1 1 y0_17 := tq_w (tq_neLo c_84 i1_y0_17 (⟨by decide, by decide⟩ : tq_iv 0 0 0)) (by decide) (by decide)
            exact K_105 _ _ _ _ hS (lv_sub hl [1, 2, 3] rfl)
          · skip
            have i12_y0_17 : tq_iv 0 0 y0_17 := tq_cut i1_y0_17 (tq_eqL c_84 (⟨by decide, by decide⟩ : tq_iv 0 0 0)) (by decide) (by decide)
            refine lv_aload_n hx hb dX4_readUnit_87 rfl (lv_at hl 2 rfl) ?_
            refine gf_RX4_12 hC hS z_h0 dX4_readUnit_88 (fun t_88 p_88 q_88 => ?_)
            refine gf_RX4_214 hC hS p_88 dX4_readUnit_91 (fun t_91 p_91 q_91 => ?_)
            refine lv_iload_n hx hb dX4_readUnit_94 rfl (lv_at hl 0 rfl) ?_
            refine lv_aload_n hx hb dX4_readUnit_95 rfl (lv_at hl 2 rfl) ?_
            refine gf_RX4_30 hC hS z_h0 dX4_readUnit_96 (fun t_96 p_96 q_96 => ?_)
            refine gf_RX4_106 hC hS p_96 dX4_readUnit_99 (fun t_99 p_99 q_99 => ?_)
            refine tq_callVv (As := [.int t_19, .int t_99]) (rest := []) hC (c_X0_append l X Z _ t_91 p_91 t_19 t_99) k_X0_append ql_RX4_220 (by decide) rfl (by decide) hS p_91 rfl hl.1 rfl (Nat.le_of_ble_eq_true rfl) ⟨Nat.zero_le _, Nat.zero_le _⟩ dX4_readUnit_102 (fun f1_102 H locs hS k_102 => ?_)
            exact K_105 _ _ _ _ hS (lv_sub hl [1, 2, 3] rfl)
        refine lv_if_eq (tgt := 67) hx hb dX4_readUnit_53 (by decide) (fun c_53 => ?_) (fun c_53 => ?_)
        · skip
          have i13_y0_17 : tq_iv 0 0 y0_17 := tq_cut i1_y0_17 (tq_eqL c_53 (⟨by decide, by decide⟩ : tq_iv 0 0 0)) (by decide) (by decide)
          exact K_67 _ _ _ _ hS (lv_sub hl [0, 1, 2, 3] rfl)
        · skip
          have i14_y0_17 : tq_iv 1 1 y0_17 := tq_w (tq_neLo c_53 i1_y0_17 (⟨by decide, by decide⟩ : tq_iv 0 0 0)) (by decide) (by decide)
          refine lv_iload_n hx hb dX4_readUnit_56 rfl (lv_at hl 3 rfl) ?_
          refine lv_bipush (v := 6) hx hb dX4_readUnit_57 (by decide) ?_
          refine lv_icmp_le (tgt := 67) hx hb dX4_readUnit_59 (by decide) (fun c_59 => ?_) (fun c_59 => ?_)
          · skip
            exact K_67 _ _ _ _ hS (lv_sub hl [0, 1, 2, 3] rfl)
          · skip
            exact (tq_xlt (tq_nle c_59) (⟨by decide, by decide⟩ : tq_iv 6 6 6) i_x1 (by decide)).elim
      · skip
        have i15_t_39 : tq_iv 30 2147483647 t_39 := tq_cut (tq_top t_39) (tq_leR (tq_nlt c_44) (⟨by decide, by decide⟩ : tq_iv 30 30 30) (tq_top t_39)) (by decide) (by decide)
        exact K_47 _ _ _ _ hS (lv_sub hl [2] rfl)
    refine lv_if_ne (tgt := 32) hx hb dX4_readUnit_24 (by decide) (fun c_24 => ?_) (fun c_24 => ?_)
    · skip
      have i16_y0_17 : tq_iv 1 1 y0_17 := tq_w (tq_neLo c_24 i1_y0_17 (⟨by decide, by decide⟩ : tq_iv 0 0 0)) (by decide) (by decide)
      exact K_32 _ _ _ _ hS (lv_sub hl [0, 1, 2, 3] rfl)
    · skip
      have i17_y0_17 : tq_iv 0 0 y0_17 := tq_cut i1_y0_17 (tq_eqL c_24 (⟨by decide, by decide⟩ : tq_iv 0 0 0)) (by decide) (by decide)
      refine lv_iload_n hx hb dX4_readUnit_27 rfl (lv_at hl 0 rfl) ?_
      refine lv_iconst (v := -1) hx hb dX4_readUnit_28 (by decide) ?_
      refine lv_icmp_eq (tgt := 47) hx hb dX4_readUnit_29 (by decide) (fun c_29 => ?_) (fun c_29 => ?_)
      · skip
        have i18_t_19 : tq_iv (-1) (-1) t_19 := tq_cut p_19 (tq_eqL c_29 (⟨by decide, by decide⟩ : tq_iv (-1) (-1) (-1))) (by decide) (by decide)
        exact K_47 _ _ _ _ hS (lv_sub hl [2] rfl)
      · skip
        have i19_t_19 : tq_iv 0 4 t_19 := tq_w (tq_neLo c_29 p_19 (⟨by decide, by decide⟩ : tq_iv (-1) (-1) (-1))) (by decide) (by decide)
        exact K_32 _ _ _ _ hS (lv_sub hl [0, 1, 2, 3] rfl)
  refine lv_icmp_ne (tgt := 16) hx hb dX4_readUnit_9 (by decide) (fun c_9 => ?_) (fun c_9 => ?_)
  · skip
    refine lv_iconst (v := 0) hx hb dX4_readUnit_16 (by decide) ?_
    exact K_17 0 _ _ _ _ hS (tq_w (⟨by decide, by decide⟩ : tq_iv 0 0 0) (by decide) (by decide)) (lv_sub hl [0, 1] rfl)
  · skip
    have i20_t_4 : tq_iv 40 40 t_4 := tq_cut (tq_top t_4) (tq_eqL c_9 (⟨by decide, by decide⟩ : tq_iv 40 40 40)) (by decide) (by decide)
    refine lv_iconst (v := 1) hx hb dX4_readUnit_12 (by decide) ?_
    refine lv_goto (tgt := 17) hx hb dX4_readUnit_13 (by decide) ?_
    exact K_17 1 _ _ _ _ hS (tq_w (⟨by decide, by decide⟩ : tq_iv 1 1 1) (by decide) (by decide)) (lv_sub hl [0, 1] rfl)
set_option maxHeartbeats 4000000 in
set_option maxRecDepth 100000 in
theorem c_X4_readTerm_5_5 (l : Launch) (X : tq_X) (Z : tq_Z) (f : Nat → va_E) (h0 : Nat) (z_h0 : tq_z Z h0 (.inl 4)) (x1 : Int32) (i_x1 : tq_iv 5 5 x1) : tq_M l X Z f [(0, 0), (0, 1), (4, 1), (4, 2), (9, 3), (9, 4), (9, 5), (9, 6), (9, 7)] yX4_readTerm cX4_readTerm 5 (some .boolean) 18 [.ref h0, .int x1] (tq_ri 0 1) := by
  refine tq_starti (by decide) (Nat.le_of_ble_eq_true rfl) (fun p e R s m args below meth c Q hC hret hS ls hl => ?_)
  have hC : tq_C p R s m args c X (tq_A Z) RX4 cX4_readTerm 5 18 := hC
  have hx := hC.1.1
  have hb := hC.1.2.1
  have hown := hC.1.2.2.2.1
  have hts := hC.1.2.2.2.2
  have hl : lv_has ls 5 [(0, .ref h0), (1, .int x1)] := hl
  generalize hf0 : f = f0 at hret
  have hS : tq_S X Z (tq_A Z) s.heap f0 [(0, 0), (0, 1), (4, 1), (4, 2), (9, 3), (9, 4), (9, 5), (9, 6), (9, 7)] f s.heap [] := hf0 ▸ hS
  refine lv_aload_n hx hb dX4_readTerm_0 rfl (lv_at hl 0 rfl) ?_
  refine lv_iload_n hx hb dX4_readTerm_1 rfl (lv_at hl 1 rfl) ?_
  refine tq_callVi (As := [.int x1]) (rest := []) hC (c_X4_readUnit_5_5 l X Z _ h0 z_h0 x1 (tq_w i_x1 (by decide) (by decide))) k_X4_readUnit ql_RX4_235 (by decide) rfl (by decide) hS z_h0 rfl hl.1 rfl (Nat.le_of_ble_eq_true rfl) ⟨Nat.zero_le _, Nat.zero_le _⟩ dX4_readTerm_2 (fun t_2 f1_2 H locs p_2 hS k_2 => ?_)
  refine lv_istore_n (lv' := [(2, .int t_2), (0, .ref h0), (1, .int x1)]) hx hb dX4_readTerm_5 rfl hl (by decide) rfl (fun ls hl => ?_)
  refine lv_iconst (v := 0) hx hb dX4_readTerm_6 (by decide) ?_
  refine lv_istore_n (lv' := [(3, .int 0), (2, .int t_2), (0, .ref h0), (1, .int x1)]) hx hb dX4_readTerm_7 rfl hl (by decide) rfl (fun ls hl => ?_)
  have K_8 : ∀ (n_8 : Nat) (x3_8 : Int32) (x2_8 : Int32) (f : Nat → va_E) (H : Heap) (locs : List Loc) (ls : Array Slot), tq_S X Z (tq_A Z) s.heap f0 [(0, 0), (0, 1), (4, 1), (4, 2), (9, 3), (9, 4), (9, 5), (9, 6), (9, 7)] f H locs → tq_iv 0 1 x2_8 → tq_iv 0 1600 x3_8 → (2147483647 - x3_8.toInt).toNat < n_8 → lv_has ls 5 [(3, .int x3_8), (2, .int x2_8), (0, .ref h0), (1, .int x1)] → W p l e R s m args below meth c H locs 0 0 Q (F0 m 8 ls []) := by
    intro n_8
    induction n_8 with
    | zero => intro x3_8 x2_8 f H locs ls  hS i1_x2_8 i2_x3_8 hn_8; exact absurd hn_8 (Nat.not_lt_zero _)
    | succ n_8 ih_8 =>
      intro x3_8 x2_8 f H locs ls  hS i1_x2_8 i2_x3_8 hn_8 hl
      refine lv_iload_n hx hb dX4_readTerm_8 rfl (lv_at hl 0 rfl) ?_
      refine lv_sipush (v := 1600) hx hb dX4_readTerm_9 (by decide) ?_
      have K_65 : ∀ (f : Nat → va_E) (H : Heap) (locs : List Loc) (ls : Array Slot), tq_S X Z (tq_A Z) s.heap f0 [(0, 0), (0, 1), (4, 1), (4, 2), (9, 3), (9, 4), (9, 5), (9, 6), (9, 7)] f H locs → lv_has ls 5 [(2, .int x2_8)] → W p l e R s m args below meth c H locs 0 0 Q (F0 m 65 ls []) := by
        intro f H locs ls  hS hl
        refine lv_iload_n hx hb dX4_readTerm_65 rfl (lv_at hl 0 rfl) ?_
        exact hret x2_8 _ _ _ _ _ (tq_nb i1_x2_8 (by decide) (by decide)) ⟨_, rfl, tq_w i1_x2_8 (by decide) (by decide)⟩ hS dX4_readTerm_66
      refine lv_icmp_ge (tgt := 65) hx hb dX4_readTerm_12 (by decide) (fun c_12 => ?_) (fun c_12 => ?_)
      · skip
        have i3_x3_8 : tq_iv 1600 1600 x3_8 := tq_cut i2_x3_8 (tq_leR c_12 (⟨by decide, by decide⟩ : tq_iv 1600 1600 1600) i2_x3_8) (by decide) (by decide)
        exact K_65 _ _ _ _ hS (lv_sub hl [1] rfl)
      · skip
        have i4_x3_8 : tq_iv 0 1599 x3_8 := tq_cut i2_x3_8 (tq_ltL (tq_nle c_12) i2_x3_8 (⟨by decide, by decide⟩ : tq_iv 1600 1600 1600)) (by decide) (by decide)
        refine lv_iload_n hx hb dX4_readTerm_15 rfl (lv_at hl 1 rfl) ?_
        refine lv_if_eq (tgt := 65) hx hb dX4_readTerm_16 (by decide) (fun c_16 => ?_) (fun c_16 => ?_)
        · skip
          have i5_x2_8 : tq_iv 0 0 x2_8 := tq_cut i1_x2_8 (tq_eqL c_16 (⟨by decide, by decide⟩ : tq_iv 0 0 0)) (by decide) (by decide)
          exact K_65 _ _ _ _ hS (lv_sub hl [1] rfl)
        · skip
          have i6_x2_8 : tq_iv 1 1 x2_8 := tq_w (tq_neLo c_16 i1_x2_8 (⟨by decide, by decide⟩ : tq_iv 0 0 0)) (by decide) (by decide)
          refine lv_aload_n hx hb dX4_readTerm_19 rfl (lv_at hl 2 rfl) ?_
          refine tq_callVpi (As := []) (rest := []) hC (c_X4_productHere l X Z _ h0 z_h0) k_X4_productHere ql_RX4_238 rfl (by decide) hS z_h0 rfl hl.1 rfl (Nat.le_of_ble_eq_true rfl) ⟨Nat.zero_le _, Nat.zero_le _⟩ dX4_readTerm_20 (fun t_20 p_20 => ?_)
          refine lv_iconst (v := -1) hx hb dX4_readTerm_23 (by decide) ?_
          refine lv_icmp_eq (tgt := 65) hx hb dX4_readTerm_24 (by decide) (fun c_24 => ?_) (fun c_24 => ?_)
          · skip
            have i7_t_20 : tq_iv (-1) (-1) t_20 := tq_cut p_20 (tq_eqL c_24 (⟨by decide, by decide⟩ : tq_iv (-1) (-1) (-1))) (by decide) (by decide)
            exact K_65 _ _ _ _ hS (lv_sub hl [1] rfl)
          · skip
            have i8_t_20 : tq_iv 0 15 t_20 := tq_w (tq_neLo c_24 p_20 (⟨by decide, by decide⟩ : tq_iv (-1) (-1) (-1))) (by decide) (by decide)
            refine lv_aload_n hx hb dX4_readTerm_27 rfl (lv_at hl 2 rfl) ?_
            refine tq_callVpi (As := []) (rest := []) hC (c_X4_productHere l X Z _ h0 z_h0) k_X4_productHere ql_RX4_238 rfl (by decide) hS z_h0 rfl hl.1 rfl (Nat.le_of_ble_eq_true rfl) ⟨Nat.zero_le _, Nat.zero_le _⟩ dX4_readTerm_28 (fun t_28 p_28 => ?_)
            refine lv_istore (lv' := [(4, .int t_28), (3, .int x3_8), (2, .int x2_8), (0, .ref h0), (1, .int x1)]) hx hb dX4_readTerm_31 hl (by decide) rfl (fun ls hl => ?_)
            refine lv_aload_n hx hb dX4_readTerm_33 rfl (lv_at hl 3 rfl) ?_
            refine gf_RX4_30 hC hS z_h0 dX4_readTerm_34 (fun t_34 p_34 q_34 => ?_)
            refine tq_callVv (As := []) (rest := []) hC (c_X9_advance l X Z _ t_34 p_34) k_X9_advance ql_RX4_66 (by decide) rfl (by decide) hS p_34 rfl hl.1 rfl (Nat.le_of_ble_eq_true rfl) ⟨Nat.zero_le _, Nat.zero_le _⟩ dX4_readTerm_37 (fun f1_37 H locs hS k_37 => ?_)
            refine lv_aload_n hx hb dX4_readTerm_40 rfl (lv_at hl 3 rfl) ?_
            refine lv_iload_n hx hb dX4_readTerm_41 rfl (lv_at hl 4 rfl) ?_
            refine tq_callVi (As := [.int x1]) (rest := []) hC (c_X4_readUnit_5_5 l X Z _ h0 z_h0 x1 (tq_w i_x1 (by decide) (by decide))) k_X4_readUnit ql_RX4_235 (by decide) rfl (by decide) hS z_h0 rfl hl.1 rfl (Nat.le_of_ble_eq_true rfl) ⟨Nat.zero_le _, Nat.zero_le _⟩ dX4_readTerm_42 (fun t_42 f1_42 H locs p_42 hS k_42 => ?_)
            refine lv_istore_n (lv' := [(2, .int t_42), (4, .int t_28), (3, .int x3_8), (0, .ref h0), (1, .int x1)]) hx hb dX4_readTerm_45 rfl hl (by decide) rfl (fun ls hl => ?_)
            refine lv_aload_n hx hb dX4_readTerm_46 rfl (lv_at hl 3 rfl) ?_
            refine gf_RX4_12 hC hS z_h0 dX4_readTerm_47 (fun t_47 p_47 q_47 => ?_)
            refine gf_RX4_214 hC hS p_47 dX4_readTerm_50 (fun t_50 p_50 q_50 => ?_)
            refine lv_iload hx hb dX4_readTerm_53 (lv_at hl 1 rfl) ?_
            refine lv_iconst (v := 0) hx hb dX4_readTerm_55 (by decide) ?_
            refine tq_callVv (As := [.int t_28, .int 0]) (rest := []) hC (c_X0_append l X Z _ t_50 p_50 t_28 0) k_X0_append ql_RX4_220 (by decide) rfl (by decide) hS p_50 rfl hl.1 rfl (Nat.le_of_ble_eq_true rfl) ⟨Nat.zero_le _, Nat.zero_le _⟩ dX4_readTerm_56 (fun f1_56 H locs hS k_56 => ?_)
            obtain ⟨t_59, e_59⟩ : ∃ y : Int32, y = x3_8 + 1 := ⟨_, rfl⟩
            have i9_t_59 : tq_iv 1 1600 t_59 := tq_w (tq_add e_59 i4_x3_8 (⟨by decide, by decide⟩ : tq_iv 1 1 1) (by decide) (by decide)) (by decide) (by decide)
            refine lv_iinc (v := t_59) (lv' := [(3, .int t_59), (2, .int t_42), (4, .int t_28), (0, .ref h0), (1, .int x1)]) hx hb dX4_readTerm_59 hl (k := 2) rfl (by rw [e_59]; rfl) (by decide) rfl (fun ls hl => ?_)
            refine lv_goto (tgt := 8) hx hb dX4_readTerm_62 (by decide) ?_
            exact ih_8 t_59 t_42 _ _ _ _ hS (tq_w p_42 (by decide) (by decide)) (tq_w i9_t_59 (by decide) (by decide)) (tq_up e_59 i4_x3_8 (⟨by decide, by decide⟩ : tq_iv 1 1 1) (by decide) (by decide) hn_8) (lv_sub hl [0, 1, 3, 4] rfl)
  exact K_8 _ 0 t_2 _ _ _ _ hS (tq_w p_2 (by decide) (by decide)) (tq_w (⟨by decide, by decide⟩ : tq_iv 0 0 0) (by decide) (by decide)) (Nat.lt_succ_self _) (lv_sub hl [0, 1, 2, 3] rfl)
set_option maxHeartbeats 4000000 in
set_option maxRecDepth 100000 in
theorem c_X4_readSum_5_5 (l : Launch) (X : tq_X) (Z : tq_Z) (f : Nat → va_E) (h0 : Nat) (z_h0 : tq_z Z h0 (.inl 4)) (x1 : Int32) (i_x1 : tq_iv 5 5 x1) : tq_M l X Z f [(0, 0), (0, 1), (4, 1), (4, 2), (9, 3), (9, 4), (9, 5), (9, 6), (9, 7)] yX4_readSum cX4_readSum 5 (some .boolean) 19 [.ref h0, .int x1] (tq_ri 0 1) := by
  refine tq_starti (by decide) (Nat.le_of_ble_eq_true rfl) (fun p e R s m args below meth c Q hC hret hS ls hl => ?_)
  have hC : tq_C p R s m args c X (tq_A Z) RX4 cX4_readSum 5 19 := hC
  have hx := hC.1.1
  have hb := hC.1.2.1
  have hown := hC.1.2.2.2.1
  have hts := hC.1.2.2.2.2
  have hl : lv_has ls 5 [(0, .ref h0), (1, .int x1)] := hl
  generalize hf0 : f = f0 at hret
  have hS : tq_S X Z (tq_A Z) s.heap f0 [(0, 0), (0, 1), (4, 1), (4, 2), (9, 3), (9, 4), (9, 5), (9, 6), (9, 7)] f s.heap [] := hf0 ▸ hS
  refine lv_aload_n hx hb dX4_readSum_0 rfl (lv_at hl 0 rfl) ?_
  refine lv_iload_n hx hb dX4_readSum_1 rfl (lv_at hl 1 rfl) ?_
  refine tq_callVi (As := [.int x1]) (rest := []) hC (c_X4_readTerm_5_5 l X Z _ h0 z_h0 x1 (tq_w i_x1 (by decide) (by decide))) k_X4_readTerm ql_RX4_232 (by decide) rfl (by decide) hS z_h0 rfl hl.1 rfl (Nat.le_of_ble_eq_true rfl) ⟨Nat.zero_le _, Nat.zero_le _⟩ dX4_readSum_2 (fun t_2 f1_2 H locs p_2 hS k_2 => ?_)
  refine lv_istore_n (lv' := [(2, .int t_2), (0, .ref h0), (1, .int x1)]) hx hb dX4_readSum_5 rfl hl (by decide) rfl (fun ls hl => ?_)
  refine lv_iconst (v := 0) hx hb dX4_readSum_6 (by decide) ?_
  refine lv_istore_n (lv' := [(3, .int 0), (2, .int t_2), (0, .ref h0), (1, .int x1)]) hx hb dX4_readSum_7 rfl hl (by decide) rfl (fun ls hl => ?_)
  have K_8 : ∀ (n_8 : Nat) (x3_8 : Int32) (x2_8 : Int32) (f : Nat → va_E) (H : Heap) (locs : List Loc) (ls : Array Slot), tq_S X Z (tq_A Z) s.heap f0 [(0, 0), (0, 1), (4, 1), (4, 2), (9, 3), (9, 4), (9, 5), (9, 6), (9, 7)] f H locs → tq_iv 0 1 x2_8 → tq_iv 0 1600 x3_8 → (2147483647 - x3_8.toInt).toNat < n_8 → lv_has ls 5 [(3, .int x3_8), (2, .int x2_8), (0, .ref h0), (1, .int x1)] → W p l e R s m args below meth c H locs 0 0 Q (F0 m 8 ls []) := by
    intro n_8
    induction n_8 with
    | zero => intro x3_8 x2_8 f H locs ls  hS i1_x2_8 i2_x3_8 hn_8; exact absurd hn_8 (Nat.not_lt_zero _)
    | succ n_8 ih_8 =>
      intro x3_8 x2_8 f H locs ls  hS i1_x2_8 i2_x3_8 hn_8 hl
      refine lv_iload_n hx hb dX4_readSum_8 rfl (lv_at hl 0 rfl) ?_
      refine lv_sipush (v := 1600) hx hb dX4_readSum_9 (by decide) ?_
      have K_96 : ∀ (f : Nat → va_E) (H : Heap) (locs : List Loc) (ls : Array Slot), tq_S X Z (tq_A Z) s.heap f0 [(0, 0), (0, 1), (4, 1), (4, 2), (9, 3), (9, 4), (9, 5), (9, 6), (9, 7)] f H locs → lv_has ls 5 [(2, .int x2_8)] → W p l e R s m args below meth c H locs 0 0 Q (F0 m 96 ls []) := by
        intro f H locs ls  hS hl
        refine lv_iload_n hx hb dX4_readSum_96 rfl (lv_at hl 0 rfl) ?_
        exact hret x2_8 _ _ _ _ _ (tq_nb i1_x2_8 (by decide) (by decide)) ⟨_, rfl, tq_w i1_x2_8 (by decide) (by decide)⟩ hS dX4_readSum_97
      refine lv_icmp_ge (tgt := 96) hx hb dX4_readSum_12 (by decide) (fun c_12 => ?_) (fun c_12 => ?_)
      · skip
        have i3_x3_8 : tq_iv 1600 1600 x3_8 := tq_cut i2_x3_8 (tq_leR c_12 (⟨by decide, by decide⟩ : tq_iv 1600 1600 1600) i2_x3_8) (by decide) (by decide)
        exact K_96 _ _ _ _ hS (lv_sub hl [1] rfl)
      · skip
        have i4_x3_8 : tq_iv 0 1599 x3_8 := tq_cut i2_x3_8 (tq_ltL (tq_nle c_12) i2_x3_8 (⟨by decide, by decide⟩ : tq_iv 1600 1600 1600)) (by decide) (by decide)
        refine lv_iload_n hx hb dX4_readSum_15 rfl (lv_at hl 1 rfl) ?_
        refine lv_if_eq (tgt := 96) hx hb dX4_readSum_16 (by decide) (fun c_16 => ?_) (fun c_16 => ?_)
        · skip
          have i5_x2_8 : tq_iv 0 0 x2_8 := tq_cut i1_x2_8 (tq_eqL c_16 (⟨by decide, by decide⟩ : tq_iv 0 0 0)) (by decide) (by decide)
          exact K_96 _ _ _ _ hS (lv_sub hl [1] rfl)
        · skip
          have i6_x2_8 : tq_iv 1 1 x2_8 := tq_w (tq_neLo c_16 i1_x2_8 (⟨by decide, by decide⟩ : tq_iv 0 0 0)) (by decide) (by decide)
          refine lv_aload_n hx hb dX4_readSum_19 rfl (lv_at hl 2 rfl) ?_
          refine gf_RX4_30 hC hS z_h0 dX4_readSum_20 (fun t_20 p_20 q_20 => ?_)
          refine gf_RX4_49 hC hS p_20 dX4_readSum_23 (fun t_23 p_23 q_23 => ?_)
          refine lv_bipush (v := 43) hx hb dX4_readSum_26 (by decide) ?_
          have K_43 : ∀ (f : Nat → va_E) (H : Heap) (locs : List Loc) (ls : Array Slot), tq_S X Z (tq_A Z) s.heap f0 [(0, 0), (0, 1), (4, 1), (4, 2), (9, 3), (9, 4), (9, 5), (9, 6), (9, 7)] f H locs → lv_has ls 5 [(3, .int x3_8), (0, .ref h0), (1, .int x1)] → W p l e R s m args below meth c H locs 0 0 Q (F0 m 43 ls []) := by
            intro f H locs ls  hS hl
            refine lv_aload_n hx hb dX4_readSum_43 rfl (lv_at hl 1 rfl) ?_
            refine gf_RX4_30 hC hS z_h0 dX4_readSum_44 (fun t_44 p_44 q_44 => ?_)
            refine gf_RX4_49 hC hS p_44 dX4_readSum_47 (fun t_47 p_47 q_47 => ?_)
            refine lv_bipush (v := 43) hx hb dX4_readSum_50 (by decide) ?_
            have K_62 : ∀ (y0_62 : Int32) (f : Nat → va_E) (H : Heap) (locs : List Loc) (ls : Array Slot), tq_S X Z (tq_A Z) s.heap f0 [(0, 0), (0, 1), (4, 1), (4, 2), (9, 3), (9, 4), (9, 5), (9, 6), (9, 7)] f H locs → tq_iv 11 12 y0_62 → lv_has ls 5 [(3, .int x3_8), (0, .ref h0), (1, .int x1)] → W p l e R s m args below meth c H locs 0 0 Q (F0 m 62 ls [.int y0_62]) := by
              intro y0_62 f H locs ls  hS i7_y0_62 hl
              refine lv_istore (lv' := [(4, .int y0_62), (3, .int x3_8), (0, .ref h0), (1, .int x1)]) hx hb dX4_readSum_62 hl (by decide) rfl (fun ls hl => ?_)
              refine lv_aload_n hx hb dX4_readSum_64 rfl (lv_at hl 2 rfl) ?_
              refine gf_RX4_30 hC hS z_h0 dX4_readSum_65 (fun t_65 p_65 q_65 => ?_)
              refine tq_callVv (As := []) (rest := []) hC (c_X9_advance l X Z _ t_65 p_65) k_X9_advance ql_RX4_66 (by decide) rfl (by decide) hS p_65 rfl hl.1 rfl (Nat.le_of_ble_eq_true rfl) ⟨Nat.zero_le _, Nat.zero_le _⟩ dX4_readSum_68 (fun f1_68 H locs hS k_68 => ?_)
              refine lv_aload_n hx hb dX4_readSum_71 rfl (lv_at hl 2 rfl) ?_
              refine lv_iload_n hx hb dX4_readSum_72 rfl (lv_at hl 3 rfl) ?_
              refine tq_callVi (As := [.int x1]) (rest := []) hC (c_X4_readTerm_5_5 l X Z _ h0 z_h0 x1 (tq_w i_x1 (by decide) (by decide))) k_X4_readTerm ql_RX4_232 (by decide) rfl (by decide) hS z_h0 rfl hl.1 rfl (Nat.le_of_ble_eq_true rfl) ⟨Nat.zero_le _, Nat.zero_le _⟩ dX4_readSum_73 (fun t_73 f1_73 H locs p_73 hS k_73 => ?_)
              refine lv_istore_n (lv' := [(2, .int t_73), (4, .int y0_62), (3, .int x3_8), (0, .ref h0), (1, .int x1)]) hx hb dX4_readSum_76 rfl hl (by decide) rfl (fun ls hl => ?_)
              refine lv_aload_n hx hb dX4_readSum_77 rfl (lv_at hl 3 rfl) ?_
              refine gf_RX4_12 hC hS z_h0 dX4_readSum_78 (fun t_78 p_78 q_78 => ?_)
              refine gf_RX4_214 hC hS p_78 dX4_readSum_81 (fun t_81 p_81 q_81 => ?_)
              refine lv_iload hx hb dX4_readSum_84 (lv_at hl 1 rfl) ?_
              refine lv_iconst (v := 0) hx hb dX4_readSum_86 (by decide) ?_
              refine tq_callVv (As := [.int y0_62, .int 0]) (rest := []) hC (c_X0_append l X Z _ t_81 p_81 y0_62 0) k_X0_append ql_RX4_220 (by decide) rfl (by decide) hS p_81 rfl hl.1 rfl (Nat.le_of_ble_eq_true rfl) ⟨Nat.zero_le _, Nat.zero_le _⟩ dX4_readSum_87 (fun f1_87 H locs hS k_87 => ?_)
              obtain ⟨t_90, e_90⟩ : ∃ y : Int32, y = x3_8 + 1 := ⟨_, rfl⟩
              have i8_t_90 : tq_iv 1 1600 t_90 := tq_w (tq_add e_90 i4_x3_8 (⟨by decide, by decide⟩ : tq_iv 1 1 1) (by decide) (by decide)) (by decide) (by decide)
              refine lv_iinc (v := t_90) (lv' := [(3, .int t_90), (2, .int t_73), (4, .int y0_62), (0, .ref h0), (1, .int x1)]) hx hb dX4_readSum_90 hl (k := 2) rfl (by rw [e_90]; rfl) (by decide) rfl (fun ls hl => ?_)
              refine lv_goto (tgt := 8) hx hb dX4_readSum_93 (by decide) ?_
              exact ih_8 t_90 t_73 _ _ _ _ hS (tq_w p_73 (by decide) (by decide)) (tq_w i8_t_90 (by decide) (by decide)) (tq_up e_90 i4_x3_8 (⟨by decide, by decide⟩ : tq_iv 1 1 1) (by decide) (by decide) hn_8) (lv_sub hl [0, 1, 3, 4] rfl)
            refine lv_icmp_ne (tgt := 60) hx hb dX4_readSum_52 (by decide) (fun c_52 => ?_) (fun c_52 => ?_)
            · skip
              refine lv_bipush (v := 12) hx hb dX4_readSum_60 (by decide) ?_
              exact K_62 12 _ _ _ _ hS (tq_w (⟨by decide, by decide⟩ : tq_iv 12 12 12) (by decide) (by decide)) (lv_sub hl [0, 1, 2] rfl)
            · skip
              have i9_t_47 : tq_iv 43 43 t_47 := tq_cut (tq_top t_47) (tq_eqL c_52 (⟨by decide, by decide⟩ : tq_iv 43 43 43)) (by decide) (by decide)
              refine lv_bipush (v := 11) hx hb dX4_readSum_55 (by decide) ?_
              refine lv_goto (tgt := 62) hx hb dX4_readSum_57 (by decide) ?_
              exact K_62 11 _ _ _ _ hS (tq_w (⟨by decide, by decide⟩ : tq_iv 11 11 11) (by decide) (by decide)) (lv_sub hl [0, 1, 2] rfl)
          refine lv_icmp_eq (tgt := 43) hx hb dX4_readSum_28 (by decide) (fun c_28 => ?_) (fun c_28 => ?_)
          · skip
            have i10_t_23 : tq_iv 43 43 t_23 := tq_cut (tq_top t_23) (tq_eqL c_28 (⟨by decide, by decide⟩ : tq_iv 43 43 43)) (by decide) (by decide)
            exact K_43 _ _ _ _ hS (lv_sub hl [0, 2, 3] rfl)
          · skip
            refine lv_aload_n hx hb dX4_readSum_31 rfl (lv_at hl 2 rfl) ?_
            refine gf_RX4_30 hC hS z_h0 dX4_readSum_32 (fun t_32 p_32 q_32 => ?_)
            refine gf_RX4_49 hC hS p_32 dX4_readSum_35 (fun t_35 p_35 q_35 => ?_)
            refine lv_bipush (v := 45) hx hb dX4_readSum_38 (by decide) ?_
            refine lv_icmp_ne (tgt := 96) hx hb dX4_readSum_40 (by decide) (fun c_40 => ?_) (fun c_40 => ?_)
            · skip
              exact K_96 _ _ _ _ hS (lv_sub hl [1] rfl)
            · skip
              have i11_t_35 : tq_iv 45 45 t_35 := tq_cut (tq_top t_35) (tq_eqL c_40 (⟨by decide, by decide⟩ : tq_iv 45 45 45)) (by decide) (by decide)
              exact K_43 _ _ _ _ hS (lv_sub hl [0, 2, 3] rfl)
  exact K_8 _ 0 t_2 _ _ _ _ hS (tq_w p_2 (by decide) (by decide)) (tq_w (⟨by decide, by decide⟩ : tq_iv 0 0 0) (by decide) (by decide)) (Nat.lt_succ_self _) (lv_sub hl [0, 1, 2, 3] rfl)
set_option maxHeartbeats 4000000 in
set_option maxRecDepth 100000 in
theorem c_X4_readOne_5_5 (l : Launch) (X : tq_X) (Z : tq_Z) (f : Nat → va_E) (h0 : Nat) (z_h0 : tq_z Z h0 (.inl 4)) (x1 : Int32) (i_x1 : tq_iv 5 5 x1) : tq_M l X Z f [(0, 0), (0, 1), (4, 1), (4, 2), (9, 3), (9, 4), (9, 5), (9, 6), (9, 7)] yX4_readOne cX4_readOne 4 (some .boolean) 20 [.ref h0, .int x1] (tq_ri 0 1) := by
  refine tq_starti (by decide) (Nat.le_of_ble_eq_true rfl) (fun p e R s m args below meth c Q hC hret hS ls hl => ?_)
  have hC : tq_C p R s m args c X (tq_A Z) RX4 cX4_readOne 4 20 := hC
  have hx := hC.1.1
  have hb := hC.1.2.1
  have hown := hC.1.2.2.2.1
  have hts := hC.1.2.2.2.2
  have hl : lv_has ls 4 [(0, .ref h0), (1, .int x1)] := hl
  generalize hf0 : f = f0 at hret
  have hS : tq_S X Z (tq_A Z) s.heap f0 [(0, 0), (0, 1), (4, 1), (4, 2), (9, 3), (9, 4), (9, 5), (9, 6), (9, 7)] f s.heap [] := hf0 ▸ hS
  refine lv_aload_n hx hb dX4_readOne_0 rfl (lv_at hl 0 rfl) ?_
  refine gf_RX4_30 hC hS z_h0 dX4_readOne_1 (fun t_1 p_1 q_1 => ?_)
  refine gf_RX4_49 hC hS p_1 dX4_readOne_4 (fun t_4 p_4 q_4 => ?_)
  refine lv_bipush (v := 18) hx hb dX4_readOne_7 (by decide) ?_
  refine lv_icmp_ne (tgt := 52) hx hb dX4_readOne_9 (by decide) (fun c_9 => ?_) (fun c_9 => ?_)
  · skip
    refine lv_aload_n hx hb dX4_readOne_52 rfl (lv_at hl 0 rfl) ?_
    refine lv_iload_n hx hb dX4_readOne_53 rfl (lv_at hl 1 rfl) ?_
    refine tq_callVi (As := [.int x1]) (rest := []) hC (c_X4_readSum_5_5 l X Z _ h0 z_h0 x1 (tq_w i_x1 (by decide) (by decide))) k_X4_readSum ql_RX4_226 (by decide) rfl (by decide) hS z_h0 rfl hl.1 rfl (Nat.le_of_ble_eq_true rfl) ⟨Nat.zero_le _, Nat.zero_le _⟩ dX4_readOne_54 (fun t_54 f1_54 H locs p_54 hS k_54 => ?_)
    refine lv_istore_n (lv' := [(2, .int t_54), (0, .ref h0), (1, .int x1)]) hx hb dX4_readOne_57 rfl hl (by decide) rfl (fun ls hl => ?_)
    refine lv_aload_n hx hb dX4_readOne_58 rfl (lv_at hl 1 rfl) ?_
    refine tq_callVpi (As := []) (rest := []) hC (c_X4_relationHere l X Z _ h0 z_h0) k_X4_relationHere ql_RX4_229 rfl (by decide) hS z_h0 rfl hl.1 rfl (Nat.le_of_ble_eq_true rfl) ⟨Nat.zero_le _, Nat.zero_le _⟩ dX4_readOne_59 (fun t_59 p_59 => ?_)
    refine lv_istore_n (lv' := [(3, .int t_59), (2, .int t_54), (0, .ref h0), (1, .int x1)]) hx hb dX4_readOne_62 rfl hl (by decide) rfl (fun ls hl => ?_)
    refine lv_iload_n hx hb dX4_readOne_63 rfl (lv_at hl 1 rfl) ?_
    have K_97 : ∀ (x2_97 : Int32) (f : Nat → va_E) (H : Heap) (locs : List Loc) (ls : Array Slot), tq_S X Z (tq_A Z) s.heap f0 [(0, 0), (0, 1), (4, 1), (4, 2), (9, 3), (9, 4), (9, 5), (9, 6), (9, 7)] f H locs → tq_iv 0 1 x2_97 → lv_has ls 4 [(2, .int x2_97)] → W p l e R s m args below meth c H locs 0 0 Q (F0 m 97 ls []) := by
      intro x2_97 f H locs ls  hS i1_x2_97 hl
      refine lv_iload_n hx hb dX4_readOne_97 rfl (lv_at hl 0 rfl) ?_
      exact hret x2_97 _ _ _ _ _ (tq_nb i1_x2_97 (by decide) (by decide)) ⟨_, rfl, tq_w i1_x2_97 (by decide) (by decide)⟩ hS dX4_readOne_98
    refine lv_if_eq (tgt := 97) hx hb dX4_readOne_64 (by decide) (fun c_64 => ?_) (fun c_64 => ?_)
    · skip
      have i2_t_54 : tq_iv 0 0 t_54 := tq_cut p_54 (tq_eqL c_64 (⟨by decide, by decide⟩ : tq_iv 0 0 0)) (by decide) (by decide)
      exact K_97 t_54 _ _ _ _ hS (tq_w i2_t_54 (by decide) (by decide)) (lv_sub hl [1] rfl)
    · skip
      have i3_t_54 : tq_iv 1 1 t_54 := tq_w (tq_neLo c_64 p_54 (⟨by decide, by decide⟩ : tq_iv 0 0 0)) (by decide) (by decide)
      refine lv_iload_n hx hb dX4_readOne_67 rfl (lv_at hl 0 rfl) ?_
      refine lv_iconst (v := -1) hx hb dX4_readOne_68 (by decide) ?_
      refine lv_icmp_eq (tgt := 97) hx hb dX4_readOne_69 (by decide) (fun c_69 => ?_) (fun c_69 => ?_)
      · skip
        have i4_t_59 : tq_iv (-1) (-1) t_59 := tq_cut p_59 (tq_eqL c_69 (⟨by decide, by decide⟩ : tq_iv (-1) (-1) (-1))) (by decide) (by decide)
        exact K_97 t_54 _ _ _ _ hS (tq_w i3_t_54 (by decide) (by decide)) (lv_sub hl [1] rfl)
      · skip
        have i5_t_59 : tq_iv 0 10 t_59 := tq_w (tq_neLo c_69 p_59 (⟨by decide, by decide⟩ : tq_iv (-1) (-1) (-1))) (by decide) (by decide)
        refine lv_aload_n hx hb dX4_readOne_72 rfl (lv_at hl 2 rfl) ?_
        refine gf_RX4_30 hC hS z_h0 dX4_readOne_73 (fun t_73 p_73 q_73 => ?_)
        refine tq_callVv (As := []) (rest := []) hC (c_X9_advance l X Z _ t_73 p_73) k_X9_advance ql_RX4_66 (by decide) rfl (by decide) hS p_73 rfl hl.1 rfl (Nat.le_of_ble_eq_true rfl) ⟨Nat.zero_le _, Nat.zero_le _⟩ dX4_readOne_76 (fun f1_76 H locs hS k_76 => ?_)
        refine lv_aload_n hx hb dX4_readOne_79 rfl (lv_at hl 2 rfl) ?_
        refine lv_iload_n hx hb dX4_readOne_80 rfl (lv_at hl 3 rfl) ?_
        refine tq_callVi (As := [.int x1]) (rest := []) hC (c_X4_readSum_5_5 l X Z _ h0 z_h0 x1 (tq_w i_x1 (by decide) (by decide))) k_X4_readSum ql_RX4_226 (by decide) rfl (by decide) hS z_h0 rfl hl.1 rfl (Nat.le_of_ble_eq_true rfl) ⟨Nat.zero_le _, Nat.zero_le _⟩ dX4_readOne_81 (fun t_81 f1_81 H locs p_81 hS k_81 => ?_)
        refine lv_istore_n (lv' := [(2, .int t_81), (3, .int t_59), (0, .ref h0), (1, .int x1)]) hx hb dX4_readOne_84 rfl hl (by decide) rfl (fun ls hl => ?_)
        refine lv_aload_n hx hb dX4_readOne_85 rfl (lv_at hl 2 rfl) ?_
        refine gf_RX4_12 hC hS z_h0 dX4_readOne_86 (fun t_86 p_86 q_86 => ?_)
        refine gf_RX4_214 hC hS p_86 dX4_readOne_89 (fun t_89 p_89 q_89 => ?_)
        refine lv_iload_n hx hb dX4_readOne_92 rfl (lv_at hl 1 rfl) ?_
        refine lv_iconst (v := 0) hx hb dX4_readOne_93 (by decide) ?_
        refine tq_callVv (As := [.int t_59, .int 0]) (rest := []) hC (c_X0_append l X Z _ t_89 p_89 t_59 0) k_X0_append ql_RX4_220 (by decide) rfl (by decide) hS p_89 rfl hl.1 rfl (Nat.le_of_ble_eq_true rfl) ⟨Nat.zero_le _, Nat.zero_le _⟩ dX4_readOne_94 (fun f1_94 H locs hS k_94 => ?_)
        exact K_97 t_81 _ _ _ _ hS (tq_w p_81 (by decide) (by decide)) (lv_sub hl [0] rfl)
  · skip
    have i6_t_4 : tq_iv 18 18 t_4 := tq_cut (tq_top t_4) (tq_eqL c_9 (⟨by decide, by decide⟩ : tq_iv 18 18 18)) (by decide) (by decide)
    refine lv_iload_n hx hb dX4_readOne_12 rfl (lv_at hl 1 rfl) ?_
    refine lv_bipush (v := 6) hx hb dX4_readOne_13 (by decide) ?_
    refine lv_icmp_le (tgt := 23) hx hb dX4_readOne_15 (by decide) (fun c_15 => ?_) (fun c_15 => ?_)
    · skip
      refine lv_aload_n hx hb dX4_readOne_23 rfl (lv_at hl 0 rfl) ?_
      refine gf_RX4_30 hC hS z_h0 dX4_readOne_24 (fun t_24 p_24 q_24 => ?_)
      refine tq_callVv (As := []) (rest := []) hC (c_X9_advance l X Z _ t_24 p_24) k_X9_advance ql_RX4_66 (by decide) rfl (by decide) hS p_24 rfl hl.1 rfl (Nat.le_of_ble_eq_true rfl) ⟨Nat.zero_le _, Nat.zero_le _⟩ dX4_readOne_27 (fun f1_27 H locs hS k_27 => ?_)
      refine lv_aload_n hx hb dX4_readOne_30 rfl (lv_at hl 0 rfl) ?_
      refine lv_iload_n hx hb dX4_readOne_31 rfl (lv_at hl 1 rfl) ?_
      refine lv_iconst (v := 1) hx hb dX4_readOne_32 (by decide) ?_
      refine lv_iadd hx hb dX4_readOne_33 ?_
      refine lv_topi (fun t_33 e_33 => ?_)
      have i7_t_33 : tq_iv 6 6 t_33 := tq_w (tq_add e_33 i_x1 (⟨by decide, by decide⟩ : tq_iv 1 1 1) (by decide) (by decide)) (by decide) (by decide)
      refine tq_callVi (As := [.int t_33]) (rest := []) hC (c_X4_readOne_6_6 l X Z _ h0 z_h0 t_33 (tq_w i7_t_33 (by decide) (by decide))) k_X4_readOne ql_RX4_223 (by decide) rfl (by decide) hS z_h0 rfl hl.1 rfl (Nat.le_of_ble_eq_true rfl) ⟨Nat.zero_le _, Nat.zero_le _⟩ dX4_readOne_34 (fun t_34 f1_34 H locs p_34 hS k_34 => ?_)
      refine lv_istore_n (lv' := [(2, .int t_34), (0, .ref h0), (1, .int x1)]) hx hb dX4_readOne_37 rfl hl (by decide) rfl (fun ls hl => ?_)
      refine lv_aload_n hx hb dX4_readOne_38 rfl (lv_at hl 1 rfl) ?_
      refine gf_RX4_12 hC hS z_h0 dX4_readOne_39 (fun t_39 p_39 q_39 => ?_)
      refine gf_RX4_214 hC hS p_39 dX4_readOne_42 (fun t_42 p_42 q_42 => ?_)
      refine lv_iconst (v := 5) hx hb dX4_readOne_45 (by decide) ?_
      refine lv_iconst (v := 0) hx hb dX4_readOne_46 (by decide) ?_
      refine tq_callVv (As := [.int 5, .int 0]) (rest := []) hC (c_X0_append l X Z _ t_42 p_42 5 0) k_X0_append ql_RX4_220 (by decide) rfl (by decide) hS p_42 rfl hl.1 rfl (Nat.le_of_ble_eq_true rfl) ⟨Nat.zero_le _, Nat.zero_le _⟩ dX4_readOne_47 (fun f1_47 H locs hS k_47 => ?_)
      refine lv_iload_n hx hb dX4_readOne_50 rfl (lv_at hl 0 rfl) ?_
      exact hret t_34 _ _ _ _ _ (tq_nb p_34 (by decide) (by decide)) ⟨_, rfl, tq_w p_34 (by decide) (by decide)⟩ hS dX4_readOne_51
    · skip
      exact (tq_xlt (tq_nle c_15) (⟨by decide, by decide⟩ : tq_iv 6 6 6) i_x1 (by decide)).elim
set_option maxHeartbeats 4000000 in
set_option maxRecDepth 100000 in
theorem c_X4_readBoth_5_5 (l : Launch) (X : tq_X) (Z : tq_Z) (f : Nat → va_E) (h0 : Nat) (z_h0 : tq_z Z h0 (.inl 4)) (x1 : Int32) (i_x1 : tq_iv 5 5 x1) : tq_M l X Z f [(0, 0), (0, 1), (4, 1), (4, 2), (9, 3), (9, 4), (9, 5), (9, 6), (9, 7)] yX4_readBoth cX4_readBoth 4 (some .boolean) 21 [.ref h0, .int x1] (tq_ri 0 1) := by
  refine tq_starti (by decide) (Nat.le_of_ble_eq_true rfl) (fun p e R s m args below meth c Q hC hret hS ls hl => ?_)
  have hC : tq_C p R s m args c X (tq_A Z) RX4 cX4_readBoth 4 21 := hC
  have hx := hC.1.1
  have hb := hC.1.2.1
  have hown := hC.1.2.2.2.1
  have hts := hC.1.2.2.2.2
  have hl : lv_has ls 4 [(0, .ref h0), (1, .int x1)] := hl
  generalize hf0 : f = f0 at hret
  have hS : tq_S X Z (tq_A Z) s.heap f0 [(0, 0), (0, 1), (4, 1), (4, 2), (9, 3), (9, 4), (9, 5), (9, 6), (9, 7)] f s.heap [] := hf0 ▸ hS
  refine lv_aload_n hx hb dX4_readBoth_0 rfl (lv_at hl 0 rfl) ?_
  refine lv_iload_n hx hb dX4_readBoth_1 rfl (lv_at hl 1 rfl) ?_
  refine tq_callVi (As := [.int x1]) (rest := []) hC (c_X4_readOne_5_5 l X Z _ h0 z_h0 x1 (tq_w i_x1 (by decide) (by decide))) k_X4_readOne ql_RX4_223 (by decide) rfl (by decide) hS z_h0 rfl hl.1 rfl (Nat.le_of_ble_eq_true rfl) ⟨Nat.zero_le _, Nat.zero_le _⟩ dX4_readBoth_2 (fun t_2 f1_2 H locs p_2 hS k_2 => ?_)
  refine lv_istore_n (lv' := [(2, .int t_2), (0, .ref h0), (1, .int x1)]) hx hb dX4_readBoth_5 rfl hl (by decide) rfl (fun ls hl => ?_)
  refine lv_iconst (v := 0) hx hb dX4_readBoth_6 (by decide) ?_
  refine lv_istore_n (lv' := [(3, .int 0), (2, .int t_2), (0, .ref h0), (1, .int x1)]) hx hb dX4_readBoth_7 rfl hl (by decide) rfl (fun ls hl => ?_)
  have K_8 : ∀ (n_8 : Nat) (x3_8 : Int32) (x2_8 : Int32) (f : Nat → va_E) (H : Heap) (locs : List Loc) (ls : Array Slot), tq_S X Z (tq_A Z) s.heap f0 [(0, 0), (0, 1), (4, 1), (4, 2), (9, 3), (9, 4), (9, 5), (9, 6), (9, 7)] f H locs → tq_iv 0 1 x2_8 → tq_iv 0 1600 x3_8 → (2147483647 - x3_8.toInt).toNat < n_8 → lv_has ls 4 [(3, .int x3_8), (2, .int x2_8), (0, .ref h0), (1, .int x1)] → W p l e R s m args below meth c H locs 0 0 Q (F0 m 8 ls []) := by
    intro n_8
    induction n_8 with
    | zero => intro x3_8 x2_8 f H locs ls  hS i1_x2_8 i2_x3_8 hn_8; exact absurd hn_8 (Nat.not_lt_zero _)
    | succ n_8 ih_8 =>
      intro x3_8 x2_8 f H locs ls  hS i1_x2_8 i2_x3_8 hn_8 hl
      refine lv_iload_n hx hb dX4_readBoth_8 rfl (lv_at hl 0 rfl) ?_
      refine lv_sipush (v := 1600) hx hb dX4_readBoth_9 (by decide) ?_
      have K_63 : ∀ (f : Nat → va_E) (H : Heap) (locs : List Loc) (ls : Array Slot), tq_S X Z (tq_A Z) s.heap f0 [(0, 0), (0, 1), (4, 1), (4, 2), (9, 3), (9, 4), (9, 5), (9, 6), (9, 7)] f H locs → lv_has ls 4 [(2, .int x2_8)] → W p l e R s m args below meth c H locs 0 0 Q (F0 m 63 ls []) := by
        intro f H locs ls  hS hl
        refine lv_iload_n hx hb dX4_readBoth_63 rfl (lv_at hl 0 rfl) ?_
        exact hret x2_8 _ _ _ _ _ (tq_nb i1_x2_8 (by decide) (by decide)) ⟨_, rfl, tq_w i1_x2_8 (by decide) (by decide)⟩ hS dX4_readBoth_64
      refine lv_icmp_ge (tgt := 63) hx hb dX4_readBoth_12 (by decide) (fun c_12 => ?_) (fun c_12 => ?_)
      · skip
        have i3_x3_8 : tq_iv 1600 1600 x3_8 := tq_cut i2_x3_8 (tq_leR c_12 (⟨by decide, by decide⟩ : tq_iv 1600 1600 1600) i2_x3_8) (by decide) (by decide)
        exact K_63 _ _ _ _ hS (lv_sub hl [1] rfl)
      · skip
        have i4_x3_8 : tq_iv 0 1599 x3_8 := tq_cut i2_x3_8 (tq_ltL (tq_nle c_12) i2_x3_8 (⟨by decide, by decide⟩ : tq_iv 1600 1600 1600)) (by decide) (by decide)
        refine lv_iload_n hx hb dX4_readBoth_15 rfl (lv_at hl 1 rfl) ?_
        refine lv_if_eq (tgt := 63) hx hb dX4_readBoth_16 (by decide) (fun c_16 => ?_) (fun c_16 => ?_)
        · skip
          have i5_x2_8 : tq_iv 0 0 x2_8 := tq_cut i1_x2_8 (tq_eqL c_16 (⟨by decide, by decide⟩ : tq_iv 0 0 0)) (by decide) (by decide)
          exact K_63 _ _ _ _ hS (lv_sub hl [1] rfl)
        · skip
          have i6_x2_8 : tq_iv 1 1 x2_8 := tq_w (tq_neLo c_16 i1_x2_8 (⟨by decide, by decide⟩ : tq_iv 0 0 0)) (by decide) (by decide)
          refine lv_aload_n hx hb dX4_readBoth_19 rfl (lv_at hl 2 rfl) ?_
          refine gf_RX4_30 hC hS z_h0 dX4_readBoth_20 (fun t_20 p_20 q_20 => ?_)
          refine gf_RX4_49 hC hS p_20 dX4_readBoth_23 (fun t_23 p_23 q_23 => ?_)
          refine lv_bipush (v := 17) hx hb dX4_readBoth_26 (by decide) ?_
          refine lv_icmp_ne (tgt := 63) hx hb dX4_readBoth_28 (by decide) (fun c_28 => ?_) (fun c_28 => ?_)
          · skip
            exact K_63 _ _ _ _ hS (lv_sub hl [1] rfl)
          · skip
            have i7_t_23 : tq_iv 17 17 t_23 := tq_cut (tq_top t_23) (tq_eqL c_28 (⟨by decide, by decide⟩ : tq_iv 17 17 17)) (by decide) (by decide)
            refine lv_aload_n hx hb dX4_readBoth_31 rfl (lv_at hl 2 rfl) ?_
            refine gf_RX4_30 hC hS z_h0 dX4_readBoth_32 (fun t_32 p_32 q_32 => ?_)
            refine tq_callVv (As := []) (rest := []) hC (c_X9_advance l X Z _ t_32 p_32) k_X9_advance ql_RX4_66 (by decide) rfl (by decide) hS p_32 rfl hl.1 rfl (Nat.le_of_ble_eq_true rfl) ⟨Nat.zero_le _, Nat.zero_le _⟩ dX4_readBoth_35 (fun f1_35 H locs hS k_35 => ?_)
            refine lv_aload_n hx hb dX4_readBoth_38 rfl (lv_at hl 2 rfl) ?_
            refine lv_iload_n hx hb dX4_readBoth_39 rfl (lv_at hl 3 rfl) ?_
            refine tq_callVi (As := [.int x1]) (rest := []) hC (c_X4_readOne_5_5 l X Z _ h0 z_h0 x1 (tq_w i_x1 (by decide) (by decide))) k_X4_readOne ql_RX4_223 (by decide) rfl (by decide) hS z_h0 rfl hl.1 rfl (Nat.le_of_ble_eq_true rfl) ⟨Nat.zero_le _, Nat.zero_le _⟩ dX4_readBoth_40 (fun t_40 f1_40 H locs p_40 hS k_40 => ?_)
            refine lv_istore_n (lv' := [(2, .int t_40), (3, .int x3_8), (0, .ref h0), (1, .int x1)]) hx hb dX4_readBoth_43 rfl hl (by decide) rfl (fun ls hl => ?_)
            refine lv_aload_n hx hb dX4_readBoth_44 rfl (lv_at hl 2 rfl) ?_
            refine gf_RX4_12 hC hS z_h0 dX4_readBoth_45 (fun t_45 p_45 q_45 => ?_)
            refine gf_RX4_214 hC hS p_45 dX4_readBoth_48 (fun t_48 p_48 q_48 => ?_)
            refine lv_bipush (v := 7) hx hb dX4_readBoth_51 (by decide) ?_
            refine lv_iconst (v := 0) hx hb dX4_readBoth_53 (by decide) ?_
            refine tq_callVv (As := [.int 7, .int 0]) (rest := []) hC (c_X0_append l X Z _ t_48 p_48 7 0) k_X0_append ql_RX4_220 (by decide) rfl (by decide) hS p_48 rfl hl.1 rfl (Nat.le_of_ble_eq_true rfl) ⟨Nat.zero_le _, Nat.zero_le _⟩ dX4_readBoth_54 (fun f1_54 H locs hS k_54 => ?_)
            obtain ⟨t_57, e_57⟩ : ∃ y : Int32, y = x3_8 + 1 := ⟨_, rfl⟩
            have i8_t_57 : tq_iv 1 1600 t_57 := tq_w (tq_add e_57 i4_x3_8 (⟨by decide, by decide⟩ : tq_iv 1 1 1) (by decide) (by decide)) (by decide) (by decide)
            refine lv_iinc (v := t_57) (lv' := [(3, .int t_57), (2, .int t_40), (0, .ref h0), (1, .int x1)]) hx hb dX4_readBoth_57 hl (k := 1) rfl (by rw [e_57]; rfl) (by decide) rfl (fun ls hl => ?_)
            refine lv_goto (tgt := 8) hx hb dX4_readBoth_60 (by decide) ?_
            exact ih_8 t_57 t_40 _ _ _ _ hS (tq_w p_40 (by decide) (by decide)) (tq_w i8_t_57 (by decide) (by decide)) (tq_up e_57 i4_x3_8 (⟨by decide, by decide⟩ : tq_iv 1 1 1) (by decide) (by decide) hn_8) (lv_sub hl [0, 1, 2, 3] rfl)
  exact K_8 _ 0 t_2 _ _ _ _ hS (tq_w p_2 (by decide) (by decide)) (tq_w (⟨by decide, by decide⟩ : tq_iv 0 0 0) (by decide) (by decide)) (Nat.lt_succ_self _) (lv_sub hl [0, 1, 2, 3] rfl)
set_option maxHeartbeats 4000000 in
set_option maxRecDepth 100000 in
theorem c_X4_readEither_5_5 (l : Launch) (X : tq_X) (Z : tq_Z) (f : Nat → va_E) (h0 : Nat) (z_h0 : tq_z Z h0 (.inl 4)) (x1 : Int32) (i_x1 : tq_iv 5 5 x1) : tq_M l X Z f [(0, 0), (0, 1), (4, 1), (4, 2), (9, 3), (9, 4), (9, 5), (9, 6), (9, 7)] yX4_readEither cX4_readEither 4 (some .boolean) 22 [.ref h0, .int x1] (tq_ri 0 1) := by
  refine tq_starti (by decide) (Nat.le_of_ble_eq_true rfl) (fun p e R s m args below meth c Q hC hret hS ls hl => ?_)
  have hC : tq_C p R s m args c X (tq_A Z) RX4 cX4_readEither 4 22 := hC
  have hx := hC.1.1
  have hb := hC.1.2.1
  have hown := hC.1.2.2.2.1
  have hts := hC.1.2.2.2.2
  have hl : lv_has ls 4 [(0, .ref h0), (1, .int x1)] := hl
  generalize hf0 : f = f0 at hret
  have hS : tq_S X Z (tq_A Z) s.heap f0 [(0, 0), (0, 1), (4, 1), (4, 2), (9, 3), (9, 4), (9, 5), (9, 6), (9, 7)] f s.heap [] := hf0 ▸ hS
  refine lv_aload_n hx hb dX4_readEither_0 rfl (lv_at hl 0 rfl) ?_
  refine lv_iload_n hx hb dX4_readEither_1 rfl (lv_at hl 1 rfl) ?_
  refine tq_callVi (As := [.int x1]) (rest := []) hC (c_X4_readBoth_5_5 l X Z _ h0 z_h0 x1 (tq_w i_x1 (by decide) (by decide))) k_X4_readBoth ql_RX4_211 (by decide) rfl (by decide) hS z_h0 rfl hl.1 rfl (Nat.le_of_ble_eq_true rfl) ⟨Nat.zero_le _, Nat.zero_le _⟩ dX4_readEither_2 (fun t_2 f1_2 H locs p_2 hS k_2 => ?_)
  refine lv_istore_n (lv' := [(2, .int t_2), (0, .ref h0), (1, .int x1)]) hx hb dX4_readEither_5 rfl hl (by decide) rfl (fun ls hl => ?_)
  refine lv_iconst (v := 0) hx hb dX4_readEither_6 (by decide) ?_
  refine lv_istore_n (lv' := [(3, .int 0), (2, .int t_2), (0, .ref h0), (1, .int x1)]) hx hb dX4_readEither_7 rfl hl (by decide) rfl (fun ls hl => ?_)
  have K_8 : ∀ (n_8 : Nat) (x3_8 : Int32) (x2_8 : Int32) (f : Nat → va_E) (H : Heap) (locs : List Loc) (ls : Array Slot), tq_S X Z (tq_A Z) s.heap f0 [(0, 0), (0, 1), (4, 1), (4, 2), (9, 3), (9, 4), (9, 5), (9, 6), (9, 7)] f H locs → tq_iv 0 1 x2_8 → tq_iv 0 1600 x3_8 → (2147483647 - x3_8.toInt).toNat < n_8 → lv_has ls 4 [(3, .int x3_8), (2, .int x2_8), (0, .ref h0), (1, .int x1)] → W p l e R s m args below meth c H locs 0 0 Q (F0 m 8 ls []) := by
    intro n_8
    induction n_8 with
    | zero => intro x3_8 x2_8 f H locs ls  hS i1_x2_8 i2_x3_8 hn_8; exact absurd hn_8 (Nat.not_lt_zero _)
    | succ n_8 ih_8 =>
      intro x3_8 x2_8 f H locs ls  hS i1_x2_8 i2_x3_8 hn_8 hl
      refine lv_iload_n hx hb dX4_readEither_8 rfl (lv_at hl 0 rfl) ?_
      refine lv_sipush (v := 1600) hx hb dX4_readEither_9 (by decide) ?_
      have K_63 : ∀ (f : Nat → va_E) (H : Heap) (locs : List Loc) (ls : Array Slot), tq_S X Z (tq_A Z) s.heap f0 [(0, 0), (0, 1), (4, 1), (4, 2), (9, 3), (9, 4), (9, 5), (9, 6), (9, 7)] f H locs → lv_has ls 4 [(2, .int x2_8)] → W p l e R s m args below meth c H locs 0 0 Q (F0 m 63 ls []) := by
        intro f H locs ls  hS hl
        refine lv_iload_n hx hb dX4_readEither_63 rfl (lv_at hl 0 rfl) ?_
        exact hret x2_8 _ _ _ _ _ (tq_nb i1_x2_8 (by decide) (by decide)) ⟨_, rfl, tq_w i1_x2_8 (by decide) (by decide)⟩ hS dX4_readEither_64
      refine lv_icmp_ge (tgt := 63) hx hb dX4_readEither_12 (by decide) (fun c_12 => ?_) (fun c_12 => ?_)
      · skip
        have i3_x3_8 : tq_iv 1600 1600 x3_8 := tq_cut i2_x3_8 (tq_leR c_12 (⟨by decide, by decide⟩ : tq_iv 1600 1600 1600) i2_x3_8) (by decide) (by decide)
        exact K_63 _ _ _ _ hS (lv_sub hl [1] rfl)
      · skip
        have i4_x3_8 : tq_iv 0 1599 x3_8 := tq_cut i2_x3_8 (tq_ltL (tq_nle c_12) i2_x3_8 (⟨by decide, by decide⟩ : tq_iv 1600 1600 1600)) (by decide) (by decide)
        refine lv_iload_n hx hb dX4_readEither_15 rfl (lv_at hl 1 rfl) ?_
        refine lv_if_eq (tgt := 63) hx hb dX4_readEither_16 (by decide) (fun c_16 => ?_) (fun c_16 => ?_)
        · skip
          have i5_x2_8 : tq_iv 0 0 x2_8 := tq_cut i1_x2_8 (tq_eqL c_16 (⟨by decide, by decide⟩ : tq_iv 0 0 0)) (by decide) (by decide)
          exact K_63 _ _ _ _ hS (lv_sub hl [1] rfl)
        · skip
          have i6_x2_8 : tq_iv 1 1 x2_8 := tq_w (tq_neLo c_16 i1_x2_8 (⟨by decide, by decide⟩ : tq_iv 0 0 0)) (by decide) (by decide)
          refine lv_aload_n hx hb dX4_readEither_19 rfl (lv_at hl 2 rfl) ?_
          refine gf_RX4_30 hC hS z_h0 dX4_readEither_20 (fun t_20 p_20 q_20 => ?_)
          refine gf_RX4_49 hC hS p_20 dX4_readEither_23 (fun t_23 p_23 q_23 => ?_)
          refine lv_bipush (v := 16) hx hb dX4_readEither_26 (by decide) ?_
          refine lv_icmp_ne (tgt := 63) hx hb dX4_readEither_28 (by decide) (fun c_28 => ?_) (fun c_28 => ?_)
          · skip
            exact K_63 _ _ _ _ hS (lv_sub hl [1] rfl)
          · skip
            have i7_t_23 : tq_iv 16 16 t_23 := tq_cut (tq_top t_23) (tq_eqL c_28 (⟨by decide, by decide⟩ : tq_iv 16 16 16)) (by decide) (by decide)
            refine lv_aload_n hx hb dX4_readEither_31 rfl (lv_at hl 2 rfl) ?_
            refine gf_RX4_30 hC hS z_h0 dX4_readEither_32 (fun t_32 p_32 q_32 => ?_)
            refine tq_callVv (As := []) (rest := []) hC (c_X9_advance l X Z _ t_32 p_32) k_X9_advance ql_RX4_66 (by decide) rfl (by decide) hS p_32 rfl hl.1 rfl (Nat.le_of_ble_eq_true rfl) ⟨Nat.zero_le _, Nat.zero_le _⟩ dX4_readEither_35 (fun f1_35 H locs hS k_35 => ?_)
            refine lv_aload_n hx hb dX4_readEither_38 rfl (lv_at hl 2 rfl) ?_
            refine lv_iload_n hx hb dX4_readEither_39 rfl (lv_at hl 3 rfl) ?_
            refine tq_callVi (As := [.int x1]) (rest := []) hC (c_X4_readBoth_5_5 l X Z _ h0 z_h0 x1 (tq_w i_x1 (by decide) (by decide))) k_X4_readBoth ql_RX4_211 (by decide) rfl (by decide) hS z_h0 rfl hl.1 rfl (Nat.le_of_ble_eq_true rfl) ⟨Nat.zero_le _, Nat.zero_le _⟩ dX4_readEither_40 (fun t_40 f1_40 H locs p_40 hS k_40 => ?_)
            refine lv_istore_n (lv' := [(2, .int t_40), (3, .int x3_8), (0, .ref h0), (1, .int x1)]) hx hb dX4_readEither_43 rfl hl (by decide) rfl (fun ls hl => ?_)
            refine lv_aload_n hx hb dX4_readEither_44 rfl (lv_at hl 2 rfl) ?_
            refine gf_RX4_12 hC hS z_h0 dX4_readEither_45 (fun t_45 p_45 q_45 => ?_)
            refine gf_RX4_214 hC hS p_45 dX4_readEither_48 (fun t_48 p_48 q_48 => ?_)
            refine lv_bipush (v := 6) hx hb dX4_readEither_51 (by decide) ?_
            refine lv_iconst (v := 0) hx hb dX4_readEither_53 (by decide) ?_
            refine tq_callVv (As := [.int 6, .int 0]) (rest := []) hC (c_X0_append l X Z _ t_48 p_48 6 0) k_X0_append ql_RX4_220 (by decide) rfl (by decide) hS p_48 rfl hl.1 rfl (Nat.le_of_ble_eq_true rfl) ⟨Nat.zero_le _, Nat.zero_le _⟩ dX4_readEither_54 (fun f1_54 H locs hS k_54 => ?_)
            obtain ⟨t_57, e_57⟩ : ∃ y : Int32, y = x3_8 + 1 := ⟨_, rfl⟩
            have i8_t_57 : tq_iv 1 1600 t_57 := tq_w (tq_add e_57 i4_x3_8 (⟨by decide, by decide⟩ : tq_iv 1 1 1) (by decide) (by decide)) (by decide) (by decide)
            refine lv_iinc (v := t_57) (lv' := [(3, .int t_57), (2, .int t_40), (0, .ref h0), (1, .int x1)]) hx hb dX4_readEither_57 hl (k := 1) rfl (by rw [e_57]; rfl) (by decide) rfl (fun ls hl => ?_)
            refine lv_goto (tgt := 8) hx hb dX4_readEither_60 (by decide) ?_
            exact ih_8 t_57 t_40 _ _ _ _ hS (tq_w p_40 (by decide) (by decide)) (tq_w i8_t_57 (by decide) (by decide)) (tq_up e_57 i4_x3_8 (⟨by decide, by decide⟩ : tq_iv 1 1 1) (by decide) (by decide) hn_8) (lv_sub hl [0, 1, 2, 3] rfl)
  exact K_8 _ 0 t_2 _ _ _ _ hS (tq_w p_2 (by decide) (by decide)) (tq_w (⟨by decide, by decide⟩ : tq_iv 0 0 0) (by decide) (by decide)) (Nat.lt_succ_self _) (lv_sub hl [0, 1, 2, 3] rfl)
set_option maxHeartbeats 4000000 in
set_option maxRecDepth 100000 in
theorem c_X4_readUnit_4_4 (l : Launch) (X : tq_X) (Z : tq_Z) (f : Nat → va_E) (h0 : Nat) (z_h0 : tq_z Z h0 (.inl 4)) (x1 : Int32) (i_x1 : tq_iv 4 4 x1) : tq_M l X Z f [(0, 0), (0, 1), (4, 1), (4, 2), (9, 3), (9, 4), (9, 5), (9, 6), (9, 7)] yX4_readUnit cX4_readUnit 4 (some .boolean) 23 [.ref h0, .int x1] (tq_ri 0 1) := by
  refine tq_starti (by decide) (Nat.le_of_ble_eq_true rfl) (fun p e R s m args below meth c Q hC hret hS ls hl => ?_)
  have hC : tq_C p R s m args c X (tq_A Z) RX4 cX4_readUnit 4 23 := hC
  have hx := hC.1.1
  have hb := hC.1.2.1
  have hown := hC.1.2.2.2.1
  have hts := hC.1.2.2.2.2
  have hl : lv_has ls 4 [(0, .ref h0), (1, .int x1)] := hl
  generalize hf0 : f = f0 at hret
  have hS : tq_S X Z (tq_A Z) s.heap f0 [(0, 0), (0, 1), (4, 1), (4, 2), (9, 3), (9, 4), (9, 5), (9, 6), (9, 7)] f s.heap [] := hf0 ▸ hS
  refine lv_aload_n hx hb dX4_readUnit_0 rfl (lv_at hl 0 rfl) ?_
  refine gf_RX4_30 hC hS z_h0 dX4_readUnit_1 (fun t_1 p_1 q_1 => ?_)
  refine gf_RX4_49 hC hS p_1 dX4_readUnit_4 (fun t_4 p_4 q_4 => ?_)
  refine lv_bipush (v := 40) hx hb dX4_readUnit_7 (by decide) ?_
  have K_17 : ∀ (y0_17 : Int32) (f : Nat → va_E) (H : Heap) (locs : List Loc) (ls : Array Slot), tq_S X Z (tq_A Z) s.heap f0 [(0, 0), (0, 1), (4, 1), (4, 2), (9, 3), (9, 4), (9, 5), (9, 6), (9, 7)] f H locs → tq_iv 0 1 y0_17 → lv_has ls 4 [(0, .ref h0), (1, .int x1)] → W p l e R s m args below meth c H locs 0 0 Q (F0 m 17 ls [.int y0_17]) := by
    intro y0_17 f H locs ls  hS i1_y0_17 hl
    refine lv_istore_n (lv' := [(2, .int y0_17), (0, .ref h0), (1, .int x1)]) hx hb dX4_readUnit_17 rfl hl (by decide) rfl (fun ls hl => ?_)
    refine lv_aload_n hx hb dX4_readUnit_18 rfl (lv_at hl 1 rfl) ?_
    refine tq_callVpi (As := []) (rest := []) hC (c_X4_unitHere l X Z _ h0 z_h0) k_X4_unitHere ql_RX4_241 rfl (by decide) hS z_h0 rfl hl.1 rfl (Nat.le_of_ble_eq_true rfl) ⟨Nat.zero_le _, Nat.zero_le _⟩ dX4_readUnit_19 (fun t_19 p_19 => ?_)
    refine lv_istore_n (lv' := [(3, .int t_19), (2, .int y0_17), (0, .ref h0), (1, .int x1)]) hx hb dX4_readUnit_22 rfl hl (by decide) rfl (fun ls hl => ?_)
    refine lv_iload_n hx hb dX4_readUnit_23 rfl (lv_at hl 1 rfl) ?_
    have K_47 : ∀ (f : Nat → va_E) (H : Heap) (locs : List Loc) (ls : Array Slot), tq_S X Z (tq_A Z) s.heap f0 [(0, 0), (0, 1), (4, 1), (4, 2), (9, 3), (9, 4), (9, 5), (9, 6), (9, 7)] f H locs → lv_has ls 4 [(0, .ref h0)] → W p l e R s m args below meth c H locs 0 0 Q (F0 m 47 ls []) := by
      intro f H locs ls  hS hl
      refine lv_aload_n hx hb dX4_readUnit_47 rfl (lv_at hl 0 rfl) ?_
      refine tq_callVi (As := []) (rest := []) hC (c_X4_refuse l X Z _ h0 z_h0) k_X4_refuse ql_RX4_63 (by decide) rfl (by decide) hS z_h0 rfl hl.1 rfl (Nat.le_of_ble_eq_true rfl) ⟨Nat.zero_le _, Nat.zero_le _⟩ dX4_readUnit_48 (fun t_48 f1_48 H locs p_48 hS k_48 => ?_)
      exact hret t_48 _ _ _ _ _ (tq_nb p_48 (by decide) (by decide)) ⟨_, rfl, tq_w p_48 (by decide) (by decide)⟩ hS dX4_readUnit_51
    have K_32 : ∀ (f : Nat → va_E) (H : Heap) (locs : List Loc) (ls : Array Slot), tq_S X Z (tq_A Z) s.heap f0 [(0, 0), (0, 1), (4, 1), (4, 2), (9, 3), (9, 4), (9, 5), (9, 6), (9, 7)] f H locs → lv_has ls 4 [(3, .int t_19), (2, .int y0_17), (0, .ref h0), (1, .int x1)] → W p l e R s m args below meth c H locs 0 0 Q (F0 m 32 ls []) := by
      intro f H locs ls  hS hl
      refine lv_aload_n hx hb dX4_readUnit_32 rfl (lv_at hl 2 rfl) ?_
      refine gf_RX4_12 hC hS z_h0 dX4_readUnit_33 (fun t_33 p_33 q_33 => ?_)
      refine gf_RX4_214 hC hS p_33 dX4_readUnit_36 (fun t_36 p_36 q_36 => ?_)
      refine gf_RX4_244 hC hS p_36 dX4_readUnit_39 (fun t_39 p_39 q_39 => ?_)
      refine lv_bipush (v := 30) hx hb dX4_readUnit_42 (by decide) ?_
      refine lv_icmp_lt (tgt := 52) hx hb dX4_readUnit_44 (by decide) (fun c_44 => ?_) (fun c_44 => ?_)
      · skip
        have i2_t_39 : tq_iv (-2147483648) 29 t_39 := tq_cut (tq_top t_39) (tq_ltL c_44 (tq_top t_39) (⟨by decide, by decide⟩ : tq_iv 30 30 30)) (by decide) (by decide)
        refine lv_iload_n hx hb dX4_readUnit_52 rfl (lv_at hl 1 rfl) ?_
        have K_67 : ∀ (f : Nat → va_E) (H : Heap) (locs : List Loc) (ls : Array Slot), tq_S X Z (tq_A Z) s.heap f0 [(0, 0), (0, 1), (4, 1), (4, 2), (9, 3), (9, 4), (9, 5), (9, 6), (9, 7)] f H locs → lv_has ls 4 [(3, .int t_19), (2, .int y0_17), (0, .ref h0), (1, .int x1)] → W p l e R s m args below meth c H locs 0 0 Q (F0 m 67 ls []) := by
          intro f H locs ls  hS hl
          refine lv_aload_n hx hb dX4_readUnit_67 rfl (lv_at hl 2 rfl) ?_
          refine gf_RX4_12 hC hS z_h0 dX4_readUnit_68 (fun t_68 p_68 q_68 => ?_)
          refine gf_RX4_214 hC hS p_68 dX4_readUnit_71 (fun t_71 p_71 q_71 => ?_)
          refine lv_dup hx hb dX4_readUnit_74 rfl ?_
          refine gf_RX4_244 hC hS p_71 dX4_readUnit_75 (fun t_75 p_75 q_75 => ?_)
          refine lv_iconst (v := 1) hx hb dX4_readUnit_78 (by decide) ?_
          refine lv_iadd hx hb dX4_readUnit_79 ?_
          refine lv_topi (fun t_79 e_79 => ?_)
          refine pf_RX4_244 hC hS p_71 (by decide) trivial dX4_readUnit_80 (fun f H locs hS q_80 k_80 => ?_)
          refine lv_iload_n hx hb dX4_readUnit_83 rfl (lv_at hl 1 rfl) ?_
          have K_105 : ∀ (f : Nat → va_E) (H : Heap) (locs : List Loc) (ls : Array Slot), tq_S X Z (tq_A Z) s.heap f0 [(0, 0), (0, 1), (4, 1), (4, 2), (9, 3), (9, 4), (9, 5), (9, 6), (9, 7)] f H locs → lv_has ls 4 [(2, .int y0_17), (0, .ref h0), (1, .int x1)] → W p l e R s m args below meth c H locs 0 0 Q (F0 m 105 ls []) := by
            intro f H locs ls  hS hl
            refine lv_aload_n hx hb dX4_readUnit_105 rfl (lv_at hl 1 rfl) ?_
            refine gf_RX4_30 hC hS z_h0 dX4_readUnit_106 (fun t_106 p_106 q_106 => ?_)
            refine tq_callVv (As := []) (rest := []) hC (c_X9_advance l X Z _ t_106 p_106) k_X9_advance ql_RX4_66 (by decide) rfl (by decide) hS p_106 rfl hl.1 rfl (Nat.le_of_ble_eq_true rfl) ⟨Nat.zero_le _, Nat.zero_le _⟩ dX4_readUnit_109 (fun f1_109 H locs hS k_109 => ?_)
            refine lv_iload_n hx hb dX4_readUnit_112 rfl (lv_at hl 0 rfl) ?_
            have K_140 : ∀ (y0_140 : Int32) (f : Nat → va_E) (H : Heap) (locs : List Loc) (ls : Array Slot), tq_S X Z (tq_A Z) s.heap f0 [(0, 0), (0, 1), (4, 1), (4, 2), (9, 3), (9, 4), (9, 5), (9, 6), (9, 7)] f H locs → tq_iv 0 1 y0_140 → lv_has ls 4 [] → W p l e R s m args below meth c H locs 0 0 Q (F0 m 140 ls [.int y0_140]) := by
              intro y0_140 f H locs ls  hS i3_y0_140 hl
              exact hret y0_140 _ _ _ _ _ (tq_nb i3_y0_140 (by decide) (by decide)) ⟨_, rfl, tq_w i3_y0_140 (by decide) (by decide)⟩ hS dX4_readUnit_140
            have K_135 : ∀ (f : Nat → va_E) (H : Heap) (locs : List Loc) (ls : Array Slot), tq_S X Z (tq_A Z) s.heap f0 [(0, 0), (0, 1), (4, 1), (4, 2), (9, 3), (9, 4), (9, 5), (9, 6), (9, 7)] f H locs → lv_has ls 4 [] → W p l e R s m args below meth c H locs 0 0 Q (F0 m 135 ls []) := by
              intro f H locs ls  hS hl
              refine lv_iconst (v := 1) hx hb dX4_readUnit_135 (by decide) ?_
              refine lv_goto (tgt := 140) hx hb dX4_readUnit_136 (by decide) ?_
              exact K_140 1 _ _ _ _ hS (tq_w (⟨by decide, by decide⟩ : tq_iv 1 1 1) (by decide) (by decide)) (lv_sub hl [] rfl)
            refine lv_if_eq (tgt := 135) hx hb dX4_readUnit_113 (by decide) (fun c_113 => ?_) (fun c_113 => ?_)
            · skip
              have i4_y0_17 : tq_iv 0 0 y0_17 := tq_cut i1_y0_17 (tq_eqL c_113 (⟨by decide, by decide⟩ : tq_iv 0 0 0)) (by decide) (by decide)
              exact K_135 _ _ _ _ hS (lv_sub hl [] rfl)
            · skip
              have i5_y0_17 : tq_iv 1 1 y0_17 := tq_w (tq_neLo c_113 i1_y0_17 (⟨by decide, by decide⟩ : tq_iv 0 0 0)) (by decide) (by decide)
              refine lv_aload_n hx hb dX4_readUnit_116 rfl (lv_at hl 1 rfl) ?_
              refine lv_iload_n hx hb dX4_readUnit_117 rfl (lv_at hl 2 rfl) ?_
              refine lv_iconst (v := 1) hx hb dX4_readUnit_118 (by decide) ?_
              refine lv_iadd hx hb dX4_readUnit_119 ?_
              refine lv_topi (fun t_119 e_119 => ?_)
              have i6_t_119 : tq_iv 5 5 t_119 := tq_w (tq_add e_119 i_x1 (⟨by decide, by decide⟩ : tq_iv 1 1 1) (by decide) (by decide)) (by decide) (by decide)
              refine tq_callVi (As := [.int t_119]) (rest := []) hC (c_X4_readEither_5_5 l X Z _ h0 z_h0 t_119 (tq_w i6_t_119 (by decide) (by decide))) k_X4_readEither ql_RX4_94 (by decide) rfl (by decide) hS z_h0 rfl hl.1 rfl (Nat.le_of_ble_eq_true rfl) ⟨Nat.zero_le _, Nat.zero_le _⟩ dX4_readUnit_120 (fun t_120 f1_120 H locs p_120 hS k_120 => ?_)
              have K_139 : ∀ (f : Nat → va_E) (H : Heap) (locs : List Loc) (ls : Array Slot), tq_S X Z (tq_A Z) s.heap f0 [(0, 0), (0, 1), (4, 1), (4, 2), (9, 3), (9, 4), (9, 5), (9, 6), (9, 7)] f H locs → lv_has ls 4 [] → W p l e R s m args below meth c H locs 0 0 Q (F0 m 139 ls []) := by
                intro f H locs ls  hS hl
                refine lv_iconst (v := 0) hx hb dX4_readUnit_139 (by decide) ?_
                exact K_140 0 _ _ _ _ hS (tq_w (⟨by decide, by decide⟩ : tq_iv 0 0 0) (by decide) (by decide)) (lv_sub hl [] rfl)
              refine lv_if_eq (tgt := 139) hx hb dX4_readUnit_123 (by decide) (fun c_123 => ?_) (fun c_123 => ?_)
              · skip
                have i7_t_120 : tq_iv 0 0 t_120 := tq_cut p_120 (tq_eqL c_123 (⟨by decide, by decide⟩ : tq_iv 0 0 0)) (by decide) (by decide)
                exact K_139 _ _ _ _ hS (lv_sub hl [] rfl)
              · skip
                have i8_t_120 : tq_iv 1 1 t_120 := tq_w (tq_neLo c_123 p_120 (⟨by decide, by decide⟩ : tq_iv 0 0 0)) (by decide) (by decide)
                refine lv_aload_n hx hb dX4_readUnit_126 rfl (lv_at hl 1 rfl) ?_
                refine lv_bipush (v := 41) hx hb dX4_readUnit_127 (by decide) ?_
                refine tq_callVi (As := [.int 41]) (rest := []) hC (c_X4_expect l X Z _ h0 z_h0 41) k_X4_expect ql_RX4_97 (by decide) rfl (by decide) hS z_h0 rfl hl.1 rfl (Nat.le_of_ble_eq_true rfl) ⟨Nat.zero_le _, Nat.zero_le _⟩ dX4_readUnit_129 (fun t_129 f1_129 H locs p_129 hS k_129 => ?_)
                refine lv_if_eq (tgt := 139) hx hb dX4_readUnit_132 (by decide) (fun c_132 => ?_) (fun c_132 => ?_)
                · skip
                  have i9_t_129 : tq_iv 0 0 t_129 := tq_cut p_129 (tq_eqL c_132 (⟨by decide, by decide⟩ : tq_iv 0 0 0)) (by decide) (by decide)
                  exact K_139 _ _ _ _ hS (lv_sub hl [] rfl)
                · skip
                  have i10_t_129 : tq_iv 1 1 t_129 := tq_w (tq_neLo c_132 p_129 (⟨by decide, by decide⟩ : tq_iv 0 0 0)) (by decide) (by decide)
                  exact K_135 _ _ _ _ hS (lv_sub hl [] rfl)
          refine lv_if_ne (tgt := 105) hx hb dX4_readUnit_84 (by decide) (fun c_84 => ?_) (fun c_84 => ?_)
          · skip
            have i11_y0_17 : tq_iv 1 1 y0_17 := tq_w (tq_neLo c_84 i1_y0_17 (⟨by decide, by decide⟩ : tq_iv 0 0 0)) (by decide) (by decide)
            exact K_105 _ _ _ _ hS (lv_sub hl [1, 2, 3] rfl)
          · skip
            have i12_y0_17 : tq_iv 0 0 y0_17 := tq_cut i1_y0_17 (tq_eqL c_84 (⟨by decide, by decide⟩ : tq_iv 0 0 0)) (by decide) (by decide)
            refine lv_aload_n hx hb dX4_readUnit_87 rfl (lv_at hl 2 rfl) ?_
            refine gf_RX4_12 hC hS z_h0 dX4_readUnit_88 (fun t_88 p_88 q_88 => ?_)
            refine gf_RX4_214 hC hS p_88 dX4_readUnit_91 (fun t_91 p_91 q_91 => ?_)
            refine lv_iload_n hx hb dX4_readUnit_94 rfl (lv_at hl 0 rfl) ?_
            refine lv_aload_n hx hb dX4_readUnit_95 rfl (lv_at hl 2 rfl) ?_
            refine gf_RX4_30 hC hS z_h0 dX4_readUnit_96 (fun t_96 p_96 q_96 => ?_)
            refine gf_RX4_106 hC hS p_96 dX4_readUnit_99 (fun t_99 p_99 q_99 => ?_)
            refine tq_callVv (As := [.int t_19, .int t_99]) (rest := []) hC (c_X0_append l X Z _ t_91 p_91 t_19 t_99) k_X0_append ql_RX4_220 (by decide) rfl (by decide) hS p_91 rfl hl.1 rfl (Nat.le_of_ble_eq_true rfl) ⟨Nat.zero_le _, Nat.zero_le _⟩ dX4_readUnit_102 (fun f1_102 H locs hS k_102 => ?_)
            exact K_105 _ _ _ _ hS (lv_sub hl [1, 2, 3] rfl)
        refine lv_if_eq (tgt := 67) hx hb dX4_readUnit_53 (by decide) (fun c_53 => ?_) (fun c_53 => ?_)
        · skip
          have i13_y0_17 : tq_iv 0 0 y0_17 := tq_cut i1_y0_17 (tq_eqL c_53 (⟨by decide, by decide⟩ : tq_iv 0 0 0)) (by decide) (by decide)
          exact K_67 _ _ _ _ hS (lv_sub hl [0, 1, 2, 3] rfl)
        · skip
          have i14_y0_17 : tq_iv 1 1 y0_17 := tq_w (tq_neLo c_53 i1_y0_17 (⟨by decide, by decide⟩ : tq_iv 0 0 0)) (by decide) (by decide)
          refine lv_iload_n hx hb dX4_readUnit_56 rfl (lv_at hl 3 rfl) ?_
          refine lv_bipush (v := 6) hx hb dX4_readUnit_57 (by decide) ?_
          refine lv_icmp_le (tgt := 67) hx hb dX4_readUnit_59 (by decide) (fun c_59 => ?_) (fun c_59 => ?_)
          · skip
            exact K_67 _ _ _ _ hS (lv_sub hl [0, 1, 2, 3] rfl)
          · skip
            exact (tq_xlt (tq_nle c_59) (⟨by decide, by decide⟩ : tq_iv 6 6 6) i_x1 (by decide)).elim
      · skip
        have i15_t_39 : tq_iv 30 2147483647 t_39 := tq_cut (tq_top t_39) (tq_leR (tq_nlt c_44) (⟨by decide, by decide⟩ : tq_iv 30 30 30) (tq_top t_39)) (by decide) (by decide)
        exact K_47 _ _ _ _ hS (lv_sub hl [2] rfl)
    refine lv_if_ne (tgt := 32) hx hb dX4_readUnit_24 (by decide) (fun c_24 => ?_) (fun c_24 => ?_)
    · skip
      have i16_y0_17 : tq_iv 1 1 y0_17 := tq_w (tq_neLo c_24 i1_y0_17 (⟨by decide, by decide⟩ : tq_iv 0 0 0)) (by decide) (by decide)
      exact K_32 _ _ _ _ hS (lv_sub hl [0, 1, 2, 3] rfl)
    · skip
      have i17_y0_17 : tq_iv 0 0 y0_17 := tq_cut i1_y0_17 (tq_eqL c_24 (⟨by decide, by decide⟩ : tq_iv 0 0 0)) (by decide) (by decide)
      refine lv_iload_n hx hb dX4_readUnit_27 rfl (lv_at hl 0 rfl) ?_
      refine lv_iconst (v := -1) hx hb dX4_readUnit_28 (by decide) ?_
      refine lv_icmp_eq (tgt := 47) hx hb dX4_readUnit_29 (by decide) (fun c_29 => ?_) (fun c_29 => ?_)
      · skip
        have i18_t_19 : tq_iv (-1) (-1) t_19 := tq_cut p_19 (tq_eqL c_29 (⟨by decide, by decide⟩ : tq_iv (-1) (-1) (-1))) (by decide) (by decide)
        exact K_47 _ _ _ _ hS (lv_sub hl [2] rfl)
      · skip
        have i19_t_19 : tq_iv 0 4 t_19 := tq_w (tq_neLo c_29 p_19 (⟨by decide, by decide⟩ : tq_iv (-1) (-1) (-1))) (by decide) (by decide)
        exact K_32 _ _ _ _ hS (lv_sub hl [0, 1, 2, 3] rfl)
  refine lv_icmp_ne (tgt := 16) hx hb dX4_readUnit_9 (by decide) (fun c_9 => ?_) (fun c_9 => ?_)
  · skip
    refine lv_iconst (v := 0) hx hb dX4_readUnit_16 (by decide) ?_
    exact K_17 0 _ _ _ _ hS (tq_w (⟨by decide, by decide⟩ : tq_iv 0 0 0) (by decide) (by decide)) (lv_sub hl [0, 1] rfl)
  · skip
    have i20_t_4 : tq_iv 40 40 t_4 := tq_cut (tq_top t_4) (tq_eqL c_9 (⟨by decide, by decide⟩ : tq_iv 40 40 40)) (by decide) (by decide)
    refine lv_iconst (v := 1) hx hb dX4_readUnit_12 (by decide) ?_
    refine lv_goto (tgt := 17) hx hb dX4_readUnit_13 (by decide) ?_
    exact K_17 1 _ _ _ _ hS (tq_w (⟨by decide, by decide⟩ : tq_iv 1 1 1) (by decide) (by decide)) (lv_sub hl [0, 1] rfl)
set_option maxHeartbeats 4000000 in
set_option maxRecDepth 100000 in
theorem c_X4_readTerm_4_4 (l : Launch) (X : tq_X) (Z : tq_Z) (f : Nat → va_E) (h0 : Nat) (z_h0 : tq_z Z h0 (.inl 4)) (x1 : Int32) (i_x1 : tq_iv 4 4 x1) : tq_M l X Z f [(0, 0), (0, 1), (4, 1), (4, 2), (9, 3), (9, 4), (9, 5), (9, 6), (9, 7)] yX4_readTerm cX4_readTerm 5 (some .boolean) 24 [.ref h0, .int x1] (tq_ri 0 1) := by
  refine tq_starti (by decide) (Nat.le_of_ble_eq_true rfl) (fun p e R s m args below meth c Q hC hret hS ls hl => ?_)
  have hC : tq_C p R s m args c X (tq_A Z) RX4 cX4_readTerm 5 24 := hC
  have hx := hC.1.1
  have hb := hC.1.2.1
  have hown := hC.1.2.2.2.1
  have hts := hC.1.2.2.2.2
  have hl : lv_has ls 5 [(0, .ref h0), (1, .int x1)] := hl
  generalize hf0 : f = f0 at hret
  have hS : tq_S X Z (tq_A Z) s.heap f0 [(0, 0), (0, 1), (4, 1), (4, 2), (9, 3), (9, 4), (9, 5), (9, 6), (9, 7)] f s.heap [] := hf0 ▸ hS
  refine lv_aload_n hx hb dX4_readTerm_0 rfl (lv_at hl 0 rfl) ?_
  refine lv_iload_n hx hb dX4_readTerm_1 rfl (lv_at hl 1 rfl) ?_
  refine tq_callVi (As := [.int x1]) (rest := []) hC (c_X4_readUnit_4_4 l X Z _ h0 z_h0 x1 (tq_w i_x1 (by decide) (by decide))) k_X4_readUnit ql_RX4_235 (by decide) rfl (by decide) hS z_h0 rfl hl.1 rfl (Nat.le_of_ble_eq_true rfl) ⟨Nat.zero_le _, Nat.zero_le _⟩ dX4_readTerm_2 (fun t_2 f1_2 H locs p_2 hS k_2 => ?_)
  refine lv_istore_n (lv' := [(2, .int t_2), (0, .ref h0), (1, .int x1)]) hx hb dX4_readTerm_5 rfl hl (by decide) rfl (fun ls hl => ?_)
  refine lv_iconst (v := 0) hx hb dX4_readTerm_6 (by decide) ?_
  refine lv_istore_n (lv' := [(3, .int 0), (2, .int t_2), (0, .ref h0), (1, .int x1)]) hx hb dX4_readTerm_7 rfl hl (by decide) rfl (fun ls hl => ?_)
  have K_8 : ∀ (n_8 : Nat) (x3_8 : Int32) (x2_8 : Int32) (f : Nat → va_E) (H : Heap) (locs : List Loc) (ls : Array Slot), tq_S X Z (tq_A Z) s.heap f0 [(0, 0), (0, 1), (4, 1), (4, 2), (9, 3), (9, 4), (9, 5), (9, 6), (9, 7)] f H locs → tq_iv 0 1 x2_8 → tq_iv 0 1600 x3_8 → (2147483647 - x3_8.toInt).toNat < n_8 → lv_has ls 5 [(3, .int x3_8), (2, .int x2_8), (0, .ref h0), (1, .int x1)] → W p l e R s m args below meth c H locs 0 0 Q (F0 m 8 ls []) := by
    intro n_8
    induction n_8 with
    | zero => intro x3_8 x2_8 f H locs ls  hS i1_x2_8 i2_x3_8 hn_8; exact absurd hn_8 (Nat.not_lt_zero _)
    | succ n_8 ih_8 =>
      intro x3_8 x2_8 f H locs ls  hS i1_x2_8 i2_x3_8 hn_8 hl
      refine lv_iload_n hx hb dX4_readTerm_8 rfl (lv_at hl 0 rfl) ?_
      refine lv_sipush (v := 1600) hx hb dX4_readTerm_9 (by decide) ?_
      have K_65 : ∀ (f : Nat → va_E) (H : Heap) (locs : List Loc) (ls : Array Slot), tq_S X Z (tq_A Z) s.heap f0 [(0, 0), (0, 1), (4, 1), (4, 2), (9, 3), (9, 4), (9, 5), (9, 6), (9, 7)] f H locs → lv_has ls 5 [(2, .int x2_8)] → W p l e R s m args below meth c H locs 0 0 Q (F0 m 65 ls []) := by
        intro f H locs ls  hS hl
        refine lv_iload_n hx hb dX4_readTerm_65 rfl (lv_at hl 0 rfl) ?_
        exact hret x2_8 _ _ _ _ _ (tq_nb i1_x2_8 (by decide) (by decide)) ⟨_, rfl, tq_w i1_x2_8 (by decide) (by decide)⟩ hS dX4_readTerm_66
      refine lv_icmp_ge (tgt := 65) hx hb dX4_readTerm_12 (by decide) (fun c_12 => ?_) (fun c_12 => ?_)
      · skip
        have i3_x3_8 : tq_iv 1600 1600 x3_8 := tq_cut i2_x3_8 (tq_leR c_12 (⟨by decide, by decide⟩ : tq_iv 1600 1600 1600) i2_x3_8) (by decide) (by decide)
        exact K_65 _ _ _ _ hS (lv_sub hl [1] rfl)
      · skip
        have i4_x3_8 : tq_iv 0 1599 x3_8 := tq_cut i2_x3_8 (tq_ltL (tq_nle c_12) i2_x3_8 (⟨by decide, by decide⟩ : tq_iv 1600 1600 1600)) (by decide) (by decide)
        refine lv_iload_n hx hb dX4_readTerm_15 rfl (lv_at hl 1 rfl) ?_
        refine lv_if_eq (tgt := 65) hx hb dX4_readTerm_16 (by decide) (fun c_16 => ?_) (fun c_16 => ?_)
        · skip
          have i5_x2_8 : tq_iv 0 0 x2_8 := tq_cut i1_x2_8 (tq_eqL c_16 (⟨by decide, by decide⟩ : tq_iv 0 0 0)) (by decide) (by decide)
          exact K_65 _ _ _ _ hS (lv_sub hl [1] rfl)
        · skip
          have i6_x2_8 : tq_iv 1 1 x2_8 := tq_w (tq_neLo c_16 i1_x2_8 (⟨by decide, by decide⟩ : tq_iv 0 0 0)) (by decide) (by decide)
          refine lv_aload_n hx hb dX4_readTerm_19 rfl (lv_at hl 2 rfl) ?_
          refine tq_callVpi (As := []) (rest := []) hC (c_X4_productHere l X Z _ h0 z_h0) k_X4_productHere ql_RX4_238 rfl (by decide) hS z_h0 rfl hl.1 rfl (Nat.le_of_ble_eq_true rfl) ⟨Nat.zero_le _, Nat.zero_le _⟩ dX4_readTerm_20 (fun t_20 p_20 => ?_)
          refine lv_iconst (v := -1) hx hb dX4_readTerm_23 (by decide) ?_
          refine lv_icmp_eq (tgt := 65) hx hb dX4_readTerm_24 (by decide) (fun c_24 => ?_) (fun c_24 => ?_)
          · skip
            have i7_t_20 : tq_iv (-1) (-1) t_20 := tq_cut p_20 (tq_eqL c_24 (⟨by decide, by decide⟩ : tq_iv (-1) (-1) (-1))) (by decide) (by decide)
            exact K_65 _ _ _ _ hS (lv_sub hl [1] rfl)
          · skip
            have i8_t_20 : tq_iv 0 15 t_20 := tq_w (tq_neLo c_24 p_20 (⟨by decide, by decide⟩ : tq_iv (-1) (-1) (-1))) (by decide) (by decide)
            refine lv_aload_n hx hb dX4_readTerm_27 rfl (lv_at hl 2 rfl) ?_
            refine tq_callVpi (As := []) (rest := []) hC (c_X4_productHere l X Z _ h0 z_h0) k_X4_productHere ql_RX4_238 rfl (by decide) hS z_h0 rfl hl.1 rfl (Nat.le_of_ble_eq_true rfl) ⟨Nat.zero_le _, Nat.zero_le _⟩ dX4_readTerm_28 (fun t_28 p_28 => ?_)
            refine lv_istore (lv' := [(4, .int t_28), (3, .int x3_8), (2, .int x2_8), (0, .ref h0), (1, .int x1)]) hx hb dX4_readTerm_31 hl (by decide) rfl (fun ls hl => ?_)
            refine lv_aload_n hx hb dX4_readTerm_33 rfl (lv_at hl 3 rfl) ?_
            refine gf_RX4_30 hC hS z_h0 dX4_readTerm_34 (fun t_34 p_34 q_34 => ?_)
            refine tq_callVv (As := []) (rest := []) hC (c_X9_advance l X Z _ t_34 p_34) k_X9_advance ql_RX4_66 (by decide) rfl (by decide) hS p_34 rfl hl.1 rfl (Nat.le_of_ble_eq_true rfl) ⟨Nat.zero_le _, Nat.zero_le _⟩ dX4_readTerm_37 (fun f1_37 H locs hS k_37 => ?_)
            refine lv_aload_n hx hb dX4_readTerm_40 rfl (lv_at hl 3 rfl) ?_
            refine lv_iload_n hx hb dX4_readTerm_41 rfl (lv_at hl 4 rfl) ?_
            refine tq_callVi (As := [.int x1]) (rest := []) hC (c_X4_readUnit_4_4 l X Z _ h0 z_h0 x1 (tq_w i_x1 (by decide) (by decide))) k_X4_readUnit ql_RX4_235 (by decide) rfl (by decide) hS z_h0 rfl hl.1 rfl (Nat.le_of_ble_eq_true rfl) ⟨Nat.zero_le _, Nat.zero_le _⟩ dX4_readTerm_42 (fun t_42 f1_42 H locs p_42 hS k_42 => ?_)
            refine lv_istore_n (lv' := [(2, .int t_42), (4, .int t_28), (3, .int x3_8), (0, .ref h0), (1, .int x1)]) hx hb dX4_readTerm_45 rfl hl (by decide) rfl (fun ls hl => ?_)
            refine lv_aload_n hx hb dX4_readTerm_46 rfl (lv_at hl 3 rfl) ?_
            refine gf_RX4_12 hC hS z_h0 dX4_readTerm_47 (fun t_47 p_47 q_47 => ?_)
            refine gf_RX4_214 hC hS p_47 dX4_readTerm_50 (fun t_50 p_50 q_50 => ?_)
            refine lv_iload hx hb dX4_readTerm_53 (lv_at hl 1 rfl) ?_
            refine lv_iconst (v := 0) hx hb dX4_readTerm_55 (by decide) ?_
            refine tq_callVv (As := [.int t_28, .int 0]) (rest := []) hC (c_X0_append l X Z _ t_50 p_50 t_28 0) k_X0_append ql_RX4_220 (by decide) rfl (by decide) hS p_50 rfl hl.1 rfl (Nat.le_of_ble_eq_true rfl) ⟨Nat.zero_le _, Nat.zero_le _⟩ dX4_readTerm_56 (fun f1_56 H locs hS k_56 => ?_)
            obtain ⟨t_59, e_59⟩ : ∃ y : Int32, y = x3_8 + 1 := ⟨_, rfl⟩
            have i9_t_59 : tq_iv 1 1600 t_59 := tq_w (tq_add e_59 i4_x3_8 (⟨by decide, by decide⟩ : tq_iv 1 1 1) (by decide) (by decide)) (by decide) (by decide)
            refine lv_iinc (v := t_59) (lv' := [(3, .int t_59), (2, .int t_42), (4, .int t_28), (0, .ref h0), (1, .int x1)]) hx hb dX4_readTerm_59 hl (k := 2) rfl (by rw [e_59]; rfl) (by decide) rfl (fun ls hl => ?_)
            refine lv_goto (tgt := 8) hx hb dX4_readTerm_62 (by decide) ?_
            exact ih_8 t_59 t_42 _ _ _ _ hS (tq_w p_42 (by decide) (by decide)) (tq_w i9_t_59 (by decide) (by decide)) (tq_up e_59 i4_x3_8 (⟨by decide, by decide⟩ : tq_iv 1 1 1) (by decide) (by decide) hn_8) (lv_sub hl [0, 1, 3, 4] rfl)
  exact K_8 _ 0 t_2 _ _ _ _ hS (tq_w p_2 (by decide) (by decide)) (tq_w (⟨by decide, by decide⟩ : tq_iv 0 0 0) (by decide) (by decide)) (Nat.lt_succ_self _) (lv_sub hl [0, 1, 2, 3] rfl)
set_option maxHeartbeats 4000000 in
set_option maxRecDepth 100000 in
theorem c_X4_readSum_4_4 (l : Launch) (X : tq_X) (Z : tq_Z) (f : Nat → va_E) (h0 : Nat) (z_h0 : tq_z Z h0 (.inl 4)) (x1 : Int32) (i_x1 : tq_iv 4 4 x1) : tq_M l X Z f [(0, 0), (0, 1), (4, 1), (4, 2), (9, 3), (9, 4), (9, 5), (9, 6), (9, 7)] yX4_readSum cX4_readSum 5 (some .boolean) 25 [.ref h0, .int x1] (tq_ri 0 1) := by
  refine tq_starti (by decide) (Nat.le_of_ble_eq_true rfl) (fun p e R s m args below meth c Q hC hret hS ls hl => ?_)
  have hC : tq_C p R s m args c X (tq_A Z) RX4 cX4_readSum 5 25 := hC
  have hx := hC.1.1
  have hb := hC.1.2.1
  have hown := hC.1.2.2.2.1
  have hts := hC.1.2.2.2.2
  have hl : lv_has ls 5 [(0, .ref h0), (1, .int x1)] := hl
  generalize hf0 : f = f0 at hret
  have hS : tq_S X Z (tq_A Z) s.heap f0 [(0, 0), (0, 1), (4, 1), (4, 2), (9, 3), (9, 4), (9, 5), (9, 6), (9, 7)] f s.heap [] := hf0 ▸ hS
  refine lv_aload_n hx hb dX4_readSum_0 rfl (lv_at hl 0 rfl) ?_
  refine lv_iload_n hx hb dX4_readSum_1 rfl (lv_at hl 1 rfl) ?_
  refine tq_callVi (As := [.int x1]) (rest := []) hC (c_X4_readTerm_4_4 l X Z _ h0 z_h0 x1 (tq_w i_x1 (by decide) (by decide))) k_X4_readTerm ql_RX4_232 (by decide) rfl (by decide) hS z_h0 rfl hl.1 rfl (Nat.le_of_ble_eq_true rfl) ⟨Nat.zero_le _, Nat.zero_le _⟩ dX4_readSum_2 (fun t_2 f1_2 H locs p_2 hS k_2 => ?_)
  refine lv_istore_n (lv' := [(2, .int t_2), (0, .ref h0), (1, .int x1)]) hx hb dX4_readSum_5 rfl hl (by decide) rfl (fun ls hl => ?_)
  refine lv_iconst (v := 0) hx hb dX4_readSum_6 (by decide) ?_
  refine lv_istore_n (lv' := [(3, .int 0), (2, .int t_2), (0, .ref h0), (1, .int x1)]) hx hb dX4_readSum_7 rfl hl (by decide) rfl (fun ls hl => ?_)
  have K_8 : ∀ (n_8 : Nat) (x3_8 : Int32) (x2_8 : Int32) (f : Nat → va_E) (H : Heap) (locs : List Loc) (ls : Array Slot), tq_S X Z (tq_A Z) s.heap f0 [(0, 0), (0, 1), (4, 1), (4, 2), (9, 3), (9, 4), (9, 5), (9, 6), (9, 7)] f H locs → tq_iv 0 1 x2_8 → tq_iv 0 1600 x3_8 → (2147483647 - x3_8.toInt).toNat < n_8 → lv_has ls 5 [(3, .int x3_8), (2, .int x2_8), (0, .ref h0), (1, .int x1)] → W p l e R s m args below meth c H locs 0 0 Q (F0 m 8 ls []) := by
    intro n_8
    induction n_8 with
    | zero => intro x3_8 x2_8 f H locs ls  hS i1_x2_8 i2_x3_8 hn_8; exact absurd hn_8 (Nat.not_lt_zero _)
    | succ n_8 ih_8 =>
      intro x3_8 x2_8 f H locs ls  hS i1_x2_8 i2_x3_8 hn_8 hl
      refine lv_iload_n hx hb dX4_readSum_8 rfl (lv_at hl 0 rfl) ?_
      refine lv_sipush (v := 1600) hx hb dX4_readSum_9 (by decide) ?_
      have K_96 : ∀ (f : Nat → va_E) (H : Heap) (locs : List Loc) (ls : Array Slot), tq_S X Z (tq_A Z) s.heap f0 [(0, 0), (0, 1), (4, 1), (4, 2), (9, 3), (9, 4), (9, 5), (9, 6), (9, 7)] f H locs → lv_has ls 5 [(2, .int x2_8)] → W p l e R s m args below meth c H locs 0 0 Q (F0 m 96 ls []) := by
        intro f H locs ls  hS hl
        refine lv_iload_n hx hb dX4_readSum_96 rfl (lv_at hl 0 rfl) ?_
        exact hret x2_8 _ _ _ _ _ (tq_nb i1_x2_8 (by decide) (by decide)) ⟨_, rfl, tq_w i1_x2_8 (by decide) (by decide)⟩ hS dX4_readSum_97
      refine lv_icmp_ge (tgt := 96) hx hb dX4_readSum_12 (by decide) (fun c_12 => ?_) (fun c_12 => ?_)
      · skip
        have i3_x3_8 : tq_iv 1600 1600 x3_8 := tq_cut i2_x3_8 (tq_leR c_12 (⟨by decide, by decide⟩ : tq_iv 1600 1600 1600) i2_x3_8) (by decide) (by decide)
        exact K_96 _ _ _ _ hS (lv_sub hl [1] rfl)
      · skip
        have i4_x3_8 : tq_iv 0 1599 x3_8 := tq_cut i2_x3_8 (tq_ltL (tq_nle c_12) i2_x3_8 (⟨by decide, by decide⟩ : tq_iv 1600 1600 1600)) (by decide) (by decide)
        refine lv_iload_n hx hb dX4_readSum_15 rfl (lv_at hl 1 rfl) ?_
        refine lv_if_eq (tgt := 96) hx hb dX4_readSum_16 (by decide) (fun c_16 => ?_) (fun c_16 => ?_)
        · skip
          have i5_x2_8 : tq_iv 0 0 x2_8 := tq_cut i1_x2_8 (tq_eqL c_16 (⟨by decide, by decide⟩ : tq_iv 0 0 0)) (by decide) (by decide)
          exact K_96 _ _ _ _ hS (lv_sub hl [1] rfl)
        · skip
          have i6_x2_8 : tq_iv 1 1 x2_8 := tq_w (tq_neLo c_16 i1_x2_8 (⟨by decide, by decide⟩ : tq_iv 0 0 0)) (by decide) (by decide)
          refine lv_aload_n hx hb dX4_readSum_19 rfl (lv_at hl 2 rfl) ?_
          refine gf_RX4_30 hC hS z_h0 dX4_readSum_20 (fun t_20 p_20 q_20 => ?_)
          refine gf_RX4_49 hC hS p_20 dX4_readSum_23 (fun t_23 p_23 q_23 => ?_)
          refine lv_bipush (v := 43) hx hb dX4_readSum_26 (by decide) ?_
          have K_43 : ∀ (f : Nat → va_E) (H : Heap) (locs : List Loc) (ls : Array Slot), tq_S X Z (tq_A Z) s.heap f0 [(0, 0), (0, 1), (4, 1), (4, 2), (9, 3), (9, 4), (9, 5), (9, 6), (9, 7)] f H locs → lv_has ls 5 [(3, .int x3_8), (0, .ref h0), (1, .int x1)] → W p l e R s m args below meth c H locs 0 0 Q (F0 m 43 ls []) := by
            intro f H locs ls  hS hl
            refine lv_aload_n hx hb dX4_readSum_43 rfl (lv_at hl 1 rfl) ?_
            refine gf_RX4_30 hC hS z_h0 dX4_readSum_44 (fun t_44 p_44 q_44 => ?_)
            refine gf_RX4_49 hC hS p_44 dX4_readSum_47 (fun t_47 p_47 q_47 => ?_)
            refine lv_bipush (v := 43) hx hb dX4_readSum_50 (by decide) ?_
            have K_62 : ∀ (y0_62 : Int32) (f : Nat → va_E) (H : Heap) (locs : List Loc) (ls : Array Slot), tq_S X Z (tq_A Z) s.heap f0 [(0, 0), (0, 1), (4, 1), (4, 2), (9, 3), (9, 4), (9, 5), (9, 6), (9, 7)] f H locs → tq_iv 11 12 y0_62 → lv_has ls 5 [(3, .int x3_8), (0, .ref h0), (1, .int x1)] → W p l e R s m args below meth c H locs 0 0 Q (F0 m 62 ls [.int y0_62]) := by
              intro y0_62 f H locs ls  hS i7_y0_62 hl
              refine lv_istore (lv' := [(4, .int y0_62), (3, .int x3_8), (0, .ref h0), (1, .int x1)]) hx hb dX4_readSum_62 hl (by decide) rfl (fun ls hl => ?_)
              refine lv_aload_n hx hb dX4_readSum_64 rfl (lv_at hl 2 rfl) ?_
              refine gf_RX4_30 hC hS z_h0 dX4_readSum_65 (fun t_65 p_65 q_65 => ?_)
              refine tq_callVv (As := []) (rest := []) hC (c_X9_advance l X Z _ t_65 p_65) k_X9_advance ql_RX4_66 (by decide) rfl (by decide) hS p_65 rfl hl.1 rfl (Nat.le_of_ble_eq_true rfl) ⟨Nat.zero_le _, Nat.zero_le _⟩ dX4_readSum_68 (fun f1_68 H locs hS k_68 => ?_)
              refine lv_aload_n hx hb dX4_readSum_71 rfl (lv_at hl 2 rfl) ?_
              refine lv_iload_n hx hb dX4_readSum_72 rfl (lv_at hl 3 rfl) ?_
              refine tq_callVi (As := [.int x1]) (rest := []) hC (c_X4_readTerm_4_4 l X Z _ h0 z_h0 x1 (tq_w i_x1 (by decide) (by decide))) k_X4_readTerm ql_RX4_232 (by decide) rfl (by decide) hS z_h0 rfl hl.1 rfl (Nat.le_of_ble_eq_true rfl) ⟨Nat.zero_le _, Nat.zero_le _⟩ dX4_readSum_73 (fun t_73 f1_73 H locs p_73 hS k_73 => ?_)
              refine lv_istore_n (lv' := [(2, .int t_73), (4, .int y0_62), (3, .int x3_8), (0, .ref h0), (1, .int x1)]) hx hb dX4_readSum_76 rfl hl (by decide) rfl (fun ls hl => ?_)
              refine lv_aload_n hx hb dX4_readSum_77 rfl (lv_at hl 3 rfl) ?_
              refine gf_RX4_12 hC hS z_h0 dX4_readSum_78 (fun t_78 p_78 q_78 => ?_)
              refine gf_RX4_214 hC hS p_78 dX4_readSum_81 (fun t_81 p_81 q_81 => ?_)
              refine lv_iload hx hb dX4_readSum_84 (lv_at hl 1 rfl) ?_
              refine lv_iconst (v := 0) hx hb dX4_readSum_86 (by decide) ?_
              refine tq_callVv (As := [.int y0_62, .int 0]) (rest := []) hC (c_X0_append l X Z _ t_81 p_81 y0_62 0) k_X0_append ql_RX4_220 (by decide) rfl (by decide) hS p_81 rfl hl.1 rfl (Nat.le_of_ble_eq_true rfl) ⟨Nat.zero_le _, Nat.zero_le _⟩ dX4_readSum_87 (fun f1_87 H locs hS k_87 => ?_)
              obtain ⟨t_90, e_90⟩ : ∃ y : Int32, y = x3_8 + 1 := ⟨_, rfl⟩
              have i8_t_90 : tq_iv 1 1600 t_90 := tq_w (tq_add e_90 i4_x3_8 (⟨by decide, by decide⟩ : tq_iv 1 1 1) (by decide) (by decide)) (by decide) (by decide)
              refine lv_iinc (v := t_90) (lv' := [(3, .int t_90), (2, .int t_73), (4, .int y0_62), (0, .ref h0), (1, .int x1)]) hx hb dX4_readSum_90 hl (k := 2) rfl (by rw [e_90]; rfl) (by decide) rfl (fun ls hl => ?_)
              refine lv_goto (tgt := 8) hx hb dX4_readSum_93 (by decide) ?_
              exact ih_8 t_90 t_73 _ _ _ _ hS (tq_w p_73 (by decide) (by decide)) (tq_w i8_t_90 (by decide) (by decide)) (tq_up e_90 i4_x3_8 (⟨by decide, by decide⟩ : tq_iv 1 1 1) (by decide) (by decide) hn_8) (lv_sub hl [0, 1, 3, 4] rfl)
            refine lv_icmp_ne (tgt := 60) hx hb dX4_readSum_52 (by decide) (fun c_52 => ?_) (fun c_52 => ?_)
            · skip
              refine lv_bipush (v := 12) hx hb dX4_readSum_60 (by decide) ?_
              exact K_62 12 _ _ _ _ hS (tq_w (⟨by decide, by decide⟩ : tq_iv 12 12 12) (by decide) (by decide)) (lv_sub hl [0, 1, 2] rfl)
            · skip
              have i9_t_47 : tq_iv 43 43 t_47 := tq_cut (tq_top t_47) (tq_eqL c_52 (⟨by decide, by decide⟩ : tq_iv 43 43 43)) (by decide) (by decide)
              refine lv_bipush (v := 11) hx hb dX4_readSum_55 (by decide) ?_
              refine lv_goto (tgt := 62) hx hb dX4_readSum_57 (by decide) ?_
              exact K_62 11 _ _ _ _ hS (tq_w (⟨by decide, by decide⟩ : tq_iv 11 11 11) (by decide) (by decide)) (lv_sub hl [0, 1, 2] rfl)
          refine lv_icmp_eq (tgt := 43) hx hb dX4_readSum_28 (by decide) (fun c_28 => ?_) (fun c_28 => ?_)
          · skip
            have i10_t_23 : tq_iv 43 43 t_23 := tq_cut (tq_top t_23) (tq_eqL c_28 (⟨by decide, by decide⟩ : tq_iv 43 43 43)) (by decide) (by decide)
            exact K_43 _ _ _ _ hS (lv_sub hl [0, 2, 3] rfl)
          · skip
            refine lv_aload_n hx hb dX4_readSum_31 rfl (lv_at hl 2 rfl) ?_
            refine gf_RX4_30 hC hS z_h0 dX4_readSum_32 (fun t_32 p_32 q_32 => ?_)
            refine gf_RX4_49 hC hS p_32 dX4_readSum_35 (fun t_35 p_35 q_35 => ?_)
            refine lv_bipush (v := 45) hx hb dX4_readSum_38 (by decide) ?_
            refine lv_icmp_ne (tgt := 96) hx hb dX4_readSum_40 (by decide) (fun c_40 => ?_) (fun c_40 => ?_)
            · skip
              exact K_96 _ _ _ _ hS (lv_sub hl [1] rfl)
            · skip
              have i11_t_35 : tq_iv 45 45 t_35 := tq_cut (tq_top t_35) (tq_eqL c_40 (⟨by decide, by decide⟩ : tq_iv 45 45 45)) (by decide) (by decide)
              exact K_43 _ _ _ _ hS (lv_sub hl [0, 2, 3] rfl)
  exact K_8 _ 0 t_2 _ _ _ _ hS (tq_w p_2 (by decide) (by decide)) (tq_w (⟨by decide, by decide⟩ : tq_iv 0 0 0) (by decide) (by decide)) (Nat.lt_succ_self _) (lv_sub hl [0, 1, 2, 3] rfl)
set_option maxHeartbeats 4000000 in
set_option maxRecDepth 100000 in
theorem c_X4_readOne_4_4 (l : Launch) (X : tq_X) (Z : tq_Z) (f : Nat → va_E) (h0 : Nat) (z_h0 : tq_z Z h0 (.inl 4)) (x1 : Int32) (i_x1 : tq_iv 4 4 x1) : tq_M l X Z f [(0, 0), (0, 1), (4, 1), (4, 2), (9, 3), (9, 4), (9, 5), (9, 6), (9, 7)] yX4_readOne cX4_readOne 4 (some .boolean) 26 [.ref h0, .int x1] (tq_ri 0 1) := by
  refine tq_starti (by decide) (Nat.le_of_ble_eq_true rfl) (fun p e R s m args below meth c Q hC hret hS ls hl => ?_)
  have hC : tq_C p R s m args c X (tq_A Z) RX4 cX4_readOne 4 26 := hC
  have hx := hC.1.1
  have hb := hC.1.2.1
  have hown := hC.1.2.2.2.1
  have hts := hC.1.2.2.2.2
  have hl : lv_has ls 4 [(0, .ref h0), (1, .int x1)] := hl
  generalize hf0 : f = f0 at hret
  have hS : tq_S X Z (tq_A Z) s.heap f0 [(0, 0), (0, 1), (4, 1), (4, 2), (9, 3), (9, 4), (9, 5), (9, 6), (9, 7)] f s.heap [] := hf0 ▸ hS
  refine lv_aload_n hx hb dX4_readOne_0 rfl (lv_at hl 0 rfl) ?_
  refine gf_RX4_30 hC hS z_h0 dX4_readOne_1 (fun t_1 p_1 q_1 => ?_)
  refine gf_RX4_49 hC hS p_1 dX4_readOne_4 (fun t_4 p_4 q_4 => ?_)
  refine lv_bipush (v := 18) hx hb dX4_readOne_7 (by decide) ?_
  refine lv_icmp_ne (tgt := 52) hx hb dX4_readOne_9 (by decide) (fun c_9 => ?_) (fun c_9 => ?_)
  · skip
    refine lv_aload_n hx hb dX4_readOne_52 rfl (lv_at hl 0 rfl) ?_
    refine lv_iload_n hx hb dX4_readOne_53 rfl (lv_at hl 1 rfl) ?_
    refine tq_callVi (As := [.int x1]) (rest := []) hC (c_X4_readSum_4_4 l X Z _ h0 z_h0 x1 (tq_w i_x1 (by decide) (by decide))) k_X4_readSum ql_RX4_226 (by decide) rfl (by decide) hS z_h0 rfl hl.1 rfl (Nat.le_of_ble_eq_true rfl) ⟨Nat.zero_le _, Nat.zero_le _⟩ dX4_readOne_54 (fun t_54 f1_54 H locs p_54 hS k_54 => ?_)
    refine lv_istore_n (lv' := [(2, .int t_54), (0, .ref h0), (1, .int x1)]) hx hb dX4_readOne_57 rfl hl (by decide) rfl (fun ls hl => ?_)
    refine lv_aload_n hx hb dX4_readOne_58 rfl (lv_at hl 1 rfl) ?_
    refine tq_callVpi (As := []) (rest := []) hC (c_X4_relationHere l X Z _ h0 z_h0) k_X4_relationHere ql_RX4_229 rfl (by decide) hS z_h0 rfl hl.1 rfl (Nat.le_of_ble_eq_true rfl) ⟨Nat.zero_le _, Nat.zero_le _⟩ dX4_readOne_59 (fun t_59 p_59 => ?_)
    refine lv_istore_n (lv' := [(3, .int t_59), (2, .int t_54), (0, .ref h0), (1, .int x1)]) hx hb dX4_readOne_62 rfl hl (by decide) rfl (fun ls hl => ?_)
    refine lv_iload_n hx hb dX4_readOne_63 rfl (lv_at hl 1 rfl) ?_
    have K_97 : ∀ (x2_97 : Int32) (f : Nat → va_E) (H : Heap) (locs : List Loc) (ls : Array Slot), tq_S X Z (tq_A Z) s.heap f0 [(0, 0), (0, 1), (4, 1), (4, 2), (9, 3), (9, 4), (9, 5), (9, 6), (9, 7)] f H locs → tq_iv 0 1 x2_97 → lv_has ls 4 [(2, .int x2_97)] → W p l e R s m args below meth c H locs 0 0 Q (F0 m 97 ls []) := by
      intro x2_97 f H locs ls  hS i1_x2_97 hl
      refine lv_iload_n hx hb dX4_readOne_97 rfl (lv_at hl 0 rfl) ?_
      exact hret x2_97 _ _ _ _ _ (tq_nb i1_x2_97 (by decide) (by decide)) ⟨_, rfl, tq_w i1_x2_97 (by decide) (by decide)⟩ hS dX4_readOne_98
    refine lv_if_eq (tgt := 97) hx hb dX4_readOne_64 (by decide) (fun c_64 => ?_) (fun c_64 => ?_)
    · skip
      have i2_t_54 : tq_iv 0 0 t_54 := tq_cut p_54 (tq_eqL c_64 (⟨by decide, by decide⟩ : tq_iv 0 0 0)) (by decide) (by decide)
      exact K_97 t_54 _ _ _ _ hS (tq_w i2_t_54 (by decide) (by decide)) (lv_sub hl [1] rfl)
    · skip
      have i3_t_54 : tq_iv 1 1 t_54 := tq_w (tq_neLo c_64 p_54 (⟨by decide, by decide⟩ : tq_iv 0 0 0)) (by decide) (by decide)
      refine lv_iload_n hx hb dX4_readOne_67 rfl (lv_at hl 0 rfl) ?_
      refine lv_iconst (v := -1) hx hb dX4_readOne_68 (by decide) ?_
      refine lv_icmp_eq (tgt := 97) hx hb dX4_readOne_69 (by decide) (fun c_69 => ?_) (fun c_69 => ?_)
      · skip
        have i4_t_59 : tq_iv (-1) (-1) t_59 := tq_cut p_59 (tq_eqL c_69 (⟨by decide, by decide⟩ : tq_iv (-1) (-1) (-1))) (by decide) (by decide)
        exact K_97 t_54 _ _ _ _ hS (tq_w i3_t_54 (by decide) (by decide)) (lv_sub hl [1] rfl)
      · skip
        have i5_t_59 : tq_iv 0 10 t_59 := tq_w (tq_neLo c_69 p_59 (⟨by decide, by decide⟩ : tq_iv (-1) (-1) (-1))) (by decide) (by decide)
        refine lv_aload_n hx hb dX4_readOne_72 rfl (lv_at hl 2 rfl) ?_
        refine gf_RX4_30 hC hS z_h0 dX4_readOne_73 (fun t_73 p_73 q_73 => ?_)
        refine tq_callVv (As := []) (rest := []) hC (c_X9_advance l X Z _ t_73 p_73) k_X9_advance ql_RX4_66 (by decide) rfl (by decide) hS p_73 rfl hl.1 rfl (Nat.le_of_ble_eq_true rfl) ⟨Nat.zero_le _, Nat.zero_le _⟩ dX4_readOne_76 (fun f1_76 H locs hS k_76 => ?_)
        refine lv_aload_n hx hb dX4_readOne_79 rfl (lv_at hl 2 rfl) ?_
        refine lv_iload_n hx hb dX4_readOne_80 rfl (lv_at hl 3 rfl) ?_
        refine tq_callVi (As := [.int x1]) (rest := []) hC (c_X4_readSum_4_4 l X Z _ h0 z_h0 x1 (tq_w i_x1 (by decide) (by decide))) k_X4_readSum ql_RX4_226 (by decide) rfl (by decide) hS z_h0 rfl hl.1 rfl (Nat.le_of_ble_eq_true rfl) ⟨Nat.zero_le _, Nat.zero_le _⟩ dX4_readOne_81 (fun t_81 f1_81 H locs p_81 hS k_81 => ?_)
        refine lv_istore_n (lv' := [(2, .int t_81), (3, .int t_59), (0, .ref h0), (1, .int x1)]) hx hb dX4_readOne_84 rfl hl (by decide) rfl (fun ls hl => ?_)
        refine lv_aload_n hx hb dX4_readOne_85 rfl (lv_at hl 2 rfl) ?_
        refine gf_RX4_12 hC hS z_h0 dX4_readOne_86 (fun t_86 p_86 q_86 => ?_)
        refine gf_RX4_214 hC hS p_86 dX4_readOne_89 (fun t_89 p_89 q_89 => ?_)
        refine lv_iload_n hx hb dX4_readOne_92 rfl (lv_at hl 1 rfl) ?_
        refine lv_iconst (v := 0) hx hb dX4_readOne_93 (by decide) ?_
        refine tq_callVv (As := [.int t_59, .int 0]) (rest := []) hC (c_X0_append l X Z _ t_89 p_89 t_59 0) k_X0_append ql_RX4_220 (by decide) rfl (by decide) hS p_89 rfl hl.1 rfl (Nat.le_of_ble_eq_true rfl) ⟨Nat.zero_le _, Nat.zero_le _⟩ dX4_readOne_94 (fun f1_94 H locs hS k_94 => ?_)
        exact K_97 t_81 _ _ _ _ hS (tq_w p_81 (by decide) (by decide)) (lv_sub hl [0] rfl)
  · skip
    have i6_t_4 : tq_iv 18 18 t_4 := tq_cut (tq_top t_4) (tq_eqL c_9 (⟨by decide, by decide⟩ : tq_iv 18 18 18)) (by decide) (by decide)
    refine lv_iload_n hx hb dX4_readOne_12 rfl (lv_at hl 1 rfl) ?_
    refine lv_bipush (v := 6) hx hb dX4_readOne_13 (by decide) ?_
    refine lv_icmp_le (tgt := 23) hx hb dX4_readOne_15 (by decide) (fun c_15 => ?_) (fun c_15 => ?_)
    · skip
      refine lv_aload_n hx hb dX4_readOne_23 rfl (lv_at hl 0 rfl) ?_
      refine gf_RX4_30 hC hS z_h0 dX4_readOne_24 (fun t_24 p_24 q_24 => ?_)
      refine tq_callVv (As := []) (rest := []) hC (c_X9_advance l X Z _ t_24 p_24) k_X9_advance ql_RX4_66 (by decide) rfl (by decide) hS p_24 rfl hl.1 rfl (Nat.le_of_ble_eq_true rfl) ⟨Nat.zero_le _, Nat.zero_le _⟩ dX4_readOne_27 (fun f1_27 H locs hS k_27 => ?_)
      refine lv_aload_n hx hb dX4_readOne_30 rfl (lv_at hl 0 rfl) ?_
      refine lv_iload_n hx hb dX4_readOne_31 rfl (lv_at hl 1 rfl) ?_
      refine lv_iconst (v := 1) hx hb dX4_readOne_32 (by decide) ?_
      refine lv_iadd hx hb dX4_readOne_33 ?_
      refine lv_topi (fun t_33 e_33 => ?_)
      have i7_t_33 : tq_iv 5 5 t_33 := tq_w (tq_add e_33 i_x1 (⟨by decide, by decide⟩ : tq_iv 1 1 1) (by decide) (by decide)) (by decide) (by decide)
      refine tq_callVi (As := [.int t_33]) (rest := []) hC (c_X4_readOne_5_5 l X Z _ h0 z_h0 t_33 (tq_w i7_t_33 (by decide) (by decide))) k_X4_readOne ql_RX4_223 (by decide) rfl (by decide) hS z_h0 rfl hl.1 rfl (Nat.le_of_ble_eq_true rfl) ⟨Nat.zero_le _, Nat.zero_le _⟩ dX4_readOne_34 (fun t_34 f1_34 H locs p_34 hS k_34 => ?_)
      refine lv_istore_n (lv' := [(2, .int t_34), (0, .ref h0), (1, .int x1)]) hx hb dX4_readOne_37 rfl hl (by decide) rfl (fun ls hl => ?_)
      refine lv_aload_n hx hb dX4_readOne_38 rfl (lv_at hl 1 rfl) ?_
      refine gf_RX4_12 hC hS z_h0 dX4_readOne_39 (fun t_39 p_39 q_39 => ?_)
      refine gf_RX4_214 hC hS p_39 dX4_readOne_42 (fun t_42 p_42 q_42 => ?_)
      refine lv_iconst (v := 5) hx hb dX4_readOne_45 (by decide) ?_
      refine lv_iconst (v := 0) hx hb dX4_readOne_46 (by decide) ?_
      refine tq_callVv (As := [.int 5, .int 0]) (rest := []) hC (c_X0_append l X Z _ t_42 p_42 5 0) k_X0_append ql_RX4_220 (by decide) rfl (by decide) hS p_42 rfl hl.1 rfl (Nat.le_of_ble_eq_true rfl) ⟨Nat.zero_le _, Nat.zero_le _⟩ dX4_readOne_47 (fun f1_47 H locs hS k_47 => ?_)
      refine lv_iload_n hx hb dX4_readOne_50 rfl (lv_at hl 0 rfl) ?_
      exact hret t_34 _ _ _ _ _ (tq_nb p_34 (by decide) (by decide)) ⟨_, rfl, tq_w p_34 (by decide) (by decide)⟩ hS dX4_readOne_51
    · skip
      exact (tq_xlt (tq_nle c_15) (⟨by decide, by decide⟩ : tq_iv 6 6 6) i_x1 (by decide)).elim
