set_option maxHeartbeats 4000000 in
set_option maxRecDepth 100000 in
theorem c_X4_readSum_0_0 (l : Launch) (X : tq_X) (Z : tq_Z) (f : Nat → va_E) (h0 : Nat) (z_h0 : tq_z Z h0 (.inl 4)) (x1 : Int32) (i_x1 : tq_iv 0 0 x1) : tq_M l X Z f [(0, 0), (0, 1), (4, 1), (4, 2), (9, 3), (9, 4), (9, 5), (9, 6), (9, 7)] yX4_readSum cX4_readSum 5 (some .boolean) 49 [.ref h0, .int x1] (tq_ri 0 1) := by
  refine tq_starti (by decide) (Nat.le_of_ble_eq_true rfl) (fun p e R s m args below meth c Q hC hret hS ls hl => ?_)
  have hC : tq_C p R s m args c X (tq_A Z) RX4 cX4_readSum 5 49 := hC
  have hx := hC.1.1
  have hb := hC.1.2.1
  have hown := hC.1.2.2.2.1
  have hts := hC.1.2.2.2.2
  have hl : lv_has ls 5 [(0, .ref h0), (1, .int x1)] := hl
  generalize hf0 : f = f0 at hret
  have hS : tq_S X Z (tq_A Z) s.heap f0 [(0, 0), (0, 1), (4, 1), (4, 2), (9, 3), (9, 4), (9, 5), (9, 6), (9, 7)] f s.heap [] := hf0 ▸ hS
  refine lv_aload_n hx hb dX4_readSum_0 rfl (lv_at hl 0 rfl) ?_
  refine lv_iload_n hx hb dX4_readSum_1 rfl (lv_at hl 1 rfl) ?_
  refine tq_callVi (As := [.int x1]) (rest := []) hC (c_X4_readTerm_0_0 l X Z _ h0 z_h0 x1 (tq_w i_x1 (by decide) (by decide))) k_X4_readTerm ql_RX4_232 (by decide) rfl (by decide) hS z_h0 rfl hl.1 rfl (Nat.le_of_ble_eq_true rfl) ⟨Nat.zero_le _, Nat.zero_le _⟩ dX4_readSum_2 (fun t_2 f1_2 H locs p_2 hS k_2 => ?_)
  refine lv_istore_n (lv' := [(2, .int t_2), (0, .ref h0), (1, .int x1)]) hx hb dX4_readSum_5 rfl hl (by decide) rfl (fun ls hl => ?_)
  refine lv_iconst (v := 0) hx hb dX4_readSum_6 (by decide) ?_
  refine lv_istore_n (lv' := [(3, .int 0), (2, .int t_2), (0, .ref h0), (1, .int x1)]) hx hb dX4_readSum_7 rfl hl (by decide) rfl (fun ls hl => ?_)
  have K_8 : ∀ (n_8 : Nat) (x3_8 : Int32) (x2_8 : Int32) (f : Nat → va_E) (H : Heap) (locs : List Loc) (ls : Array Slot), tq_S X Z (tq_A Z) s.heap f0 [(0, 0), (0, 1), (4, 1), (4, 2), (9, 3), (9, 4), (9, 5), (9, 6), (9, 7)] f H locs → tq_iv 0 1 x2_8 → tq_iv 0 1600 x3_8 → (2147483647 - x3_8.toInt).toNat < n_8 → lv_has ls 5 [(3, .int x3_8), (2, .int x2_8), (0, .ref h0), (1, .int x1)] → W p l e R s m args below meth c H locs 0 0 Q (F0 m 8 ls []) := by
    intro n_8
    induction n_8 with
    | zero => intro x3_8 x2_8 f H locs ls  hS i1_x2_8 i2_x3_8 hn_8; exact absurd hn_8 (Nat.not_lt_zero _)
    | succ n_8 ih_8 =>
      intro x3_8 x2_8 f H locs ls  hS i1_x2_8 i2_x3_8 hn_8 hl
      refine lv_iload_n hx hb dX4_readSum_8 rfl (lv_at hl 0 rfl) ?_
      refine lv_sipush (v := 1600) hx hb dX4_readSum_9 (by decide) ?_
      have K_96 : ∀ (f : Nat → va_E) (H : Heap) (locs : List Loc) (ls : Array Slot), tq_S X Z (tq_A Z) s.heap f0 [(0, 0), (0, 1), (4, 1), (4, 2), (9, 3), (9, 4), (9, 5), (9, 6), (9, 7)] f H locs → lv_has ls 5 [(2, .int x2_8)] → W p l e R s m args below meth c H locs 0 0 Q (F0 m 96 ls []) := by
        intro f H locs ls  hS hl
        refine lv_iload_n hx hb dX4_readSum_96 rfl (lv_at hl 0 rfl) ?_
        exact hret x2_8 _ _ _ _ _ (tq_nb i1_x2_8 (by decide) (by decide)) ⟨_, rfl, tq_w i1_x2_8 (by decide) (by decide)⟩ hS dX4_readSum_97
      refine lv_icmp_ge (tgt := 96) hx hb dX4_readSum_12 (by decide) (fun c_12 => ?_) (fun c_12 => ?_)
      · skip
        have i3_x3_8 : tq_iv 1600 1600 x3_8 := tq_cut i2_x3_8 (tq_leR c_12 (⟨by decide, by decide⟩ : tq_iv 1600 1600 1600) i2_x3_8) (by decide) (by decide)
        exact K_96 _ _ _ _ hS (lv_sub hl [1] rfl)
      · skip
        have i4_x3_8 : tq_iv 0 1599 x3_8 := tq_cut i2_x3_8 (tq_ltL (tq_nle c_12) i2_x3_8 (⟨by decide, by decide⟩ : tq_iv 1600 1600 1600)) (by decide) (by decide)
        refine lv_iload_n hx hb dX4_readSum_15 rfl (lv_at hl 1 rfl) ?_
        refine lv_if_eq (tgt := 96) hx hb dX4_readSum_16 (by decide) (fun c_16 => ?_) (fun c_16 => ?_)
        · skip
          have i5_x2_8 : tq_iv 0 0 x2_8 := tq_cut i1_x2_8 (tq_eqL c_16 (⟨by decide, by decide⟩ : tq_iv 0 0 0)) (by decide) (by decide)
          exact K_96 _ _ _ _ hS (lv_sub hl [1] rfl)
        · skip
          have i6_x2_8 : tq_iv 1 1 x2_8 := tq_w (tq_neLo c_16 i1_x2_8 (⟨by decide, by decide⟩ : tq_iv 0 0 0)) (by decide) (by decide)
          refine lv_aload_n hx hb dX4_readSum_19 rfl (lv_at hl 2 rfl) ?_
          refine gf_RX4_30 hC hS z_h0 dX4_readSum_20 (fun t_20 p_20 q_20 => ?_)
          refine gf_RX4_49 hC hS p_20 dX4_readSum_23 (fun t_23 p_23 q_23 => ?_)
          refine lv_bipush (v := 43) hx hb dX4_readSum_26 (by decide) ?_
          have K_43 : ∀ (f : Nat → va_E) (H : Heap) (locs : List Loc) (ls : Array Slot), tq_S X Z (tq_A Z) s.heap f0 [(0, 0), (0, 1), (4, 1), (4, 2), (9, 3), (9, 4), (9, 5), (9, 6), (9, 7)] f H locs → lv_has ls 5 [(3, .int x3_8), (0, .ref h0), (1, .int x1)] → W p l e R s m args below meth c H locs 0 0 Q (F0 m 43 ls []) := by
            intro f H locs ls  hS hl
            refine lv_aload_n hx hb dX4_readSum_43 rfl (lv_at hl 1 rfl) ?_
            refine gf_RX4_30 hC hS z_h0 dX4_readSum_44 (fun t_44 p_44 q_44 => ?_)
            refine gf_RX4_49 hC hS p_44 dX4_readSum_47 (fun t_47 p_47 q_47 => ?_)
            refine lv_bipush (v := 43) hx hb dX4_readSum_50 (by decide) ?_
            have K_62 : ∀ (y0_62 : Int32) (f : Nat → va_E) (H : Heap) (locs : List Loc) (ls : Array Slot), tq_S X Z (tq_A Z) s.heap f0 [(0, 0), (0, 1), (4, 1), (4, 2), (9, 3), (9, 4), (9, 5), (9, 6), (9, 7)] f H locs → tq_iv 11 12 y0_62 → lv_has ls 5 [(3, .int x3_8), (0, .ref h0), (1, .int x1)] → W p l e R s m args below meth c H locs 0 0 Q (F0 m 62 ls [.int y0_62]) := by
              intro y0_62 f H locs ls  hS i7_y0_62 hl
              refine lv_istore (lv' := [(4, .int y0_62), (3, .int x3_8), (0, .ref h0), (1, .int x1)]) hx hb dX4_readSum_62 hl (by decide) rfl (fun ls hl => ?_)
              refine lv_aload_n hx hb dX4_readSum_64 rfl (lv_at hl 2 rfl) ?_
              refine gf_RX4_30 hC hS z_h0 dX4_readSum_65 (fun t_65 p_65 q_65 => ?_)
              refine tq_callVv (As := []) (rest := []) hC (c_X9_advance l X Z _ t_65 p_65) k_X9_advance ql_RX4_66 (by decide) rfl (by decide) hS p_65 rfl hl.1 rfl (Nat.le_of_ble_eq_true rfl) ⟨Nat.zero_le _, Nat.zero_le _⟩ dX4_readSum_68 (fun f1_68 H locs hS k_68 => ?_)
              refine lv_aload_n hx hb dX4_readSum_71 rfl (lv_at hl 2 rfl) ?_
              refine lv_iload_n hx hb dX4_readSum_72 rfl (lv_at hl 3 rfl) ?_
              refine tq_callVi (As := [.int x1]) (rest := []) hC (c_X4_readTerm_0_0 l X Z _ h0 z_h0 x1 (tq_w i_x1 (by decide) (by decide))) k_X4_readTerm ql_RX4_232 (by decide) rfl (by decide) hS z_h0 rfl hl.1 rfl (Nat.le_of_ble_eq_true rfl) ⟨Nat.zero_le _, Nat.zero_le _⟩ dX4_readSum_73 (fun t_73 f1_73 H locs p_73 hS k_73 => ?_)
              refine lv_istore_n (lv' := [(2, .int t_73), (4, .int y0_62), (3, .int x3_8), (0, .ref h0), (1, .int x1)]) hx hb dX4_readSum_76 rfl hl (by decide) rfl (fun ls hl => ?_)
              refine lv_aload_n hx hb dX4_readSum_77 rfl (lv_at hl 3 rfl) ?_
              refine gf_RX4_12 hC hS z_h0 dX4_readSum_78 (fun t_78 p_78 q_78 => ?_)
              refine gf_RX4_214 hC hS p_78 dX4_readSum_81 (fun t_81 p_81 q_81 => ?_)
              refine lv_iload hx hb dX4_readSum_84 (lv_at hl 1 rfl) ?_
              refine lv_iconst (v := 0) hx hb dX4_readSum_86 (by decide) ?_
              refine tq_callVv (As := [.int y0_62, .int 0]) (rest := []) hC (c_X0_append l X Z _ t_81 p_81 y0_62 0) k_X0_append ql_RX4_220 (by decide) rfl (by decide) hS p_81 rfl hl.1 rfl (Nat.le_of_ble_eq_true rfl) ⟨Nat.zero_le _, Nat.zero_le _⟩ dX4_readSum_87 (fun f1_87 H locs hS k_87 => ?_)
              obtain ⟨t_90, e_90⟩ : ∃ y : Int32, y = x3_8 + 1 := ⟨_, rfl⟩
              have i8_t_90 : tq_iv 1 1600 t_90 := tq_w (tq_add e_90 i4_x3_8 (⟨by decide, by decide⟩ : tq_iv 1 1 1) (by decide) (by decide)) (by decide) (by decide)
              refine lv_iinc (v := t_90) (lv' := [(3, .int t_90), (2, .int t_73), (4, .int y0_62), (0, .ref h0), (1, .int x1)]) hx hb dX4_readSum_90 hl (k := 2) rfl (by rw [e_90]; rfl) (by decide) rfl (fun ls hl => ?_)
              refine lv_goto (tgt := 8) hx hb dX4_readSum_93 (by decide) ?_
              exact ih_8 t_90 t_73 _ _ _ _ hS (tq_w p_73 (by decide) (by decide)) (tq_w i8_t_90 (by decide) (by decide)) (tq_up e_90 i4_x3_8 (⟨by decide, by decide⟩ : tq_iv 1 1 1) (by decide) (by decide) hn_8) (lv_sub hl [0, 1, 3, 4] rfl)
            refine lv_icmp_ne (tgt := 60) hx hb dX4_readSum_52 (by decide) (fun c_52 => ?_) (fun c_52 => ?_)
            · skip
              refine lv_bipush (v := 12) hx hb dX4_readSum_60 (by decide) ?_
              exact K_62 12 _ _ _ _ hS (tq_w (⟨by decide, by decide⟩ : tq_iv 12 12 12) (by decide) (by decide)) (lv_sub hl [0, 1, 2] rfl)
            · skip
              have i9_t_47 : tq_iv 43 43 t_47 := tq_cut (tq_top t_47) (tq_eqL c_52 (⟨by decide, by decide⟩ : tq_iv 43 43 43)) (by decide) (by decide)
              refine lv_bipush (v := 11) hx hb dX4_readSum_55 (by decide) ?_
              refine lv_goto (tgt := 62) hx hb dX4_readSum_57 (by decide) ?_
              exact K_62 11 _ _ _ _ hS (tq_w (⟨by decide, by decide⟩ : tq_iv 11 11 11) (by decide) (by decide)) (lv_sub hl [0, 1, 2] rfl)
          refine lv_icmp_eq (tgt := 43) hx hb dX4_readSum_28 (by decide) (fun c_28 => ?_) (fun c_28 => ?_)
          · skip
            have i10_t_23 : tq_iv 43 43 t_23 := tq_cut (tq_top t_23) (tq_eqL c_28 (⟨by decide, by decide⟩ : tq_iv 43 43 43)) (by decide) (by decide)
            exact K_43 _ _ _ _ hS (lv_sub hl [0, 2, 3] rfl)
          · skip
            refine lv_aload_n hx hb dX4_readSum_31 rfl (lv_at hl 2 rfl) ?_
            refine gf_RX4_30 hC hS z_h0 dX4_readSum_32 (fun t_32 p_32 q_32 => ?_)
            refine gf_RX4_49 hC hS p_32 dX4_readSum_35 (fun t_35 p_35 q_35 => ?_)
            refine lv_bipush (v := 45) hx hb dX4_readSum_38 (by decide) ?_
            refine lv_icmp_ne (tgt := 96) hx hb dX4_readSum_40 (by decide) (fun c_40 => ?_) (fun c_40 => ?_)
            · skip
              exact K_96 _ _ _ _ hS (lv_sub hl [1] rfl)
            · skip
              have i11_t_35 : tq_iv 45 45 t_35 := tq_cut (tq_top t_35) (tq_eqL c_40 (⟨by decide, by decide⟩ : tq_iv 45 45 45)) (by decide) (by decide)
              exact K_43 _ _ _ _ hS (lv_sub hl [0, 2, 3] rfl)
  exact K_8 _ 0 t_2 _ _ _ _ hS (tq_w p_2 (by decide) (by decide)) (tq_w (⟨by decide, by decide⟩ : tq_iv 0 0 0) (by decide) (by decide)) (Nat.lt_succ_self _) (lv_sub hl [0, 1, 2, 3] rfl)
set_option maxHeartbeats 4000000 in
set_option maxRecDepth 100000 in
theorem c_X4_readOne_0_0 (l : Launch) (X : tq_X) (Z : tq_Z) (f : Nat → va_E) (h0 : Nat) (z_h0 : tq_z Z h0 (.inl 4)) (x1 : Int32) (i_x1 : tq_iv 0 0 x1) : tq_M l X Z f [(0, 0), (0, 1), (4, 1), (4, 2), (9, 3), (9, 4), (9, 5), (9, 6), (9, 7)] yX4_readOne cX4_readOne 4 (some .boolean) 50 [.ref h0, .int x1] (tq_ri 0 1) := by
  refine tq_starti (by decide) (Nat.le_of_ble_eq_true rfl) (fun p e R s m args below meth c Q hC hret hS ls hl => ?_)
  have hC : tq_C p R s m args c X (tq_A Z) RX4 cX4_readOne 4 50 := hC
  have hx := hC.1.1
  have hb := hC.1.2.1
  have hown := hC.1.2.2.2.1
  have hts := hC.1.2.2.2.2
  have hl : lv_has ls 4 [(0, .ref h0), (1, .int x1)] := hl
  generalize hf0 : f = f0 at hret
  have hS : tq_S X Z (tq_A Z) s.heap f0 [(0, 0), (0, 1), (4, 1), (4, 2), (9, 3), (9, 4), (9, 5), (9, 6), (9, 7)] f s.heap [] := hf0 ▸ hS
  refine lv_aload_n hx hb dX4_readOne_0 rfl (lv_at hl 0 rfl) ?_
  refine gf_RX4_30 hC hS z_h0 dX4_readOne_1 (fun t_1 p_1 q_1 => ?_)
  refine gf_RX4_49 hC hS p_1 dX4_readOne_4 (fun t_4 p_4 q_4 => ?_)
  refine lv_bipush (v := 18) hx hb dX4_readOne_7 (by decide) ?_
  refine lv_icmp_ne (tgt := 52) hx hb dX4_readOne_9 (by decide) (fun c_9 => ?_) (fun c_9 => ?_)
  · skip
    refine lv_aload_n hx hb dX4_readOne_52 rfl (lv_at hl 0 rfl) ?_
    refine lv_iload_n hx hb dX4_readOne_53 rfl (lv_at hl 1 rfl) ?_
    refine tq_callVi (As := [.int x1]) (rest := []) hC (c_X4_readSum_0_0 l X Z _ h0 z_h0 x1 (tq_w i_x1 (by decide) (by decide))) k_X4_readSum ql_RX4_226 (by decide) rfl (by decide) hS z_h0 rfl hl.1 rfl (Nat.le_of_ble_eq_true rfl) ⟨Nat.zero_le _, Nat.zero_le _⟩ dX4_readOne_54 (fun t_54 f1_54 H locs p_54 hS k_54 => ?_)
    refine lv_istore_n (lv' := [(2, .int t_54), (0, .ref h0), (1, .int x1)]) hx hb dX4_readOne_57 rfl hl (by decide) rfl (fun ls hl => ?_)
    refine lv_aload_n hx hb dX4_readOne_58 rfl (lv_at hl 1 rfl) ?_
    refine tq_callVpi (As := []) (rest := []) hC (c_X4_relationHere l X Z _ h0 z_h0) k_X4_relationHere ql_RX4_229 rfl (by decide) hS z_h0 rfl hl.1 rfl (Nat.le_of_ble_eq_true rfl) ⟨Nat.zero_le _, Nat.zero_le _⟩ dX4_readOne_59 (fun t_59 p_59 => ?_)
    refine lv_istore_n (lv' := [(3, .int t_59), (2, .int t_54), (0, .ref h0), (1, .int x1)]) hx hb dX4_readOne_62 rfl hl (by decide) rfl (fun ls hl => ?_)
    refine lv_iload_n hx hb dX4_readOne_63 rfl (lv_at hl 1 rfl) ?_
    have K_97 : ∀ (x2_97 : Int32) (f : Nat → va_E) (H : Heap) (locs : List Loc) (ls : Array Slot), tq_S X Z (tq_A Z) s.heap f0 [(0, 0), (0, 1), (4, 1), (4, 2), (9, 3), (9, 4), (9, 5), (9, 6), (9, 7)] f H locs → tq_iv 0 1 x2_97 → lv_has ls 4 [(2, .int x2_97)] → W p l e R s m args below meth c H locs 0 0 Q (F0 m 97 ls []) := by
      intro x2_97 f H locs ls  hS i1_x2_97 hl
      refine lv_iload_n hx hb dX4_readOne_97 rfl (lv_at hl 0 rfl) ?_
      exact hret x2_97 _ _ _ _ _ (tq_nb i1_x2_97 (by decide) (by decide)) ⟨_, rfl, tq_w i1_x2_97 (by decide) (by decide)⟩ hS dX4_readOne_98
    refine lv_if_eq (tgt := 97) hx hb dX4_readOne_64 (by decide) (fun c_64 => ?_) (fun c_64 => ?_)
    · skip
      have i2_t_54 : tq_iv 0 0 t_54 := tq_cut p_54 (tq_eqL c_64 (⟨by decide, by decide⟩ : tq_iv 0 0 0)) (by decide) (by decide)
      exact K_97 t_54 _ _ _ _ hS (tq_w i2_t_54 (by decide) (by decide)) (lv_sub hl [1] rfl)
    · skip
      have i3_t_54 : tq_iv 1 1 t_54 := tq_w (tq_neLo c_64 p_54 (⟨by decide, by decide⟩ : tq_iv 0 0 0)) (by decide) (by decide)
      refine lv_iload_n hx hb dX4_readOne_67 rfl (lv_at hl 0 rfl) ?_
      refine lv_iconst (v := -1) hx hb dX4_readOne_68 (by decide) ?_
      refine lv_icmp_eq (tgt := 97) hx hb dX4_readOne_69 (by decide) (fun c_69 => ?_) (fun c_69 => ?_)
      · skip
        have i4_t_59 : tq_iv (-1) (-1) t_59 := tq_cut p_59 (tq_eqL c_69 (⟨by decide, by decide⟩ : tq_iv (-1) (-1) (-1))) (by decide) (by decide)
        exact K_97 t_54 _ _ _ _ hS (tq_w i3_t_54 (by decide) (by decide)) (lv_sub hl [1] rfl)
      · skip
        have i5_t_59 : tq_iv 0 10 t_59 := tq_w (tq_neLo c_69 p_59 (⟨by decide, by decide⟩ : tq_iv (-1) (-1) (-1))) (by decide) (by decide)
        refine lv_aload_n hx hb dX4_readOne_72 rfl (lv_at hl 2 rfl) ?_
        refine gf_RX4_30 hC hS z_h0 dX4_readOne_73 (fun t_73 p_73 q_73 => ?_)
        refine tq_callVv (As := []) (rest := []) hC (c_X9_advance l X Z _ t_73 p_73) k_X9_advance ql_RX4_66 (by decide) rfl (by decide) hS p_73 rfl hl.1 rfl (Nat.le_of_ble_eq_true rfl) ⟨Nat.zero_le _, Nat.zero_le _⟩ dX4_readOne_76 (fun f1_76 H locs hS k_76 => ?_)
        refine lv_aload_n hx hb dX4_readOne_79 rfl (lv_at hl 2 rfl) ?_
        refine lv_iload_n hx hb dX4_readOne_80 rfl (lv_at hl 3 rfl) ?_
        refine tq_callVi (As := [.int x1]) (rest := []) hC (c_X4_readSum_0_0 l X Z _ h0 z_h0 x1 (tq_w i_x1 (by decide) (by decide))) k_X4_readSum ql_RX4_226 (by decide) rfl (by decide) hS z_h0 rfl hl.1 rfl (Nat.le_of_ble_eq_true rfl) ⟨Nat.zero_le _, Nat.zero_le _⟩ dX4_readOne_81 (fun t_81 f1_81 H locs p_81 hS k_81 => ?_)
        refine lv_istore_n (lv' := [(2, .int t_81), (3, .int t_59), (0, .ref h0), (1, .int x1)]) hx hb dX4_readOne_84 rfl hl (by decide) rfl (fun ls hl => ?_)
        refine lv_aload_n hx hb dX4_readOne_85 rfl (lv_at hl 2 rfl) ?_
        refine gf_RX4_12 hC hS z_h0 dX4_readOne_86 (fun t_86 p_86 q_86 => ?_)
        refine gf_RX4_214 hC hS p_86 dX4_readOne_89 (fun t_89 p_89 q_89 => ?_)
        refine lv_iload_n hx hb dX4_readOne_92 rfl (lv_at hl 1 rfl) ?_
        refine lv_iconst (v := 0) hx hb dX4_readOne_93 (by decide) ?_
        refine tq_callVv (As := [.int t_59, .int 0]) (rest := []) hC (c_X0_append l X Z _ t_89 p_89 t_59 0) k_X0_append ql_RX4_220 (by decide) rfl (by decide) hS p_89 rfl hl.1 rfl (Nat.le_of_ble_eq_true rfl) ⟨Nat.zero_le _, Nat.zero_le _⟩ dX4_readOne_94 (fun f1_94 H locs hS k_94 => ?_)
        exact K_97 t_81 _ _ _ _ hS (tq_w p_81 (by decide) (by decide)) (lv_sub hl [0] rfl)
  · skip
    have i6_t_4 : tq_iv 18 18 t_4 := tq_cut (tq_top t_4) (tq_eqL c_9 (⟨by decide, by decide⟩ : tq_iv 18 18 18)) (by decide) (by decide)
    refine lv_iload_n hx hb dX4_readOne_12 rfl (lv_at hl 1 rfl) ?_
    refine lv_bipush (v := 6) hx hb dX4_readOne_13 (by decide) ?_
    refine lv_icmp_le (tgt := 23) hx hb dX4_readOne_15 (by decide) (fun c_15 => ?_) (fun c_15 => ?_)
    · skip
      refine lv_aload_n hx hb dX4_readOne_23 rfl (lv_at hl 0 rfl) ?_
      refine gf_RX4_30 hC hS z_h0 dX4_readOne_24 (fun t_24 p_24 q_24 => ?_)
      refine tq_callVv (As := []) (rest := []) hC (c_X9_advance l X Z _ t_24 p_24) k_X9_advance ql_RX4_66 (by decide) rfl (by decide) hS p_24 rfl hl.1 rfl (Nat.le_of_ble_eq_true rfl) ⟨Nat.zero_le _, Nat.zero_le _⟩ dX4_readOne_27 (fun f1_27 H locs hS k_27 => ?_)
      refine lv_aload_n hx hb dX4_readOne_30 rfl (lv_at hl 0 rfl) ?_
      refine lv_iload_n hx hb dX4_readOne_31 rfl (lv_at hl 1 rfl) ?_
      refine lv_iconst (v := 1) hx hb dX4_readOne_32 (by decide) ?_
      refine lv_iadd hx hb dX4_readOne_33 ?_
      refine lv_topi (fun t_33 e_33 => ?_)
      have i7_t_33 : tq_iv 1 1 t_33 := tq_w (tq_add e_33 i_x1 (⟨by decide, by decide⟩ : tq_iv 1 1 1) (by decide) (by decide)) (by decide) (by decide)
      refine tq_callVi (As := [.int t_33]) (rest := []) hC (c_X4_readOne_1_1 l X Z _ h0 z_h0 t_33 (tq_w i7_t_33 (by decide) (by decide))) k_X4_readOne ql_RX4_223 (by decide) rfl (by decide) hS z_h0 rfl hl.1 rfl (Nat.le_of_ble_eq_true rfl) ⟨Nat.zero_le _, Nat.zero_le _⟩ dX4_readOne_34 (fun t_34 f1_34 H locs p_34 hS k_34 => ?_)
      refine lv_istore_n (lv' := [(2, .int t_34), (0, .ref h0), (1, .int x1)]) hx hb dX4_readOne_37 rfl hl (by decide) rfl (fun ls hl => ?_)
      refine lv_aload_n hx hb dX4_readOne_38 rfl (lv_at hl 1 rfl) ?_
      refine gf_RX4_12 hC hS z_h0 dX4_readOne_39 (fun t_39 p_39 q_39 => ?_)
      refine gf_RX4_214 hC hS p_39 dX4_readOne_42 (fun t_42 p_42 q_42 => ?_)
      refine lv_iconst (v := 5) hx hb dX4_readOne_45 (by decide) ?_
      refine lv_iconst (v := 0) hx hb dX4_readOne_46 (by decide) ?_
      refine tq_callVv (As := [.int 5, .int 0]) (rest := []) hC (c_X0_append l X Z _ t_42 p_42 5 0) k_X0_append ql_RX4_220 (by decide) rfl (by decide) hS p_42 rfl hl.1 rfl (Nat.le_of_ble_eq_true rfl) ⟨Nat.zero_le _, Nat.zero_le _⟩ dX4_readOne_47 (fun f1_47 H locs hS k_47 => ?_)
      refine lv_iload_n hx hb dX4_readOne_50 rfl (lv_at hl 0 rfl) ?_
      exact hret t_34 _ _ _ _ _ (tq_nb p_34 (by decide) (by decide)) ⟨_, rfl, tq_w p_34 (by decide) (by decide)⟩ hS dX4_readOne_51
    · skip
      exact (tq_xlt (tq_nle c_15) (⟨by decide, by decide⟩ : tq_iv 6 6 6) i_x1 (by decide)).elim
set_option maxHeartbeats 4000000 in
set_option maxRecDepth 100000 in
theorem c_X4_readBoth_0_0 (l : Launch) (X : tq_X) (Z : tq_Z) (f : Nat → va_E) (h0 : Nat) (z_h0 : tq_z Z h0 (.inl 4)) (x1 : Int32) (i_x1 : tq_iv 0 0 x1) : tq_M l X Z f [(0, 0), (0, 1), (4, 1), (4, 2), (9, 3), (9, 4), (9, 5), (9, 6), (9, 7)] yX4_readBoth cX4_readBoth 4 (some .boolean) 51 [.ref h0, .int x1] (tq_ri 0 1) := by
  refine tq_starti (by decide) (Nat.le_of_ble_eq_true rfl) (fun p e R s m args below meth c Q hC hret hS ls hl => ?_)
  have hC : tq_C p R s m args c X (tq_A Z) RX4 cX4_readBoth 4 51 := hC
  have hx := hC.1.1
  have hb := hC.1.2.1
  have hown := hC.1.2.2.2.1
  have hts := hC.1.2.2.2.2
  have hl : lv_has ls 4 [(0, .ref h0), (1, .int x1)] := hl
  generalize hf0 : f = f0 at hret
  have hS : tq_S X Z (tq_A Z) s.heap f0 [(0, 0), (0, 1), (4, 1), (4, 2), (9, 3), (9, 4), (9, 5), (9, 6), (9, 7)] f s.heap [] := hf0 ▸ hS
  refine lv_aload_n hx hb dX4_readBoth_0 rfl (lv_at hl 0 rfl) ?_
  refine lv_iload_n hx hb dX4_readBoth_1 rfl (lv_at hl 1 rfl) ?_
  refine tq_callVi (As := [.int x1]) (rest := []) hC (c_X4_readOne_0_0 l X Z _ h0 z_h0 x1 (tq_w i_x1 (by decide) (by decide))) k_X4_readOne ql_RX4_223 (by decide) rfl (by decide) hS z_h0 rfl hl.1 rfl (Nat.le_of_ble_eq_true rfl) ⟨Nat.zero_le _, Nat.zero_le _⟩ dX4_readBoth_2 (fun t_2 f1_2 H locs p_2 hS k_2 => ?_)
  refine lv_istore_n (lv' := [(2, .int t_2), (0, .ref h0), (1, .int x1)]) hx hb dX4_readBoth_5 rfl hl (by decide) rfl (fun ls hl => ?_)
  refine lv_iconst (v := 0) hx hb dX4_readBoth_6 (by decide) ?_
  refine lv_istore_n (lv' := [(3, .int 0), (2, .int t_2), (0, .ref h0), (1, .int x1)]) hx hb dX4_readBoth_7 rfl hl (by decide) rfl (fun ls hl => ?_)
  have K_8 : ∀ (n_8 : Nat) (x3_8 : Int32) (x2_8 : Int32) (f : Nat → va_E) (H : Heap) (locs : List Loc) (ls : Array Slot), tq_S X Z (tq_A Z) s.heap f0 [(0, 0), (0, 1), (4, 1), (4, 2), (9, 3), (9, 4), (9, 5), (9, 6), (9, 7)] f H locs → tq_iv 0 1 x2_8 → tq_iv 0 1600 x3_8 → (2147483647 - x3_8.toInt).toNat < n_8 → lv_has ls 4 [(3, .int x3_8), (2, .int x2_8), (0, .ref h0), (1, .int x1)] → W p l e R s m args below meth c H locs 0 0 Q (F0 m 8 ls []) := by
    intro n_8
    induction n_8 with
    | zero => intro x3_8 x2_8 f H locs ls  hS i1_x2_8 i2_x3_8 hn_8; exact absurd hn_8 (Nat.not_lt_zero _)
    | succ n_8 ih_8 =>
      intro x3_8 x2_8 f H locs ls  hS i1_x2_8 i2_x3_8 hn_8 hl
      refine lv_iload_n hx hb dX4_readBoth_8 rfl (lv_at hl 0 rfl) ?_
      refine lv_sipush (v := 1600) hx hb dX4_readBoth_9 (by decide) ?_
      have K_63 : ∀ (f : Nat → va_E) (H : Heap) (locs : List Loc) (ls : Array Slot), tq_S X Z (tq_A Z) s.heap f0 [(0, 0), (0, 1), (4, 1), (4, 2), (9, 3), (9, 4), (9, 5), (9, 6), (9, 7)] f H locs → lv_has ls 4 [(2, .int x2_8)] → W p l e R s m args below meth c H locs 0 0 Q (F0 m 63 ls []) := by
        intro f H locs ls  hS hl
        refine lv_iload_n hx hb dX4_readBoth_63 rfl (lv_at hl 0 rfl) ?_
        exact hret x2_8 _ _ _ _ _ (tq_nb i1_x2_8 (by decide) (by decide)) ⟨_, rfl, tq_w i1_x2_8 (by decide) (by decide)⟩ hS dX4_readBoth_64
      refine lv_icmp_ge (tgt := 63) hx hb dX4_readBoth_12 (by decide) (fun c_12 => ?_) (fun c_12 => ?_)
      · skip
        have i3_x3_8 : tq_iv 1600 1600 x3_8 := tq_cut i2_x3_8 (tq_leR c_12 (⟨by decide, by decide⟩ : tq_iv 1600 1600 1600) i2_x3_8) (by decide) (by decide)
        exact K_63 _ _ _ _ hS (lv_sub hl [1] rfl)
      · skip
        have i4_x3_8 : tq_iv 0 1599 x3_8 := tq_cut i2_x3_8 (tq_ltL (tq_nle c_12) i2_x3_8 (⟨by decide, by decide⟩ : tq_iv 1600 1600 1600)) (by decide) (by decide)
        refine lv_iload_n hx hb dX4_readBoth_15 rfl (lv_at hl 1 rfl) ?_
        refine lv_if_eq (tgt := 63) hx hb dX4_readBoth_16 (by decide) (fun c_16 => ?_) (fun c_16 => ?_)
        · skip
          have i5_x2_8 : tq_iv 0 0 x2_8 := tq_cut i1_x2_8 (tq_eqL c_16 (⟨by decide, by decide⟩ : tq_iv 0 0 0)) (by decide) (by decide)
          exact K_63 _ _ _ _ hS (lv_sub hl [1] rfl)
        · skip
          have i6_x2_8 : tq_iv 1 1 x2_8 := tq_w (tq_neLo c_16 i1_x2_8 (⟨by decide, by decide⟩ : tq_iv 0 0 0)) (by decide) (by decide)
          refine lv_aload_n hx hb dX4_readBoth_19 rfl (lv_at hl 2 rfl) ?_
          refine gf_RX4_30 hC hS z_h0 dX4_readBoth_20 (fun t_20 p_20 q_20 => ?_)
          refine gf_RX4_49 hC hS p_20 dX4_readBoth_23 (fun t_23 p_23 q_23 => ?_)
          refine lv_bipush (v := 17) hx hb dX4_readBoth_26 (by decide) ?_
          refine lv_icmp_ne (tgt := 63) hx hb dX4_readBoth_28 (by decide) (fun c_28 => ?_) (fun c_28 => ?_)
          · skip
            exact K_63 _ _ _ _ hS (lv_sub hl [1] rfl)
          · skip
            have i7_t_23 : tq_iv 17 17 t_23 := tq_cut (tq_top t_23) (tq_eqL c_28 (⟨by decide, by decide⟩ : tq_iv 17 17 17)) (by decide) (by decide)
            refine lv_aload_n hx hb dX4_readBoth_31 rfl (lv_at hl 2 rfl) ?_
            refine gf_RX4_30 hC hS z_h0 dX4_readBoth_32 (fun t_32 p_32 q_32 => ?_)
            refine tq_callVv (As := []) (rest := []) hC (c_X9_advance l X Z _ t_32 p_32) k_X9_advance ql_RX4_66 (by decide) rfl (by decide) hS p_32 rfl hl.1 rfl (Nat.le_of_ble_eq_true rfl) ⟨Nat.zero_le _, Nat.zero_le _⟩ dX4_readBoth_35 (fun f1_35 H locs hS k_35 => ?_)
            refine lv_aload_n hx hb dX4_readBoth_38 rfl (lv_at hl 2 rfl) ?_
            refine lv_iload_n hx hb dX4_readBoth_39 rfl (lv_at hl 3 rfl) ?_
            refine tq_callVi (As := [.int x1]) (rest := []) hC (c_X4_readOne_0_0 l X Z _ h0 z_h0 x1 (tq_w i_x1 (by decide) (by decide))) k_X4_readOne ql_RX4_223 (by decide) rfl (by decide) hS z_h0 rfl hl.1 rfl (Nat.le_of_ble_eq_true rfl) ⟨Nat.zero_le _, Nat.zero_le _⟩ dX4_readBoth_40 (fun t_40 f1_40 H locs p_40 hS k_40 => ?_)
            refine lv_istore_n (lv' := [(2, .int t_40), (3, .int x3_8), (0, .ref h0), (1, .int x1)]) hx hb dX4_readBoth_43 rfl hl (by decide) rfl (fun ls hl => ?_)
            refine lv_aload_n hx hb dX4_readBoth_44 rfl (lv_at hl 2 rfl) ?_
            refine gf_RX4_12 hC hS z_h0 dX4_readBoth_45 (fun t_45 p_45 q_45 => ?_)
            refine gf_RX4_214 hC hS p_45 dX4_readBoth_48 (fun t_48 p_48 q_48 => ?_)
            refine lv_bipush (v := 7) hx hb dX4_readBoth_51 (by decide) ?_
            refine lv_iconst (v := 0) hx hb dX4_readBoth_53 (by decide) ?_
            refine tq_callVv (As := [.int 7, .int 0]) (rest := []) hC (c_X0_append l X Z _ t_48 p_48 7 0) k_X0_append ql_RX4_220 (by decide) rfl (by decide) hS p_48 rfl hl.1 rfl (Nat.le_of_ble_eq_true rfl) ⟨Nat.zero_le _, Nat.zero_le _⟩ dX4_readBoth_54 (fun f1_54 H locs hS k_54 => ?_)
            obtain ⟨t_57, e_57⟩ : ∃ y : Int32, y = x3_8 + 1 := ⟨_, rfl⟩
            have i8_t_57 : tq_iv 1 1600 t_57 := tq_w (tq_add e_57 i4_x3_8 (⟨by decide, by decide⟩ : tq_iv 1 1 1) (by decide) (by decide)) (by decide) (by decide)
            refine lv_iinc (v := t_57) (lv' := [(3, .int t_57), (2, .int t_40), (0, .ref h0), (1, .int x1)]) hx hb dX4_readBoth_57 hl (k := 1) rfl (by rw [e_57]; rfl) (by decide) rfl (fun ls hl => ?_)
            refine lv_goto (tgt := 8) hx hb dX4_readBoth_60 (by decide) ?_
            exact ih_8 t_57 t_40 _ _ _ _ hS (tq_w p_40 (by decide) (by decide)) (tq_w i8_t_57 (by decide) (by decide)) (tq_up e_57 i4_x3_8 (⟨by decide, by decide⟩ : tq_iv 1 1 1) (by decide) (by decide) hn_8) (lv_sub hl [0, 1, 2, 3] rfl)
  exact K_8 _ 0 t_2 _ _ _ _ hS (tq_w p_2 (by decide) (by decide)) (tq_w (⟨by decide, by decide⟩ : tq_iv 0 0 0) (by decide) (by decide)) (Nat.lt_succ_self _) (lv_sub hl [0, 1, 2, 3] rfl)
set_option maxHeartbeats 4000000 in
set_option maxRecDepth 100000 in
theorem c_X4_readEither_0_0 (l : Launch) (X : tq_X) (Z : tq_Z) (f : Nat → va_E) (h0 : Nat) (z_h0 : tq_z Z h0 (.inl 4)) (x1 : Int32) (i_x1 : tq_iv 0 0 x1) : tq_M l X Z f [(0, 0), (0, 1), (4, 1), (4, 2), (9, 3), (9, 4), (9, 5), (9, 6), (9, 7)] yX4_readEither cX4_readEither 4 (some .boolean) 52 [.ref h0, .int x1] (tq_ri 0 1) := by
  refine tq_starti (by decide) (Nat.le_of_ble_eq_true rfl) (fun p e R s m args below meth c Q hC hret hS ls hl => ?_)
  have hC : tq_C p R s m args c X (tq_A Z) RX4 cX4_readEither 4 52 := hC
  have hx := hC.1.1
  have hb := hC.1.2.1
  have hown := hC.1.2.2.2.1
  have hts := hC.1.2.2.2.2
  have hl : lv_has ls 4 [(0, .ref h0), (1, .int x1)] := hl
  generalize hf0 : f = f0 at hret
  have hS : tq_S X Z (tq_A Z) s.heap f0 [(0, 0), (0, 1), (4, 1), (4, 2), (9, 3), (9, 4), (9, 5), (9, 6), (9, 7)] f s.heap [] := hf0 ▸ hS
  refine lv_aload_n hx hb dX4_readEither_0 rfl (lv_at hl 0 rfl) ?_
  refine lv_iload_n hx hb dX4_readEither_1 rfl (lv_at hl 1 rfl) ?_
  refine tq_callVi (As := [.int x1]) (rest := []) hC (c_X4_readBoth_0_0 l X Z _ h0 z_h0 x1 (tq_w i_x1 (by decide) (by decide))) k_X4_readBoth ql_RX4_211 (by decide) rfl (by decide) hS z_h0 rfl hl.1 rfl (Nat.le_of_ble_eq_true rfl) ⟨Nat.zero_le _, Nat.zero_le _⟩ dX4_readEither_2 (fun t_2 f1_2 H locs p_2 hS k_2 => ?_)
  refine lv_istore_n (lv' := [(2, .int t_2), (0, .ref h0), (1, .int x1)]) hx hb dX4_readEither_5 rfl hl (by decide) rfl (fun ls hl => ?_)
  refine lv_iconst (v := 0) hx hb dX4_readEither_6 (by decide) ?_
  refine lv_istore_n (lv' := [(3, .int 0), (2, .int t_2), (0, .ref h0), (1, .int x1)]) hx hb dX4_readEither_7 rfl hl (by decide) rfl (fun ls hl => ?_)
  have K_8 : ∀ (n_8 : Nat) (x3_8 : Int32) (x2_8 : Int32) (f : Nat → va_E) (H : Heap) (locs : List Loc) (ls : Array Slot), tq_S X Z (tq_A Z) s.heap f0 [(0, 0), (0, 1), (4, 1), (4, 2), (9, 3), (9, 4), (9, 5), (9, 6), (9, 7)] f H locs → tq_iv 0 1 x2_8 → tq_iv 0 1600 x3_8 → (2147483647 - x3_8.toInt).toNat < n_8 → lv_has ls 4 [(3, .int x3_8), (2, .int x2_8), (0, .ref h0), (1, .int x1)] → W p l e R s m args below meth c H locs 0 0 Q (F0 m 8 ls []) := by
    intro n_8
    induction n_8 with
    | zero => intro x3_8 x2_8 f H locs ls  hS i1_x2_8 i2_x3_8 hn_8; exact absurd hn_8 (Nat.not_lt_zero _)
    | succ n_8 ih_8 =>
      intro x3_8 x2_8 f H locs ls  hS i1_x2_8 i2_x3_8 hn_8 hl
      refine lv_iload_n hx hb dX4_readEither_8 rfl (lv_at hl 0 rfl) ?_
      refine lv_sipush (v := 1600) hx hb dX4_readEither_9 (by decide) ?_
      have K_63 : ∀ (f : Nat → va_E) (H : Heap) (locs : List Loc) (ls : Array Slot), tq_S X Z (tq_A Z) s.heap f0 [(0, 0), (0, 1), (4, 1), (4, 2), (9, 3), (9, 4), (9, 5), (9, 6), (9, 7)] f H locs → lv_has ls 4 [(2, .int x2_8)] → W p l e R s m args below meth c H locs 0 0 Q (F0 m 63 ls []) := by
        intro f H locs ls  hS hl
        refine lv_iload_n hx hb dX4_readEither_63 rfl (lv_at hl 0 rfl) ?_
        exact hret x2_8 _ _ _ _ _ (tq_nb i1_x2_8 (by decide) (by decide)) ⟨_, rfl, tq_w i1_x2_8 (by decide) (by decide)⟩ hS dX4_readEither_64
      refine lv_icmp_ge (tgt := 63) hx hb dX4_readEither_12 (by decide) (fun c_12 => ?_) (fun c_12 => ?_)
      · skip
        have i3_x3_8 : tq_iv 1600 1600 x3_8 := tq_cut i2_x3_8 (tq_leR c_12 (⟨by decide, by decide⟩ : tq_iv 1600 1600 1600) i2_x3_8) (by decide) (by decide)
        exact K_63 _ _ _ _ hS (lv_sub hl [1] rfl)
      · skip
        have i4_x3_8 : tq_iv 0 1599 x3_8 := tq_cut i2_x3_8 (tq_ltL (tq_nle c_12) i2_x3_8 (⟨by decide, by decide⟩ : tq_iv 1600 1600 1600)) (by decide) (by decide)
        refine lv_iload_n hx hb dX4_readEither_15 rfl (lv_at hl 1 rfl) ?_
        refine lv_if_eq (tgt := 63) hx hb dX4_readEither_16 (by decide) (fun c_16 => ?_) (fun c_16 => ?_)
        · skip
          have i5_x2_8 : tq_iv 0 0 x2_8 := tq_cut i1_x2_8 (tq_eqL c_16 (⟨by decide, by decide⟩ : tq_iv 0 0 0)) (by decide) (by decide)
          exact K_63 _ _ _ _ hS (lv_sub hl [1] rfl)
        · skip
          have i6_x2_8 : tq_iv 1 1 x2_8 := tq_w (tq_neLo c_16 i1_x2_8 (⟨by decide, by decide⟩ : tq_iv 0 0 0)) (by decide) (by decide)
          refine lv_aload_n hx hb dX4_readEither_19 rfl (lv_at hl 2 rfl) ?_
          refine gf_RX4_30 hC hS z_h0 dX4_readEither_20 (fun t_20 p_20 q_20 => ?_)
          refine gf_RX4_49 hC hS p_20 dX4_readEither_23 (fun t_23 p_23 q_23 => ?_)
          refine lv_bipush (v := 16) hx hb dX4_readEither_26 (by decide) ?_
          refine lv_icmp_ne (tgt := 63) hx hb dX4_readEither_28 (by decide) (fun c_28 => ?_) (fun c_28 => ?_)
          · skip
            exact K_63 _ _ _ _ hS (lv_sub hl [1] rfl)
          · skip
            have i7_t_23 : tq_iv 16 16 t_23 := tq_cut (tq_top t_23) (tq_eqL c_28 (⟨by decide, by decide⟩ : tq_iv 16 16 16)) (by decide) (by decide)
            refine lv_aload_n hx hb dX4_readEither_31 rfl (lv_at hl 2 rfl) ?_
            refine gf_RX4_30 hC hS z_h0 dX4_readEither_32 (fun t_32 p_32 q_32 => ?_)
            refine tq_callVv (As := []) (rest := []) hC (c_X9_advance l X Z _ t_32 p_32) k_X9_advance ql_RX4_66 (by decide) rfl (by decide) hS p_32 rfl hl.1 rfl (Nat.le_of_ble_eq_true rfl) ⟨Nat.zero_le _, Nat.zero_le _⟩ dX4_readEither_35 (fun f1_35 H locs hS k_35 => ?_)
            refine lv_aload_n hx hb dX4_readEither_38 rfl (lv_at hl 2 rfl) ?_
            refine lv_iload_n hx hb dX4_readEither_39 rfl (lv_at hl 3 rfl) ?_
            refine tq_callVi (As := [.int x1]) (rest := []) hC (c_X4_readBoth_0_0 l X Z _ h0 z_h0 x1 (tq_w i_x1 (by decide) (by decide))) k_X4_readBoth ql_RX4_211 (by decide) rfl (by decide) hS z_h0 rfl hl.1 rfl (Nat.le_of_ble_eq_true rfl) ⟨Nat.zero_le _, Nat.zero_le _⟩ dX4_readEither_40 (fun t_40 f1_40 H locs p_40 hS k_40 => ?_)
            refine lv_istore_n (lv' := [(2, .int t_40), (3, .int x3_8), (0, .ref h0), (1, .int x1)]) hx hb dX4_readEither_43 rfl hl (by decide) rfl (fun ls hl => ?_)
            refine lv_aload_n hx hb dX4_readEither_44 rfl (lv_at hl 2 rfl) ?_
            refine gf_RX4_12 hC hS z_h0 dX4_readEither_45 (fun t_45 p_45 q_45 => ?_)
            refine gf_RX4_214 hC hS p_45 dX4_readEither_48 (fun t_48 p_48 q_48 => ?_)
            refine lv_bipush (v := 6) hx hb dX4_readEither_51 (by decide) ?_
            refine lv_iconst (v := 0) hx hb dX4_readEither_53 (by decide) ?_
            refine tq_callVv (As := [.int 6, .int 0]) (rest := []) hC (c_X0_append l X Z _ t_48 p_48 6 0) k_X0_append ql_RX4_220 (by decide) rfl (by decide) hS p_48 rfl hl.1 rfl (Nat.le_of_ble_eq_true rfl) ⟨Nat.zero_le _, Nat.zero_le _⟩ dX4_readEither_54 (fun f1_54 H locs hS k_54 => ?_)
            obtain ⟨t_57, e_57⟩ : ∃ y : Int32, y = x3_8 + 1 := ⟨_, rfl⟩
            have i8_t_57 : tq_iv 1 1600 t_57 := tq_w (tq_add e_57 i4_x3_8 (⟨by decide, by decide⟩ : tq_iv 1 1 1) (by decide) (by decide)) (by decide) (by decide)
            refine lv_iinc (v := t_57) (lv' := [(3, .int t_57), (2, .int t_40), (0, .ref h0), (1, .int x1)]) hx hb dX4_readEither_57 hl (k := 1) rfl (by rw [e_57]; rfl) (by decide) rfl (fun ls hl => ?_)
            refine lv_goto (tgt := 8) hx hb dX4_readEither_60 (by decide) ?_
            exact ih_8 t_57 t_40 _ _ _ _ hS (tq_w p_40 (by decide) (by decide)) (tq_w i8_t_57 (by decide) (by decide)) (tq_up e_57 i4_x3_8 (⟨by decide, by decide⟩ : tq_iv 1 1 1) (by decide) (by decide) hn_8) (lv_sub hl [0, 1, 2, 3] rfl)
  exact K_8 _ 0 t_2 _ _ _ _ hS (tq_w p_2 (by decide) (by decide)) (tq_w (⟨by decide, by decide⟩ : tq_iv 0 0 0) (by decide) (by decide)) (Nat.lt_succ_self _) (lv_sub hl [0, 1, 2, 3] rfl)
set_option maxHeartbeats 4000000 in
set_option maxRecDepth 100000 in
theorem c_X6_hasDepth (l : Launch) (X : tq_X) (Z : tq_Z) (f : Nat → va_E) (h0 : Nat) (z_h0 : tq_z Z h0 (.inl 6)) (x1 : Int32) : tq_Mp l X Z f yX6_hasDepth cX6_hasDepth 2 (some .boolean) 0 [.ref h0, .int x1] (tq_ri 0 1) := by
  refine tq_startip (by decide) (Nat.le_of_ble_eq_true rfl) (fun p e R s m args below meth c Q hC hret hS ls hl => ?_)
  have hC : tq_C p R s m args c X (tq_A Z) RX6 cX6_hasDepth 2 0 := hC
  have hx := hC.1.1
  have hb := hC.1.2.1
  have hown := hC.1.2.2.2.1
  have hts := hC.1.2.2.2.2
  have hl : lv_has ls 2 [(0, .ref h0), (1, .int x1)] := hl
  refine lv_iload_n hx hb dX6_hasDepth_0 rfl (lv_at hl 1 rfl) ?_
  have K_17 : ∀ (y0_17 : Int32) (ls : Array Slot), tq_iv 0 1 y0_17 → lv_has ls 2 [] → W p l e R s m args below meth c s.heap [] 0 0 Q (F0 m 17 ls [.int y0_17]) := by
    intro y0_17 ls  i1_y0_17 hl
    exact hret y0_17 _ _ (tq_nb i1_y0_17 (by decide) (by decide)) ⟨_, rfl, tq_w i1_y0_17 (by decide) (by decide)⟩ dX6_hasDepth_17
  have K_16 : ∀ (ls : Array Slot), lv_has ls 2 [] → W p l e R s m args below meth c s.heap [] 0 0 Q (F0 m 16 ls []) := by
    intro  ls  hl
    refine lv_iconst (v := 0) hx hb dX6_hasDepth_16 (by decide) ?_
    exact K_17 0 _ (tq_w (⟨by decide, by decide⟩ : tq_iv 0 0 0) (by decide) (by decide)) (lv_sub hl [] rfl)
  refine lv_if_lt (tgt := 16) hx hb dX6_hasDepth_1 (by decide) (fun c_1 => ?_) (fun c_1 => ?_)
  · skip
    have i2_x1 : tq_iv (-2147483648) (-1) x1 := tq_cut (tq_top x1) (tq_ltL c_1 (tq_top x1) (⟨by decide, by decide⟩ : tq_iv 0 0 0)) (by decide) (by decide)
    exact K_16 _ (lv_sub hl [] rfl)
  · skip
    have i3_x1 : tq_iv 0 2147483647 x1 := tq_cut (tq_top x1) (tq_leR (tq_nlt c_1) (⟨by decide, by decide⟩ : tq_iv 0 0 0) (tq_top x1)) (by decide) (by decide)
    refine lv_iload_n hx hb dX6_hasDepth_4 rfl (lv_at hl 1 rfl) ?_
    refine lv_aload_n hx hb dX6_hasDepth_5 rfl (lv_at hl 0 rfl) ?_
    refine gf_RX6_22 hC hS z_h0 dX6_hasDepth_6 (fun t_6 p_6 q_6 => ?_)
    refine lv_icmp_ge (tgt := 16) hx hb dX6_hasDepth_9 (by decide) (fun c_9 => ?_) (fun c_9 => ?_)
    · skip
      exact K_16 _ (lv_sub hl [] rfl)
    · skip
      have i4_x1 : tq_iv 0 998 x1 := tq_cut i3_x1 (tq_ltL (tq_nle c_9) i3_x1 p_6) (by decide) (by decide)
      have i5_t_6 : tq_iv 1 999 t_6 := tq_cut p_6 (tq_ltR (tq_nle c_9) i3_x1 p_6) (by decide) (by decide)
      refine lv_iconst (v := 1) hx hb dX6_hasDepth_12 (by decide) ?_
      refine lv_goto (tgt := 17) hx hb dX6_hasDepth_13 (by decide) ?_
      exact K_17 1 _ (tq_w (⟨by decide, by decide⟩ : tq_iv 1 1 1) (by decide) (by decide)) (lv_sub hl [] rfl)
set_option maxHeartbeats 4000000 in
set_option maxRecDepth 100000 in
theorem c_X4_depthHere (l : Launch) (X : tq_X) (Z : tq_Z) (f : Nat → va_E) (h0 : Nat) (z_h0 : tq_z Z h0 (.inl 4)) : tq_M l X Z f [(4, 1), (4, 2)] yX4_depthHere cX4_depthHere 1 (some .int) 2 [.ref h0] (tq_ri (-2147483648) 2147483647) := by
  refine tq_starti (by decide) (Nat.le_of_ble_eq_true rfl) (fun p e R s m args below meth c Q hC hret hS ls hl => ?_)
  have hC : tq_C p R s m args c X (tq_A Z) RX4 cX4_depthHere 1 2 := hC
  have hx := hC.1.1
  have hb := hC.1.2.1
  have hown := hC.1.2.2.2.1
  have hts := hC.1.2.2.2.2
  have hl : lv_has ls 1 [(0, .ref h0)] := hl
  generalize hf0 : f = f0 at hret
  have hS : tq_S X Z (tq_A Z) s.heap f0 [(4, 1), (4, 2)] f s.heap [] := hf0 ▸ hS
  refine lv_aload_n hx hb dX4_depthHere_0 rfl (lv_at hl 0 rfl) ?_
  refine gf_RX4_30 hC hS z_h0 dX4_depthHere_1 (fun t_1 p_1 q_1 => ?_)
  refine gf_RX4_49 hC hS p_1 dX4_depthHere_4 (fun t_4 p_4 q_4 => ?_)
  refine lv_bipush (v := 24) hx hb dX4_depthHere_7 (by decide) ?_
  refine lv_icmp_eq (tgt := 19) hx hb dX4_depthHere_9 (by decide) (fun c_9 => ?_) (fun c_9 => ?_)
  · skip
    have i1_t_4 : tq_iv 24 24 t_4 := tq_cut (tq_top t_4) (tq_eqL c_9 (⟨by decide, by decide⟩ : tq_iv 24 24 24)) (by decide) (by decide)
    refine lv_aload_n hx hb dX4_depthHere_19 rfl (lv_at hl 0 rfl) ?_
    refine gf_RX4_12 hC hS z_h0 dX4_depthHere_20 (fun t_20 p_20 q_20 => ?_)
    refine gf_RX4_109 hC hS p_20 dX4_depthHere_23 (fun t_23 p_23 q_23 => ?_)
    refine lv_aload_n hx hb dX4_depthHere_26 rfl (lv_at hl 0 rfl) ?_
    refine gf_RX4_30 hC hS z_h0 dX4_depthHere_27 (fun t_27 p_27 q_27 => ?_)
    refine gf_RX4_106 hC hS p_27 dX4_depthHere_30 (fun t_30 p_30 q_30 => ?_)
    refine tq_callVpi (As := [.int t_30]) (rest := []) hC (c_X6_hasDepth l X Z _ t_23 p_23 t_30) k_X6_hasDepth ql_RX4_141 rfl (by decide) hS p_23 rfl hl.1 rfl (Nat.le_of_ble_eq_true rfl) ⟨Nat.zero_le _, Nat.zero_le _⟩ dX4_depthHere_33 (fun t_33 p_33 => ?_)
    refine lv_if_ne (tgt := 47) hx hb dX4_depthHere_36 (by decide) (fun c_36 => ?_) (fun c_36 => ?_)
    · skip
      have i2_t_33 : tq_iv 1 1 t_33 := tq_w (tq_neLo c_36 p_33 (⟨by decide, by decide⟩ : tq_iv 0 0 0)) (by decide) (by decide)
      refine lv_aload_n hx hb dX4_depthHere_47 rfl (lv_at hl 0 rfl) ?_
      refine gf_RX4_30 hC hS z_h0 dX4_depthHere_48 (fun t_48 p_48 q_48 => ?_)
      refine gf_RX4_106 hC hS p_48 dX4_depthHere_51 (fun t_51 p_51 q_51 => ?_)
      exact hret t_51 _ _ _ _ _ rfl ⟨_, rfl, tq_w (tq_top t_51) (by decide) (by decide)⟩ hS dX4_depthHere_54
    · skip
      have i3_t_33 : tq_iv 0 0 t_33 := tq_cut p_33 (tq_eqL c_36 (⟨by decide, by decide⟩ : tq_iv 0 0 0)) (by decide) (by decide)
      refine lv_aload_n hx hb dX4_depthHere_39 rfl (lv_at hl 0 rfl) ?_
      refine lv_iconst (v := 4) hx hb dX4_depthHere_40 (by decide) ?_
      refine tq_callVi (As := [.int 4]) (rest := []) hC (c_X4_blame l X Z _ h0 z_h0 4) k_X4_blame ql_RX4_59 (by decide) rfl (by decide) hS z_h0 rfl hl.1 rfl (Nat.le_of_ble_eq_true rfl) ⟨Nat.zero_le _, Nat.zero_le _⟩ dX4_depthHere_41 (fun t_41 f1_41 H locs p_41 hS k_41 => ?_)
      refine lv_pop hx hb dX4_depthHere_44 rfl ?_
      refine lv_iconst (v := -1) hx hb dX4_depthHere_45 (by decide) ?_
      exact hret (-1) _ _ _ _ _ rfl ⟨_, rfl, tq_w (⟨by decide, by decide⟩ : tq_iv (-1) (-1) (-1)) (by decide) (by decide)⟩ hS dX4_depthHere_46
  · skip
    refine lv_aload_n hx hb dX4_depthHere_12 rfl (lv_at hl 0 rfl) ?_
    refine tq_callVi (As := []) (rest := []) hC (c_X4_refuse l X Z _ h0 z_h0) k_X4_refuse ql_RX4_63 (by decide) rfl (by decide) hS z_h0 rfl hl.1 rfl (Nat.le_of_ble_eq_true rfl) ⟨Nat.zero_le _, Nat.zero_le _⟩ dX4_depthHere_13 (fun t_13 f1_13 H locs p_13 hS k_13 => ?_)
    refine lv_pop hx hb dX4_depthHere_16 rfl ?_
    refine lv_iconst (v := -1) hx hb dX4_depthHere_17 (by decide) ?_
    exact hret (-1) _ _ _ _ _ rfl ⟨_, rfl, tq_w (⟨by decide, by decide⟩ : tq_iv (-1) (-1) (-1)) (by decide) (by decide)⟩ hS dX4_depthHere_18
set_option maxHeartbeats 4000000 in
set_option maxRecDepth 100000 in
theorem c_X6_notch (l : Launch) (X : tq_X) (Z : tq_Z) (f : Nat → va_E) (x0 : Int32) (x1 : Int32) : tq_Mp l X Z f yX6_notch cX6_notch 2 (some .int) 0 [.int x0, .int x1] (tq_ri (-2147483648) 2147483647) := by
  refine tq_startip (by decide) (Nat.le_of_ble_eq_true rfl) (fun p e R s m args below meth c Q hC hret hS ls hl => ?_)
  have hC : tq_C p R s m args c X (tq_A Z) RX6 cX6_notch 2 0 := hC
  have hx := hC.1.1
  have hb := hC.1.2.1
  have hown := hC.1.2.2.2.1
  have hts := hC.1.2.2.2.2
  have hl : lv_has ls 2 [(0, .int x0), (1, .int x1)] := hl
  refine lv_iconst (v := 1) hx hb dX6_notch_0 (by decide) ?_
  refine lv_iload_n hx hb dX6_notch_1 rfl (lv_at hl 0 rfl) ?_
  refine lv_bipush (v := 6) hx hb dX6_notch_2 (by decide) ?_
  refine lv_imul hx hb dX6_notch_4 ?_
  refine lv_topi (fun t_4 e_4 => ?_)
  refine lv_iload_n hx hb dX6_notch_5 rfl (lv_at hl 1 rfl) ?_
  refine lv_iadd hx hb dX6_notch_6 ?_
  refine lv_topi (fun t_6 e_6 => ?_)
  refine lv_ishl hx hb dX6_notch_7 ?_
  refine lv_topi (fun t_7 e_7 => ?_)
  exact hret t_7 _ _ rfl ⟨_, rfl, tq_w (tq_top t_7) (by decide) (by decide)⟩ dX6_notch_8
set_option maxHeartbeats 4000000 in
set_option maxRecDepth 100000 in
theorem c_X7_put (l : Launch) (X : tq_X) (Z : tq_Z) (f : Nat → va_E) (h0 : Nat) (z_h0 : tq_z Z h0 (.inl 7)) (x1 : Int32) (x2 : Int32) : tq_M l X Z f [] yX7_put cX7_put 3 (none) 0 [.ref h0, .int x1, .int x2] tq_rv := by
  refine tq_startv (by decide) (Nat.le_of_ble_eq_true rfl) (fun p e R s m args below meth c Q hC hret hS ls hl => ?_)
  have hC : tq_C p R s m args c X (tq_A Z) RX7 cX7_put 3 0 := hC
  have hx := hC.1.1
  have hb := hC.1.2.1
  have hown := hC.1.2.2.2.1
  have hts := hC.1.2.2.2.2
  have hl : lv_has ls 3 [(0, .ref h0), (1, .int x1), (2, .int x2)] := hl
  generalize hf0 : f = f0 at hret
  have hS : tq_S X Z (tq_A Z) s.heap f0 [] f s.heap [] := hf0 ▸ hS
  refine lv_iload_n hx hb dX7_put_0 rfl (lv_at hl 1 rfl) ?_
  have K_17 : ∀ (f : Nat → va_E) (H : Heap) (locs : List Loc) (ls : Array Slot), tq_S X Z (tq_A Z) s.heap f0 [] f H locs → lv_has ls 3 [] → W p l e R s m args below meth c H locs 0 0 Q (F0 m 17 ls []) := by
    intro f H locs ls  hS hl
    exact hret _ _ _ _ _ rfl hS dX7_put_17
  refine lv_if_lt (tgt := 17) hx hb dX7_put_1 (by decide) (fun c_1 => ?_) (fun c_1 => ?_)
  · skip
    have i1_x1 : tq_iv (-2147483648) (-1) x1 := tq_cut (tq_top x1) (tq_ltL c_1 (tq_top x1) (⟨by decide, by decide⟩ : tq_iv 0 0 0)) (by decide) (by decide)
    exact K_17 _ _ _ _ hS (lv_sub hl [] rfl)
  · skip
    have i2_x1 : tq_iv 0 2147483647 x1 := tq_cut (tq_top x1) (tq_leR (tq_nlt c_1) (⟨by decide, by decide⟩ : tq_iv 0 0 0) (tq_top x1)) (by decide) (by decide)
    refine lv_iload_n hx hb dX7_put_4 rfl (lv_at hl 1 rfl) ?_
    refine lv_bipush (v := 35) hx hb dX7_put_5 (by decide) ?_
    refine lv_icmp_ge (tgt := 17) hx hb dX7_put_7 (by decide) (fun c_7 => ?_) (fun c_7 => ?_)
    · skip
      have i3_x1 : tq_iv 35 2147483647 x1 := tq_cut i2_x1 (tq_leR c_7 (⟨by decide, by decide⟩ : tq_iv 35 35 35) i2_x1) (by decide) (by decide)
      exact K_17 _ _ _ _ hS (lv_sub hl [] rfl)
    · skip
      have i4_x1 : tq_iv 0 34 x1 := tq_cut i2_x1 (tq_ltL (tq_nle c_7) i2_x1 (⟨by decide, by decide⟩ : tq_iv 35 35 35)) (by decide) (by decide)
      refine lv_aload_n hx hb dX7_put_10 rfl (lv_at hl 0 rfl) ?_
      refine gf_RX7_11 hC hS z_h0 dX7_put_11 (fun t_11 p_11 q_11 => ?_)
      refine lv_iload_n hx hb dX7_put_14 rfl (lv_at hl 1 rfl) ?_
      refine lv_iload_n hx hb dX7_put_15 rfl (lv_at hl 2 rfl) ?_
      refine tq_iast hC hS p_11 rfl (tq_vin i4_x1 (by decide) (by decide)) trivial dX7_put_16 (fun f H locs hS k_16 => ?_)
      exact K_17 _ _ _ _ hS (lv_sub hl [] rfl)
set_option maxHeartbeats 4000000 in
set_option maxRecDepth 100000 in
theorem c_X7_putBits (l : Launch) (X : tq_X) (Z : tq_Z) (f : Nat → va_E) (h0 : Nat) (z_h0 : tq_z Z h0 (.inl 7)) (x1 : Int32) (x2 : Int32) : tq_M l X Z f [] yX7_putBits cX7_putBits 3 (none) 1 [.ref h0, .int x1, .int x2] tq_rv := by
  refine tq_startv (by decide) (Nat.le_of_ble_eq_true rfl) (fun p e R s m args below meth c Q hC hret hS ls hl => ?_)
  have hC : tq_C p R s m args c X (tq_A Z) RX7 cX7_putBits 3 1 := hC
  have hx := hC.1.1
  have hb := hC.1.2.1
  have hown := hC.1.2.2.2.1
  have hts := hC.1.2.2.2.2
  have hl : lv_has ls 3 [(0, .ref h0), (1, .int x1), (2, .int x2)] := hl
  generalize hf0 : f = f0 at hret
  have hS : tq_S X Z (tq_A Z) s.heap f0 [] f s.heap [] := hf0 ▸ hS
  refine lv_aload_n hx hb dX7_putBits_0 rfl (lv_at hl 0 rfl) ?_
  refine lv_iload_n hx hb dX7_putBits_1 rfl (lv_at hl 1 rfl) ?_
  refine lv_iload_n hx hb dX7_putBits_2 rfl (lv_at hl 2 rfl) ?_
  refine tq_callVv (As := [.int x1, .int x2]) (rest := []) hC (c_X7_put l X Z _ h0 z_h0 x1 x2) k_X7_put ql_RX7_31 (by decide) rfl (by decide) hS z_h0 rfl hl.1 rfl (Nat.le_of_ble_eq_true rfl) ⟨Nat.zero_le _, Nat.zero_le _⟩ dX7_putBits_3 (fun f1_3 H locs hS k_3 => ?_)
  exact hret _ _ _ _ _ rfl hS dX7_putBits_6
set_option maxHeartbeats 4000000 in
set_option maxRecDepth 100000 in
theorem c_X7_putHolder (l : Launch) (X : tq_X) (Z : tq_Z) (f : Nat → va_E) (h0 : Nat) (z_h0 : tq_z Z h0 (.inl 7)) (x1 : Int32) (x2 : Int32) : tq_M l X Z f [] yX7_putHolder cX7_putHolder 3 (none) 1 [.ref h0, .int x1, .int x2] tq_rv := by
  refine tq_startv (by decide) (Nat.le_of_ble_eq_true rfl) (fun p e R s m args below meth c Q hC hret hS ls hl => ?_)
  have hC : tq_C p R s m args c X (tq_A Z) RX7 cX7_putHolder 3 1 := hC
  have hx := hC.1.1
  have hb := hC.1.2.1
  have hown := hC.1.2.2.2.1
  have hts := hC.1.2.2.2.2
  have hl : lv_has ls 3 [(0, .ref h0), (1, .int x1), (2, .int x2)] := hl
  generalize hf0 : f = f0 at hret
  have hS : tq_S X Z (tq_A Z) s.heap f0 [] f s.heap [] := hf0 ▸ hS
  refine lv_aload_n hx hb dX7_putHolder_0 rfl (lv_at hl 0 rfl) ?_
  refine lv_bipush (v := 16) hx hb dX7_putHolder_1 (by decide) ?_
  refine lv_iload_n hx hb dX7_putHolder_3 rfl (lv_at hl 1 rfl) ?_
  refine lv_iadd hx hb dX7_putHolder_4 ?_
  refine lv_topi (fun t_4 e_4 => ?_)
  refine lv_iload_n hx hb dX7_putHolder_5 rfl (lv_at hl 2 rfl) ?_
  refine tq_callVv (As := [.int t_4, .int x2]) (rest := []) hC (c_X7_put l X Z _ h0 z_h0 t_4 x2) k_X7_put ql_RX7_31 (by decide) rfl (by decide) hS z_h0 rfl hl.1 rfl (Nat.le_of_ble_eq_true rfl) ⟨Nat.zero_le _, Nat.zero_le _⟩ dX7_putHolder_6 (fun f1_6 H locs hS k_6 => ?_)
  exact hret _ _ _ _ _ rfl hS dX7_putHolder_9
set_option maxHeartbeats 4000000 in
set_option maxRecDepth 100000 in
theorem c_X4_readKey (l : Launch) (X : tq_X) (Z : tq_Z) (f : Nat → va_E) (h0 : Nat) (z_h0 : tq_z Z h0 (.inl 4)) : tq_M l X Z f [(3, 3), (4, 1), (4, 2), (9, 3), (9, 4), (9, 5), (9, 6), (9, 7)] yX4_readKey cX4_readKey 5 (some .boolean) 6 [.ref h0] (tq_ri 0 1) := by
  refine tq_starti (by decide) (Nat.le_of_ble_eq_true rfl) (fun p e R s m args below meth c Q hC hret hS ls hl => ?_)
  have hC : tq_C p R s m args c X (tq_A Z) RX4 cX4_readKey 5 6 := hC
  have hx := hC.1.1
  have hb := hC.1.2.1
  have hown := hC.1.2.2.2.1
  have hts := hC.1.2.2.2.2
  have hl : lv_has ls 5 [(0, .ref h0)] := hl
  generalize hf0 : f = f0 at hret
  have hS : tq_S X Z (tq_A Z) s.heap f0 [(3, 3), (4, 1), (4, 2), (9, 3), (9, 4), (9, 5), (9, 6), (9, 7)] f s.heap [] := hf0 ▸ hS
  obtain ⟨w0, p_w0, q_w0⟩ := tq_ghr hS z_h0 (k := 0) rfl
  obtain ⟨w1, p_w1, q_w1⟩ := tq_ghi hS p_w0 (k := 3) rfl
  refine lv_aload_n hx hb dX4_readKey_0 rfl (lv_at hl 0 rfl) ?_
  refine lv_iconst (v := 0) hx hb dX4_readKey_1 (by decide) ?_
  refine lv_aload_n hx hb dX4_readKey_2 rfl (lv_at hl 0 rfl) ?_
  refine gk_RX4_12 hC hS z_h0 q_w0 dX4_readKey_3 ?_
  refine gk_RX4_100 hC hS p_w0 q_w1 dX4_readKey_6 ?_
  refine lv_bipush (v := 8) hx hb dX4_readKey_9 (by decide) ?_
  refine tq_callV (As := [.int 0, .int w1, .int 8]) (rest := []) hC (c_X4_readNewName l X Z _ h0 z_h0 0 w1 8) k_X4_readNewName ql_RX4_144 (by decide) rfl (by decide) hS z_h0 rfl hl.1 rfl (Nat.le_of_ble_eq_true rfl) ⟨Nat.zero_le _, Nat.zero_le _⟩ dX4_readKey_11 (fun v_11 f1_11 H locs hv_11 hS k_11 => ?_)
  obtain ⟨t_11, rfl, p_11, g_11⟩ := hv_11
  refine W.eq (g2 := F0 m 14 ls (.int t_11 :: [])) rfl ?_
  have q1_11 := k_11 _ _ _ _ z_h0 (by decide) q_w0
  have q2_11 := k_11 _ _ _ _ p_w0 (by decide) q_w1
  refine lv_if_ne (tgt := 19) hx hb dX4_readKey_14 (by decide) (fun c_14 => ?_) (fun c_14 => ?_)
  · skip
    have i3_w1 : tq_iv 0 7 w1 := tq_cut p_w1 (tq_ltL (g_11 c_14) p_w1 (⟨by decide, by decide⟩ : tq_iv 8 8 8)) (by decide) (by decide)
    have i4_t_11 : tq_iv 1 1 t_11 := tq_w (tq_neLo c_14 p_11 (⟨by decide, by decide⟩ : tq_iv 0 0 0)) (by decide) (by decide)
    refine lv_iconst (v := 0) hx hb dX4_readKey_19 (by decide) ?_
    refine lv_istore_n (lv' := [(1, .int 0), (0, .ref h0)]) hx hb dX4_readKey_20 rfl hl (by decide) rfl (fun ls hl => ?_)
    refine lv_iconst (v := 0) hx hb dX4_readKey_21 (by decide) ?_
    refine lv_istore_n (lv' := [(2, .int 0), (1, .int 0), (0, .ref h0)]) hx hb dX4_readKey_22 rfl hl (by decide) rfl (fun ls hl => ?_)
    refine lv_iconst (v := 0) hx hb dX4_readKey_23 (by decide) ?_
    refine lv_istore_n (lv' := [(3, .int 0), (2, .int 0), (1, .int 0), (0, .ref h0)]) hx hb dX4_readKey_24 rfl hl (by decide) rfl (fun ls hl => ?_)
    have K_25 : ∀ (n_25 : Nat) (x3_25 : Int32) (x2_25 : Int32) (x1_25 : Int32) (w1_25 : Int32) (f : Nat → va_E) (H : Heap) (locs : List Loc) (ls : Array Slot), tq_S X Z (tq_A Z) s.heap f0 [(3, 3), (4, 1), (4, 2), (9, 3), (9, 4), (9, 5), (9, 6), (9, 7)] f H locs → tq_f f h0 0 (.ref w0) → tq_f f w0 3 (.int w1_25) → tq_iv 0 999 x3_25 → tq_iv 0 7 w1_25 → (2147483647 - x3_25.toInt).toNat < n_25 → lv_has ls 5 [(3, .int x3_25), (2, .int x2_25), (1, .int x1_25), (0, .ref h0)] → W p l e R s m args below meth c H locs 0 0 Q (F0 m 25 ls []) := by
      intro n_25
      induction n_25 with
      | zero => intro x3_25 x2_25 x1_25 w1_25 f H locs ls  hS fo0_25 fo1_25 i5_x3_25 i6_w1_25 hn_25; exact absurd hn_25 (Nat.not_lt_zero _)
      | succ n_25 ih_25 =>
        intro x3_25 x2_25 x1_25 w1_25 f H locs ls  hS fo0_25 fo1_25 i5_x3_25 i6_w1_25 hn_25 hl
        refine lv_iload_n hx hb dX4_readKey_25 rfl (lv_at hl 0 rfl) ?_
        refine lv_aload_n hx hb dX4_readKey_26 rfl (lv_at hl 3 rfl) ?_
        refine gk_RX4_12 hC hS z_h0 fo0_25 dX4_readKey_27 ?_
        refine gf_RX4_109 hC hS p_w0 dX4_readKey_30 (fun t_30 p_30 q_30 => ?_)
        refine gf_RX4_113 hC hS p_30 dX4_readKey_33 (fun t_33 p_33 q_33 => ?_)
        refine lv_icmp_ge (tgt := 108) hx hb dX4_readKey_36 (by decide) (fun c_36 => ?_) (fun c_36 => ?_)
        · skip
          refine lv_aload_n hx hb dX4_readKey_108 rfl (lv_at hl 3 rfl) ?_
          refine gk_RX4_12 hC hS z_h0 fo0_25 dX4_readKey_109 ?_
          refine gf_RX4_124 hC hS p_w0 dX4_readKey_112 (fun t_112 p_112 q_112 => ?_)
          refine lv_aload_n hx hb dX4_readKey_115 rfl (lv_at hl 3 rfl) ?_
          refine gk_RX4_12 hC hS z_h0 fo0_25 dX4_readKey_116 ?_
          refine gk_RX4_100 hC hS p_w0 fo1_25 dX4_readKey_119 ?_
          refine lv_iload_n hx hb dX4_readKey_122 rfl (lv_at hl 2 rfl) ?_
          refine tq_callVv (As := [.int w1_25, .int x1_25]) (rest := []) hC (c_X7_putBits l X Z _ t_112 p_112 w1_25 x1_25) k_X7_putBits ql_RX4_161 (by decide) rfl (by decide) hS p_112 rfl hl.1 rfl (Nat.le_of_ble_eq_true rfl) ⟨Nat.zero_le _, Nat.zero_le _⟩ dX4_readKey_123 (fun f1_123 H locs hS k_123 => ?_)
          have q7_123 := k_123 _ _ _ _ z_h0 (by decide) fo0_25
          have q8_123 := k_123 _ _ _ _ p_w0 (by decide) fo1_25
          refine lv_aload_n hx hb dX4_readKey_126 rfl (lv_at hl 3 rfl) ?_
          refine gk_RX4_12 hC hS z_h0 q7_123 dX4_readKey_127 ?_
          refine gf_RX4_124 hC hS p_w0 dX4_readKey_130 (fun t_130 p_130 q_130 => ?_)
          refine lv_aload_n hx hb dX4_readKey_133 rfl (lv_at hl 3 rfl) ?_
          refine gk_RX4_12 hC hS z_h0 q7_123 dX4_readKey_134 ?_
          refine gk_RX4_100 hC hS p_w0 q8_123 dX4_readKey_137 ?_
          refine lv_iconst (v := -1) hx hb dX4_readKey_140 (by decide) ?_
          refine tq_callVv (As := [.int w1_25, .int (-1)]) (rest := []) hC (c_X7_putHolder l X Z _ t_130 p_130 w1_25 (-1)) k_X7_putHolder ql_RX4_165 (by decide) rfl (by decide) hS p_130 rfl hl.1 rfl (Nat.le_of_ble_eq_true rfl) ⟨Nat.zero_le _, Nat.zero_le _⟩ dX4_readKey_141 (fun f1_141 H locs hS k_141 => ?_)
          have q9_141 := k_141 _ _ _ _ z_h0 (by decide) q7_123
          have q10_141 := k_141 _ _ _ _ p_w0 (by decide) q8_123
          refine lv_aload_n hx hb dX4_readKey_144 rfl (lv_at hl 3 rfl) ?_
          refine gk_RX4_12 hC hS z_h0 q9_141 dX4_readKey_145 ?_
          refine lv_dup hx hb dX4_readKey_148 rfl ?_
          refine gk_RX4_100 hC hS p_w0 q10_141 dX4_readKey_149 ?_
          refine lv_iconst (v := 1) hx hb dX4_readKey_152 (by decide) ?_
          refine lv_iadd hx hb dX4_readKey_153 ?_
          refine lv_topi (fun t_153 e_153 => ?_)
          have i11_t_153 : tq_iv 1 8 t_153 := tq_w (tq_add e_153 i6_w1_25 (⟨by decide, by decide⟩ : tq_iv 1 1 1) (by decide) (by decide)) (by decide) (by decide)
          refine pf_RX4_100 hC hS p_w0 (by decide) (tq_w i11_t_153 (by decide) (by decide)) dX4_readKey_154 (fun f H locs hS q_154 k_154 => ?_)
          have q12_154 := k_154 _ _ _ (Or.inl (tq_ne z_h0 p_w0 (fun q => by cases q))) q9_141
          refine lv_aload_n hx hb dX4_readKey_157 rfl (lv_at hl 3 rfl) ?_
          refine lv_bipush (v := 59) hx hb dX4_readKey_158 (by decide) ?_
          refine tq_callVi (As := [.int 59]) (rest := []) hC (c_X4_expect l X Z _ h0 z_h0 59) k_X4_expect ql_RX4_97 (by decide) rfl (by decide) hS z_h0 rfl hl.1 rfl (Nat.le_of_ble_eq_true rfl) ⟨Nat.zero_le _, Nat.zero_le _⟩ dX4_readKey_160 (fun t_160 f1_160 H locs p_160 hS k_160 => ?_)
          have q13_160 := k_160 _ _ _ _ z_h0 (by decide) q12_154
          have q14_160 := k_160 _ _ _ _ p_w0 (by decide) q_154
          exact hret t_160 _ _ _ _ _ (tq_nb p_160 (by decide) (by decide)) ⟨_, rfl, tq_w p_160 (by decide) (by decide)⟩ hS dX4_readKey_163
        · skip
          have i15_x3_25 : tq_iv 0 998 x3_25 := tq_cut i5_x3_25 (tq_ltL (tq_nle c_36) i5_x3_25 p_33) (by decide) (by decide)
          have i16_t_33 : tq_iv 1 999 t_33 := tq_cut p_33 (tq_ltR (tq_nle c_36) i5_x3_25 p_33) (by decide) (by decide)
          refine lv_aload_n hx hb dX4_readKey_39 rfl (lv_at hl 3 rfl) ?_
          refine tq_callVi (As := []) (rest := []) hC (c_X4_depthHere l X Z _ h0 z_h0) k_X4_depthHere ql_RX4_148 (by decide) rfl (by decide) hS z_h0 rfl hl.1 rfl (Nat.le_of_ble_eq_true rfl) ⟨Nat.zero_le _, Nat.zero_le _⟩ dX4_readKey_40 (fun t_40 f1_40 H locs p_40 hS k_40 => ?_)
          have q17_40 := k_40 _ _ _ _ z_h0 (by decide) fo0_25
          have q18_40 := k_40 _ _ _ _ p_w0 (by decide) fo1_25
          refine lv_istore (lv' := [(4, .int t_40), (3, .int x3_25), (2, .int x2_25), (1, .int x1_25), (0, .ref h0)]) hx hb dX4_readKey_43 hl (by decide) rfl (fun ls hl => ?_)
          refine lv_iload hx hb dX4_readKey_45 (lv_at hl 0 rfl) ?_
          refine lv_iconst (v := -1) hx hb dX4_readKey_47 (by decide) ?_
          refine lv_icmp_ne (tgt := 53) hx hb dX4_readKey_48 (by decide) (fun c_48 => ?_) (fun c_48 => ?_)
          · skip
            refine lv_iload_n hx hb dX4_readKey_53 rfl (lv_at hl 1 rfl) ?_
            have K_83 : ∀ (f : Nat → va_E) (H : Heap) (locs : List Loc) (ls : Array Slot), tq_S X Z (tq_A Z) s.heap f0 [(3, 3), (4, 1), (4, 2), (9, 3), (9, 4), (9, 5), (9, 6), (9, 7)] f H locs → tq_f f h0 0 (.ref w0) → tq_f f w0 3 (.int w1_25) → lv_has ls 5 [(4, .int t_40), (3, .int x3_25), (1, .int x1_25), (0, .ref h0)] → W p l e R s m args below meth c H locs 0 0 Q (F0 m 83 ls []) := by
              intro f H locs ls  hS fo0_83 fo1_83 hl
              refine lv_iload_n hx hb dX4_readKey_83 rfl (lv_at hl 2 rfl) ?_
              refine lv_iload_n hx hb dX4_readKey_84 rfl (lv_at hl 1 rfl) ?_
              refine lv_iload hx hb dX4_readKey_85 (lv_at hl 0 rfl) ?_
              refine tq_callSpi (As := [.int x3_25, .int t_40]) (rest := [.int x1_25]) hC (c_X6_notch l X Z _ x3_25 t_40) k_X6_notch ql_RX4_158 rfl (by decide) hS hl.1 rfl (Nat.le_of_ble_eq_true rfl) ⟨Nat.zero_le _, Nat.zero_le _⟩ dX4_readKey_87 (fun t_87 p_87 => ?_)
              refine lv_ior hx hb dX4_readKey_90 ?_
              refine lv_topi (fun t_90 e_90 => ?_)
              refine lv_istore_n (lv' := [(1, .int t_90), (4, .int t_40), (3, .int x3_25), (0, .ref h0)]) hx hb dX4_readKey_91 rfl hl (by decide) rfl (fun ls hl => ?_)
              refine lv_iload hx hb dX4_readKey_92 (lv_at hl 1 rfl) ?_
              refine lv_istore_n (lv' := [(2, .int t_40), (1, .int t_90), (4, .int t_40), (3, .int x3_25), (0, .ref h0)]) hx hb dX4_readKey_94 rfl hl (by decide) rfl (fun ls hl => ?_)
              refine lv_aload_n hx hb dX4_readKey_95 rfl (lv_at hl 4 rfl) ?_
              refine gf_RX4_30 hC hS z_h0 dX4_readKey_96 (fun t_96 p_96 q_96 => ?_)
              refine tq_callVv (As := []) (rest := []) hC (c_X9_advance l X Z _ t_96 p_96) k_X9_advance ql_RX4_66 (by decide) rfl (by decide) hS p_96 rfl hl.1 rfl (Nat.le_of_ble_eq_true rfl) ⟨Nat.zero_le _, Nat.zero_le _⟩ dX4_readKey_99 (fun f1_99 H locs hS k_99 => ?_)
              have q19_99 := k_99 _ _ _ _ z_h0 (by decide) fo0_83
              have q20_99 := k_99 _ _ _ _ p_w0 (by decide) fo1_83
              obtain ⟨t_102, e_102⟩ : ∃ y : Int32, y = x3_25 + 1 := ⟨_, rfl⟩
              have i21_t_102 : tq_iv 1 999 t_102 := tq_w (tq_add e_102 i15_x3_25 (⟨by decide, by decide⟩ : tq_iv 1 1 1) (by decide) (by decide)) (by decide) (by decide)
              refine lv_iinc (v := t_102) (lv' := [(3, .int t_102), (2, .int t_40), (1, .int t_90), (4, .int t_40), (0, .ref h0)]) hx hb dX4_readKey_102 hl (k := 3) rfl (by rw [e_102]; rfl) (by decide) rfl (fun ls hl => ?_)
              refine lv_goto (tgt := 25) hx hb dX4_readKey_105 (by decide) ?_
              exact ih_25 t_102 t_40 t_90 w1_25 _ _ _ _ hS q19_99 q20_99 (tq_w i21_t_102 (by decide) (by decide)) (tq_w i6_w1_25 (by decide) (by decide)) (tq_up e_102 i15_x3_25 (⟨by decide, by decide⟩ : tq_iv 1 1 1) (by decide) (by decide) hn_25) (lv_sub hl [0, 1, 2, 4] rfl)
            refine lv_if_le (tgt := 83) hx hb dX4_readKey_54 (by decide) (fun c_54 => ?_) (fun c_54 => ?_)
            · skip
              have i22_x3_25 : tq_iv 0 0 x3_25 := tq_cut i15_x3_25 (tq_leL c_54 i15_x3_25 (⟨by decide, by decide⟩ : tq_iv 0 0 0)) (by decide) (by decide)
              exact K_83 _ _ _ _ hS q17_40 q18_40 (lv_sub hl [0, 1, 3, 4] rfl)
            · skip
              have i23_x3_25 : tq_iv 1 998 x3_25 := tq_cut i15_x3_25 (tq_ltR (tq_nle c_54) (⟨by decide, by decide⟩ : tq_iv 0 0 0) i15_x3_25) (by decide) (by decide)
              refine lv_iload hx hb dX4_readKey_57 (lv_at hl 0 rfl) ?_
              refine lv_iload_n hx hb dX4_readKey_59 rfl (lv_at hl 2 rfl) ?_
              refine lv_isub hx hb dX4_readKey_60 ?_
              refine lv_topi (fun t_60 e_60 => ?_)
              refine va_mabs hx hb (hC.1.2.2.1.trans hl.1.symm) hown (hts _ ql_RX4_152) (hts _ qm_abs_s) (hts _ qm_i) (hts _ qm_abs_c) (Nat.le_trans (by decide) hC.2.2.1) (Nat.le_trans (Nat.le_of_ble_eq_true rfl) hC.2.2.2.1) (Nat.zero_le _) (Nat.zero_le _) dX4_readKey_61 ?_
              refine lv_topi (fun t_61 e_61 => ?_)
              refine lv_aload_n hx hb dX4_readKey_64 rfl (lv_at hl 4 rfl) ?_
              refine gk_RX4_12 hC hS z_h0 q17_40 dX4_readKey_65 ?_
              refine gf_RX4_109 hC hS p_w0 dX4_readKey_68 (fun t_68 p_68 q_68 => ?_)
              refine gf_RX4_121 hC hS p_68 dX4_readKey_71 (fun t_71 p_71 q_71 => ?_)
              refine lv_icmp_le (tgt := 83) hx hb dX4_readKey_74 (by decide) (fun c_74 => ?_) (fun c_74 => ?_)
              · skip
                have i24_t_61 : tq_iv (-2147483648) 999 t_61 := tq_cut (tq_top t_61) (tq_leL c_74 (tq_top t_61) p_71) (by decide) (by decide)
                exact K_83 _ _ _ _ hS q17_40 q18_40 (lv_sub hl [0, 1, 3, 4] rfl)
              · skip
                have i25_t_61 : tq_iv 1 2147483647 t_61 := tq_cut (tq_top t_61) (tq_ltR (tq_nle c_74) p_71 (tq_top t_61)) (by decide) (by decide)
                refine lv_aload_n hx hb dX4_readKey_77 rfl (lv_at hl 4 rfl) ?_
                refine lv_iconst (v := 4) hx hb dX4_readKey_78 (by decide) ?_
                refine tq_callVi (As := [.int 4]) (rest := []) hC (c_X4_blame l X Z _ h0 z_h0 4) k_X4_blame ql_RX4_59 (by decide) rfl (by decide) hS z_h0 rfl hl.1 rfl (Nat.le_of_ble_eq_true rfl) ⟨Nat.zero_le _, Nat.zero_le _⟩ dX4_readKey_79 (fun t_79 f1_79 H locs p_79 hS k_79 => ?_)
                have q26_79 := k_79 _ _ _ _ z_h0 (by decide) q17_40
                have q27_79 := k_79 _ _ _ _ p_w0 (by decide) q18_40
                exact hret t_79 _ _ _ _ _ (tq_nb p_79 (by decide) (by decide)) ⟨_, rfl, tq_w p_79 (by decide) (by decide)⟩ hS dX4_readKey_82
          · skip
            have i28_t_40 : tq_iv (-1) (-1) t_40 := tq_cut (tq_top t_40) (tq_eqL c_48 (⟨by decide, by decide⟩ : tq_iv (-1) (-1) (-1))) (by decide) (by decide)
            refine lv_iconst (v := 0) hx hb dX4_readKey_51 (by decide) ?_
            exact hret 0 _ _ _ _ _ (tq_nb (⟨by decide, by decide⟩ : tq_iv 0 0 0) (by decide) (by decide)) ⟨_, rfl, tq_w (⟨by decide, by decide⟩ : tq_iv 0 0 0) (by decide) (by decide)⟩ hS dX4_readKey_52
    exact K_25 _ 0 0 0 w1 _ _ _ _ hS q1_11 q2_11 (tq_w (⟨by decide, by decide⟩ : tq_iv 0 0 0) (by decide) (by decide)) (tq_w i3_w1 (by decide) (by decide)) (Nat.lt_succ_self _) (lv_sub hl [0, 1, 2, 3] rfl)
  · skip
    have i29_t_11 : tq_iv 0 0 t_11 := tq_cut p_11 (tq_eqL c_14 (⟨by decide, by decide⟩ : tq_iv 0 0 0)) (by decide) (by decide)
    refine lv_iconst (v := 0) hx hb dX4_readKey_17 (by decide) ?_
    exact hret 0 _ _ _ _ _ (tq_nb (⟨by decide, by decide⟩ : tq_iv 0 0 0) (by decide) (by decide)) ⟨_, rfl, tq_w (⟨by decide, by decide⟩ : tq_iv 0 0 0) (by decide) (by decide)⟩ hS dX4_readKey_18
set_option maxHeartbeats 4000000 in
set_option maxRecDepth 100000 in
theorem c_X4_readPart (l : Launch) (X : tq_X) (Z : tq_Z) (f : Nat → va_E) (h0 : Nat) (z_h0 : tq_z Z h0 (.inl 4)) (x1 : Int32) : tq_M l X Z f [(4, 1), (4, 2), (9, 3), (9, 4), (9, 5), (9, 6), (9, 7)] yX4_readPart cX4_readPart 5 (some .int) 5 [.ref h0, .int x1] (tq_ri (-2147483648) 2147483647) := by
  refine tq_starti (by decide) (Nat.le_of_ble_eq_true rfl) (fun p e R s m args below meth c Q hC hret hS ls hl => ?_)
  have hC : tq_C p R s m args c X (tq_A Z) RX4 cX4_readPart 5 5 := hC
  have hx := hC.1.1
  have hb := hC.1.2.1
  have hown := hC.1.2.2.2.1
  have hts := hC.1.2.2.2.2
  have hl : lv_has ls 5 [(0, .ref h0), (1, .int x1)] := hl
  generalize hf0 : f = f0 at hret
  have hS : tq_S X Z (tq_A Z) s.heap f0 [(4, 1), (4, 2), (9, 3), (9, 4), (9, 5), (9, 6), (9, 7)] f s.heap [] := hf0 ▸ hS
  refine lv_iconst (v := 0) hx hb dX4_readPart_0 (by decide) ?_
  refine lv_istore_n (lv' := [(2, .int 0), (0, .ref h0), (1, .int x1)]) hx hb dX4_readPart_1 rfl hl (by decide) rfl (fun ls hl => ?_)
  refine lv_iconst (v := 0) hx hb dX4_readPart_2 (by decide) ?_
  refine lv_istore_n (lv' := [(3, .int 0), (2, .int 0), (0, .ref h0), (1, .int x1)]) hx hb dX4_readPart_3 rfl hl (by decide) rfl (fun ls hl => ?_)
  have K_4 : ∀ (n_4 : Nat) (x3_4 : Int32) (x2_4 : Int32) (f : Nat → va_E) (H : Heap) (locs : List Loc) (ls : Array Slot), tq_S X Z (tq_A Z) s.heap f0 [(4, 1), (4, 2), (9, 3), (9, 4), (9, 5), (9, 6), (9, 7)] f H locs → tq_iv 0 7 x3_4 → (2147483647 - x3_4.toInt).toNat < n_4 → lv_has ls 5 [(3, .int x3_4), (2, .int x2_4), (0, .ref h0), (1, .int x1)] → W p l e R s m args below meth c H locs 0 0 Q (F0 m 4 ls []) := by
    intro n_4
    induction n_4 with
    | zero => intro x3_4 x2_4 f H locs ls  hS i1_x3_4 hn_4; exact absurd hn_4 (Nat.not_lt_zero _)
    | succ n_4 ih_4 =>
      intro x3_4 x2_4 f H locs ls  hS i1_x3_4 hn_4 hl
      refine lv_iload_n hx hb dX4_readPart_4 rfl (lv_at hl 0 rfl) ?_
      refine lv_bipush (v := 6) hx hb dX4_readPart_5 (by decide) ?_
      refine lv_icmp_gt (tgt := 86) hx hb dX4_readPart_7 (by decide) (fun c_7 => ?_) (fun c_7 => ?_)
      · skip
        have i2_x3_4 : tq_iv 7 7 x3_4 := tq_cut i1_x3_4 (tq_ltR c_7 (⟨by decide, by decide⟩ : tq_iv 6 6 6) i1_x3_4) (by decide) (by decide)
        refine lv_iconst (v := 0) hx hb dX4_readPart_86 (by decide) ?_
        exact hret 0 _ _ _ _ _ rfl ⟨_, rfl, tq_w (⟨by decide, by decide⟩ : tq_iv 0 0 0) (by decide) (by decide)⟩ hS dX4_readPart_87
      · skip
        have i3_x3_4 : tq_iv 0 6 x3_4 := tq_cut i1_x3_4 (tq_leL (tq_nlt c_7) i1_x3_4 (⟨by decide, by decide⟩ : tq_iv 6 6 6)) (by decide) (by decide)
        refine lv_aload_n hx hb dX4_readPart_10 rfl (lv_at hl 2 rfl) ?_
        refine tq_callVi (As := []) (rest := []) hC (c_X4_depthHere l X Z _ h0 z_h0) k_X4_depthHere ql_RX4_148 (by decide) rfl (by decide) hS z_h0 rfl hl.1 rfl (Nat.le_of_ble_eq_true rfl) ⟨Nat.zero_le _, Nat.zero_le _⟩ dX4_readPart_11 (fun t_11 f1_11 H locs p_11 hS k_11 => ?_)
        refine lv_istore (lv' := [(4, .int t_11), (3, .int x3_4), (2, .int x2_4), (0, .ref h0), (1, .int x1)]) hx hb dX4_readPart_14 hl (by decide) rfl (fun ls hl => ?_)
        refine lv_iload hx hb dX4_readPart_16 (lv_at hl 0 rfl) ?_
        refine lv_iconst (v := -1) hx hb dX4_readPart_18 (by decide) ?_
        refine lv_icmp_ne (tgt := 24) hx hb dX4_readPart_19 (by decide) (fun c_19 => ?_) (fun c_19 => ?_)
        · skip
          refine lv_iload_n hx hb dX4_readPart_24 rfl (lv_at hl 2 rfl) ?_
          refine lv_iload_n hx hb dX4_readPart_25 rfl (lv_at hl 4 rfl) ?_
          refine lv_iload hx hb dX4_readPart_26 (lv_at hl 0 rfl) ?_
          refine tq_callSpi (As := [.int x1, .int t_11]) (rest := [.int x2_4]) hC (c_X6_notch l X Z _ x1 t_11) k_X6_notch ql_RX4_158 rfl (by decide) hS hl.1 rfl (Nat.le_of_ble_eq_true rfl) ⟨Nat.zero_le _, Nat.zero_le _⟩ dX4_readPart_28 (fun t_28 p_28 => ?_)
          refine lv_iand hx hb dX4_readPart_31 ?_
          refine lv_topi (fun t_31 e_31 => ?_)
          refine lv_if_eq (tgt := 43) hx hb dX4_readPart_32 (by decide) (fun c_32 => ?_) (fun c_32 => ?_)
          · skip
            have i4_t_31 : tq_iv 0 0 t_31 := tq_cut (tq_top t_31) (tq_eqL c_32 (⟨by decide, by decide⟩ : tq_iv 0 0 0)) (by decide) (by decide)
            refine lv_iload_n hx hb dX4_readPart_43 rfl (lv_at hl 2 rfl) ?_
            refine lv_iload_n hx hb dX4_readPart_44 rfl (lv_at hl 4 rfl) ?_
            refine lv_iload hx hb dX4_readPart_45 (lv_at hl 0 rfl) ?_
            refine tq_callSpi (As := [.int x1, .int t_11]) (rest := [.int x2_4]) hC (c_X6_notch l X Z _ x1 t_11) k_X6_notch ql_RX4_158 rfl (by decide) hS hl.1 rfl (Nat.le_of_ble_eq_true rfl) ⟨Nat.zero_le _, Nat.zero_le _⟩ dX4_readPart_47 (fun t_47 p_47 => ?_)
            refine lv_ior hx hb dX4_readPart_50 ?_
            refine lv_topi (fun t_50 e_50 => ?_)
            refine lv_istore_n (lv' := [(2, .int t_50), (4, .int t_11), (3, .int x3_4), (0, .ref h0), (1, .int x1)]) hx hb dX4_readPart_51 rfl hl (by decide) rfl (fun ls hl => ?_)
            refine lv_aload_n hx hb dX4_readPart_52 rfl (lv_at hl 3 rfl) ?_
            refine gf_RX4_30 hC hS z_h0 dX4_readPart_53 (fun t_53 p_53 q_53 => ?_)
            refine tq_callVv (As := []) (rest := []) hC (c_X9_advance l X Z _ t_53 p_53) k_X9_advance ql_RX4_66 (by decide) rfl (by decide) hS p_53 rfl hl.1 rfl (Nat.le_of_ble_eq_true rfl) ⟨Nat.zero_le _, Nat.zero_le _⟩ dX4_readPart_56 (fun f1_56 H locs hS k_56 => ?_)
            refine lv_aload_n hx hb dX4_readPart_59 rfl (lv_at hl 3 rfl) ?_
            refine gf_RX4_30 hC hS z_h0 dX4_readPart_60 (fun t_60 p_60 q_60 => ?_)
            refine gf_RX4_49 hC hS p_60 dX4_readPart_63 (fun t_63 p_63 q_63 => ?_)
            refine lv_bipush (v := 47) hx hb dX4_readPart_66 (by decide) ?_
            refine lv_icmp_eq (tgt := 73) hx hb dX4_readPart_68 (by decide) (fun c_68 => ?_) (fun c_68 => ?_)
            · skip
              have i5_t_63 : tq_iv 47 47 t_63 := tq_cut (tq_top t_63) (tq_eqL c_68 (⟨by decide, by decide⟩ : tq_iv 47 47 47)) (by decide) (by decide)
              refine lv_aload_n hx hb dX4_readPart_73 rfl (lv_at hl 3 rfl) ?_
              refine gf_RX4_30 hC hS z_h0 dX4_readPart_74 (fun t_74 p_74 q_74 => ?_)
              refine tq_callVv (As := []) (rest := []) hC (c_X9_advance l X Z _ t_74 p_74) k_X9_advance ql_RX4_66 (by decide) rfl (by decide) hS p_74 rfl hl.1 rfl (Nat.le_of_ble_eq_true rfl) ⟨Nat.zero_le _, Nat.zero_le _⟩ dX4_readPart_77 (fun f1_77 H locs hS k_77 => ?_)
              obtain ⟨t_80, e_80⟩ : ∃ y : Int32, y = x3_4 + 1 := ⟨_, rfl⟩
              have i6_t_80 : tq_iv 1 7 t_80 := tq_w (tq_add e_80 i3_x3_4 (⟨by decide, by decide⟩ : tq_iv 1 1 1) (by decide) (by decide)) (by decide) (by decide)
              refine lv_iinc (v := t_80) (lv' := [(3, .int t_80), (2, .int t_50), (4, .int t_11), (0, .ref h0), (1, .int x1)]) hx hb dX4_readPart_80 hl (k := 2) rfl (by rw [e_80]; rfl) (by decide) rfl (fun ls hl => ?_)
              refine lv_goto (tgt := 4) hx hb dX4_readPart_83 (by decide) ?_
              exact ih_4 t_80 t_50 _ _ _ _ hS (tq_w i6_t_80 (by decide) (by decide)) (tq_up e_80 i3_x3_4 (⟨by decide, by decide⟩ : tq_iv 1 1 1) (by decide) (by decide) hn_4) (lv_sub hl [0, 1, 3, 4] rfl)
            · skip
              refine lv_iload_n hx hb dX4_readPart_71 rfl (lv_at hl 0 rfl) ?_
              exact hret t_50 _ _ _ _ _ rfl ⟨_, rfl, tq_w (tq_top t_50) (by decide) (by decide)⟩ hS dX4_readPart_72
          · skip
            refine lv_aload_n hx hb dX4_readPart_35 rfl (lv_at hl 3 rfl) ?_
            refine lv_iconst (v := 3) hx hb dX4_readPart_36 (by decide) ?_
            refine tq_callVi (As := [.int 3]) (rest := []) hC (c_X4_blame l X Z _ h0 z_h0 3) k_X4_blame ql_RX4_59 (by decide) rfl (by decide) hS z_h0 rfl hl.1 rfl (Nat.le_of_ble_eq_true rfl) ⟨Nat.zero_le _, Nat.zero_le _⟩ dX4_readPart_37 (fun t_37 f1_37 H locs p_37 hS k_37 => ?_)
            refine lv_pop hx hb dX4_readPart_40 rfl ?_
            refine lv_iconst (v := 0) hx hb dX4_readPart_41 (by decide) ?_
            exact hret 0 _ _ _ _ _ rfl ⟨_, rfl, tq_w (⟨by decide, by decide⟩ : tq_iv 0 0 0) (by decide) (by decide)⟩ hS dX4_readPart_42
        · skip
          have i7_t_11 : tq_iv (-1) (-1) t_11 := tq_cut (tq_top t_11) (tq_eqL c_19 (⟨by decide, by decide⟩ : tq_iv (-1) (-1) (-1))) (by decide) (by decide)
          refine lv_iconst (v := 0) hx hb dX4_readPart_22 (by decide) ?_
          exact hret 0 _ _ _ _ _ rfl ⟨_, rfl, tq_w (⟨by decide, by decide⟩ : tq_iv 0 0 0) (by decide) (by decide)⟩ hS dX4_readPart_23
  exact K_4 _ 0 0 _ _ _ _ hS (tq_w (⟨by decide, by decide⟩ : tq_iv 0 0 0) (by decide) (by decide)) (Nat.lt_succ_self _) (lv_sub hl [0, 1, 2, 3] rfl)
set_option maxHeartbeats 4000000 in
set_option maxRecDepth 100000 in
theorem c_X7_putPins (l : Launch) (X : tq_X) (Z : tq_Z) (f : Nat → va_E) (h0 : Nat) (z_h0 : tq_z Z h0 (.inl 7)) (x1 : Int32) (x2 : Int32) : tq_M l X Z f [] yX7_putPins cX7_putPins 3 (none) 1 [.ref h0, .int x1, .int x2] tq_rv := by
  refine tq_startv (by decide) (Nat.le_of_ble_eq_true rfl) (fun p e R s m args below meth c Q hC hret hS ls hl => ?_)
  have hC : tq_C p R s m args c X (tq_A Z) RX7 cX7_putPins 3 1 := hC
  have hx := hC.1.1
  have hb := hC.1.2.1
  have hown := hC.1.2.2.2.1
  have hts := hC.1.2.2.2.2
  have hl : lv_has ls 3 [(0, .ref h0), (1, .int x1), (2, .int x2)] := hl
  generalize hf0 : f = f0 at hret
  have hS : tq_S X Z (tq_A Z) s.heap f0 [] f s.heap [] := hf0 ▸ hS
  refine lv_aload_n hx hb dX7_putPins_0 rfl (lv_at hl 0 rfl) ?_
  refine lv_bipush (v := 24) hx hb dX7_putPins_1 (by decide) ?_
  refine lv_iload_n hx hb dX7_putPins_3 rfl (lv_at hl 1 rfl) ?_
  refine lv_iadd hx hb dX7_putPins_4 ?_
  refine lv_topi (fun t_4 e_4 => ?_)
  refine lv_iload_n hx hb dX7_putPins_5 rfl (lv_at hl 2 rfl) ?_
  refine tq_callVv (As := [.int t_4, .int x2]) (rest := []) hC (c_X7_put l X Z _ h0 z_h0 t_4 x2) k_X7_put ql_RX7_31 (by decide) rfl (by decide) hS z_h0 rfl hl.1 rfl (Nat.le_of_ble_eq_true rfl) ⟨Nat.zero_le _, Nat.zero_le _⟩ dX7_putPins_6 (fun f1_6 H locs hS k_6 => ?_)
  exact hret _ _ _ _ _ rfl hS dX7_putPins_9
set_option maxHeartbeats 4000000 in
set_option maxRecDepth 100000 in
theorem c_X4_readLock (l : Launch) (X : tq_X) (Z : tq_Z) (f : Nat → va_E) (h0 : Nat) (z_h0 : tq_z Z h0 (.inl 4)) : tq_M l X Z f [(3, 4), (4, 1), (4, 2), (9, 3), (9, 4), (9, 5), (9, 6), (9, 7)] yX4_readLock cX4_readLock 4 (some .boolean) 6 [.ref h0] (tq_ri 0 1) := by
  refine tq_starti (by decide) (Nat.le_of_ble_eq_true rfl) (fun p e R s m args below meth c Q hC hret hS ls hl => ?_)
  have hC : tq_C p R s m args c X (tq_A Z) RX4 cX4_readLock 4 6 := hC
  have hx := hC.1.1
  have hb := hC.1.2.1
  have hown := hC.1.2.2.2.1
  have hts := hC.1.2.2.2.2
  have hl : lv_has ls 4 [(0, .ref h0)] := hl
  generalize hf0 : f = f0 at hret
  have hS : tq_S X Z (tq_A Z) s.heap f0 [(3, 4), (4, 1), (4, 2), (9, 3), (9, 4), (9, 5), (9, 6), (9, 7)] f s.heap [] := hf0 ▸ hS
  refine lv_aload_n hx hb dX4_readLock_0 rfl (lv_at hl 0 rfl) ?_
  refine lv_iconst (v := 1) hx hb dX4_readLock_1 (by decide) ?_
  refine lv_aload_n hx hb dX4_readLock_2 rfl (lv_at hl 0 rfl) ?_
  refine gf_RX4_12 hC hS z_h0 dX4_readLock_3 (fun t_3 p_3 q_3 => ?_)
  refine gf_RX4_103 hC hS p_3 dX4_readLock_6 (fun t_6 p_6 q_6 => ?_)
  refine lv_bipush (v := 6) hx hb dX4_readLock_9 (by decide) ?_
  refine tq_callV (As := [.int 1, .int t_6, .int 6]) (rest := []) hC (c_X4_readNewName l X Z _ h0 z_h0 1 t_6 6) k_X4_readNewName ql_RX4_144 (by decide) rfl (by decide) hS z_h0 rfl hl.1 rfl (Nat.le_of_ble_eq_true rfl) ⟨Nat.zero_le _, Nat.zero_le _⟩ dX4_readLock_11 (fun v_11 f1_11 H locs hv_11 hS k_11 => ?_)
  obtain ⟨t_11, rfl, p_11, g_11⟩ := hv_11
  refine W.eq (g2 := F0 m 14 ls (.int t_11 :: [])) rfl ?_
  refine lv_if_ne (tgt := 19) hx hb dX4_readLock_14 (by decide) (fun c_14 => ?_) (fun c_14 => ?_)
  · skip
    have i1_t_6 : tq_iv (-2147483648) 5 t_6 := tq_cut (tq_top t_6) (tq_ltL (g_11 c_14) (tq_top t_6) (⟨by decide, by decide⟩ : tq_iv 6 6 6)) (by decide) (by decide)
    have i2_t_11 : tq_iv 1 1 t_11 := tq_w (tq_neLo c_14 p_11 (⟨by decide, by decide⟩ : tq_iv 0 0 0)) (by decide) (by decide)
    refine lv_iconst (v := 0) hx hb dX4_readLock_19 (by decide) ?_
    refine lv_istore_n (lv' := [(1, .int 0), (0, .ref h0)]) hx hb dX4_readLock_20 rfl hl (by decide) rfl (fun ls hl => ?_)
    refine lv_iconst (v := 0) hx hb dX4_readLock_21 (by decide) ?_
    refine lv_istore_n (lv' := [(2, .int 0), (1, .int 0), (0, .ref h0)]) hx hb dX4_readLock_22 rfl hl (by decide) rfl (fun ls hl => ?_)
    have K_23 : ∀ (n_23 : Nat) (x2_23 : Int32) (x1_23 : Int32) (f : Nat → va_E) (H : Heap) (locs : List Loc) (ls : Array Slot), tq_S X Z (tq_A Z) s.heap f0 [(3, 4), (4, 1), (4, 2), (9, 3), (9, 4), (9, 5), (9, 6), (9, 7)] f H locs → tq_iv 0 999 x2_23 → (2147483647 - x2_23.toInt).toNat < n_23 → lv_has ls 4 [(2, .int x2_23), (1, .int x1_23), (0, .ref h0)] → W p l e R s m args below meth c H locs 0 0 Q (F0 m 23 ls []) := by
      intro n_23
      induction n_23 with
      | zero => intro x2_23 x1_23 f H locs ls  hS i3_x2_23 hn_23; exact absurd hn_23 (Nat.not_lt_zero _)
      | succ n_23 ih_23 =>
        intro x2_23 x1_23 f H locs ls  hS i3_x2_23 hn_23 hl
        refine lv_iload_n hx hb dX4_readLock_23 rfl (lv_at hl 0 rfl) ?_
        refine lv_aload_n hx hb dX4_readLock_24 rfl (lv_at hl 2 rfl) ?_
        refine gf_RX4_12 hC hS z_h0 dX4_readLock_25 (fun t_25 p_25 q_25 => ?_)
        refine gf_RX4_109 hC hS p_25 dX4_readLock_28 (fun t_28 p_28 q_28 => ?_)
        refine gf_RX4_113 hC hS p_28 dX4_readLock_31 (fun t_31 p_31 q_31 => ?_)
        refine lv_icmp_ge (tgt := 59) hx hb dX4_readLock_34 (by decide) (fun c_34 => ?_) (fun c_34 => ?_)
        · skip
          refine lv_aload_n hx hb dX4_readLock_59 rfl (lv_at hl 2 rfl) ?_
          refine gf_RX4_12 hC hS z_h0 dX4_readLock_60 (fun t_60 p_60 q_60 => ?_)
          refine gf_RX4_124 hC hS p_60 dX4_readLock_63 (fun t_63 p_63 q_63 => ?_)
          refine lv_aload_n hx hb dX4_readLock_66 rfl (lv_at hl 2 rfl) ?_
          refine gf_RX4_12 hC hS z_h0 dX4_readLock_67 (fun t_67 p_67 q_67 => ?_)
          refine gf_RX4_103 hC hS p_67 dX4_readLock_70 (fun t_70 p_70 q_70 => ?_)
          refine lv_iload_n hx hb dX4_readLock_73 rfl (lv_at hl 1 rfl) ?_
          refine tq_callVv (As := [.int t_70, .int x1_23]) (rest := []) hC (c_X7_putPins l X Z _ t_63 p_63 t_70 x1_23) k_X7_putPins ql_RX4_171 (by decide) rfl (by decide) hS p_63 rfl hl.1 rfl (Nat.le_of_ble_eq_true rfl) ⟨Nat.zero_le _, Nat.zero_le _⟩ dX4_readLock_74 (fun f1_74 H locs hS k_74 => ?_)
          refine lv_aload_n hx hb dX4_readLock_77 rfl (lv_at hl 2 rfl) ?_
          refine gf_RX4_12 hC hS z_h0 dX4_readLock_78 (fun t_78 p_78 q_78 => ?_)
          refine lv_dup hx hb dX4_readLock_81 rfl ?_
          refine gf_RX4_103 hC hS p_78 dX4_readLock_82 (fun t_82 p_82 q_82 => ?_)
          refine lv_iconst (v := 1) hx hb dX4_readLock_85 (by decide) ?_
          refine lv_iadd hx hb dX4_readLock_86 ?_
          refine lv_topi (fun t_86 e_86 => ?_)
          refine pf_RX4_103 hC hS p_78 (by decide) trivial dX4_readLock_87 (fun f H locs hS q_87 k_87 => ?_)
          refine lv_aload_n hx hb dX4_readLock_90 rfl (lv_at hl 2 rfl) ?_
          refine lv_bipush (v := 59) hx hb dX4_readLock_91 (by decide) ?_
          refine tq_callVi (As := [.int 59]) (rest := []) hC (c_X4_expect l X Z _ h0 z_h0 59) k_X4_expect ql_RX4_97 (by decide) rfl (by decide) hS z_h0 rfl hl.1 rfl (Nat.le_of_ble_eq_true rfl) ⟨Nat.zero_le _, Nat.zero_le _⟩ dX4_readLock_93 (fun t_93 f1_93 H locs p_93 hS k_93 => ?_)
          exact hret t_93 _ _ _ _ _ (tq_nb p_93 (by decide) (by decide)) ⟨_, rfl, tq_w p_93 (by decide) (by decide)⟩ hS dX4_readLock_96
        · skip
          have i4_x2_23 : tq_iv 0 998 x2_23 := tq_cut i3_x2_23 (tq_ltL (tq_nle c_34) i3_x2_23 p_31) (by decide) (by decide)
          have i5_t_31 : tq_iv 1 999 t_31 := tq_cut p_31 (tq_ltR (tq_nle c_34) i3_x2_23 p_31) (by decide) (by decide)
          refine lv_aload_n hx hb dX4_readLock_37 rfl (lv_at hl 2 rfl) ?_
          refine lv_iload_n hx hb dX4_readLock_38 rfl (lv_at hl 0 rfl) ?_
          refine tq_callVi (As := [.int x2_23]) (rest := []) hC (c_X4_readPart l X Z _ h0 z_h0 x2_23) k_X4_readPart ql_RX4_168 (by decide) rfl (by decide) hS z_h0 rfl hl.1 rfl (Nat.le_of_ble_eq_true rfl) ⟨Nat.zero_le _, Nat.zero_le _⟩ dX4_readLock_39 (fun t_39 f1_39 H locs p_39 hS k_39 => ?_)
          refine lv_istore_n (lv' := [(3, .int t_39), (2, .int x2_23), (1, .int x1_23), (0, .ref h0)]) hx hb dX4_readLock_42 rfl hl (by decide) rfl (fun ls hl => ?_)
          refine lv_iload_n hx hb dX4_readLock_43 rfl (lv_at hl 0 rfl) ?_
          refine lv_if_ne (tgt := 49) hx hb dX4_readLock_44 (by decide) (fun c_44 => ?_) (fun c_44 => ?_)
          · skip
            refine lv_iload_n hx hb dX4_readLock_49 rfl (lv_at hl 2 rfl) ?_
            refine lv_iload_n hx hb dX4_readLock_50 rfl (lv_at hl 0 rfl) ?_
            refine lv_ior hx hb dX4_readLock_51 ?_
            refine lv_topi (fun t_51 e_51 => ?_)
            refine lv_istore_n (lv' := [(1, .int t_51), (3, .int t_39), (2, .int x2_23), (0, .ref h0)]) hx hb dX4_readLock_52 rfl hl (by decide) rfl (fun ls hl => ?_)
            obtain ⟨t_53, e_53⟩ : ∃ y : Int32, y = x2_23 + 1 := ⟨_, rfl⟩
            have i6_t_53 : tq_iv 1 999 t_53 := tq_w (tq_add e_53 i4_x2_23 (⟨by decide, by decide⟩ : tq_iv 1 1 1) (by decide) (by decide)) (by decide) (by decide)
            refine lv_iinc (v := t_53) (lv' := [(2, .int t_53), (1, .int t_51), (3, .int t_39), (0, .ref h0)]) hx hb dX4_readLock_53 hl (k := 2) rfl (by rw [e_53]; rfl) (by decide) rfl (fun ls hl => ?_)
            refine lv_goto (tgt := 23) hx hb dX4_readLock_56 (by decide) ?_
            exact ih_23 t_53 t_51 _ _ _ _ hS (tq_w i6_t_53 (by decide) (by decide)) (tq_up e_53 i4_x2_23 (⟨by decide, by decide⟩ : tq_iv 1 1 1) (by decide) (by decide) hn_23) (lv_sub hl [0, 1, 3] rfl)
          · skip
            have i7_t_39 : tq_iv 0 0 t_39 := tq_cut (tq_top t_39) (tq_eqL c_44 (⟨by decide, by decide⟩ : tq_iv 0 0 0)) (by decide) (by decide)
            refine lv_iconst (v := 0) hx hb dX4_readLock_47 (by decide) ?_
            exact hret 0 _ _ _ _ _ (tq_nb (⟨by decide, by decide⟩ : tq_iv 0 0 0) (by decide) (by decide)) ⟨_, rfl, tq_w (⟨by decide, by decide⟩ : tq_iv 0 0 0) (by decide) (by decide)⟩ hS dX4_readLock_48
    exact K_23 _ 0 0 _ _ _ _ hS (tq_w (⟨by decide, by decide⟩ : tq_iv 0 0 0) (by decide) (by decide)) (Nat.lt_succ_self _) (lv_sub hl [0, 1, 2] rfl)
  · skip
    have i8_t_11 : tq_iv 0 0 t_11 := tq_cut p_11 (tq_eqL c_14 (⟨by decide, by decide⟩ : tq_iv 0 0 0)) (by decide) (by decide)
    refine lv_iconst (v := 0) hx hb dX4_readLock_17 (by decide) ?_
    exact hret 0 _ _ _ _ _ (tq_nb (⟨by decide, by decide⟩ : tq_iv 0 0 0) (by decide) (by decide)) ⟨_, rfl, tq_w (⟨by decide, by decide⟩ : tq_iv 0 0 0) (by decide) (by decide)⟩ hS dX4_readLock_18
set_option maxHeartbeats 4000000 in
set_option maxRecDepth 100000 in
theorem c_X7_putSeed (l : Launch) (X : tq_X) (Z : tq_Z) (f : Nat → va_E) (h0 : Nat) (z_h0 : tq_z Z h0 (.inl 7)) (x1 : Int32) : tq_M l X Z f [] yX7_putSeed cX7_putSeed 2 (none) 1 [.ref h0, .int x1] tq_rv := by
  refine tq_startv (by decide) (Nat.le_of_ble_eq_true rfl) (fun p e R s m args below meth c Q hC hret hS ls hl => ?_)
  have hC : tq_C p R s m args c X (tq_A Z) RX7 cX7_putSeed 2 1 := hC
  have hx := hC.1.1
  have hb := hC.1.2.1
  have hown := hC.1.2.2.2.1
  have hts := hC.1.2.2.2.2
  have hl : lv_has ls 2 [(0, .ref h0), (1, .int x1)] := hl
  generalize hf0 : f = f0 at hret
  have hS : tq_S X Z (tq_A Z) s.heap f0 [] f s.heap [] := hf0 ▸ hS
  refine lv_aload_n hx hb dX7_putSeed_0 rfl (lv_at hl 0 rfl) ?_
  refine lv_bipush (v := 34) hx hb dX7_putSeed_1 (by decide) ?_
  refine lv_iload_n hx hb dX7_putSeed_3 rfl (lv_at hl 1 rfl) ?_
  refine tq_callVv (As := [.int 34, .int x1]) (rest := []) hC (c_X7_put l X Z _ h0 z_h0 34 x1) k_X7_put ql_RX7_31 (by decide) rfl (by decide) hS z_h0 rfl hl.1 rfl (Nat.le_of_ble_eq_true rfl) ⟨Nat.zero_le _, Nat.zero_le _⟩ dX7_putSeed_4 (fun f1_4 H locs hS k_4 => ?_)
  exact hret _ _ _ _ _ rfl hS dX7_putSeed_7
set_option maxHeartbeats 4000000 in
set_option maxRecDepth 100000 in
theorem c_X4_readOnce (l : Launch) (X : tq_X) (Z : tq_Z) (f : Nat → va_E) (h0 : Nat) (z_h0 : tq_z Z h0 (.inl 4)) (x1 : Int32) (i_x1 : tq_iv 0 2147483647 x1) (x2 : Int32) (i_x2 : tq_iv (-2147483648) 999 x2) : tq_M l X Z f [(4, 1), (4, 2), (4, 5), (6, 0), (6, 1), (6, 2), (9, 3), (9, 4), (9, 5), (9, 6), (9, 7)] yX4_readOnce cX4_readOnce 6 (some .boolean) 6 [.ref h0, .int x1, .int x2] (tq_ri 0 1) := by
  refine tq_starti (by decide) (Nat.le_of_ble_eq_true rfl) (fun p e R s m args below meth c Q hC hret hS ls hl => ?_)
  have hC : tq_C p R s m args c X (tq_A Z) RX4 cX4_readOnce 6 6 := hC
  have hx := hC.1.1
  have hb := hC.1.2.1
  have hown := hC.1.2.2.2.1
  have hts := hC.1.2.2.2.2
  have hl : lv_has ls 6 [(0, .ref h0), (1, .int x1), (2, .int x2)] := hl
  generalize hf0 : f = f0 at hret
  have hS : tq_S X Z (tq_A Z) s.heap f0 [(4, 1), (4, 2), (4, 5), (6, 0), (6, 1), (6, 2), (9, 3), (9, 4), (9, 5), (9, 6), (9, 7)] f s.heap [] := hf0 ▸ hS
  refine lv_aload_n hx hb dX4_readOnce_0 rfl (lv_at hl 0 rfl) ?_
  refine gf_RX4_30 hC hS z_h0 dX4_readOnce_1 (fun t_1 p_1 q_1 => ?_)
  refine gf_RX4_49 hC hS p_1 dX4_readOnce_4 (fun t_4 p_4 q_4 => ?_)
  refine lv_istore_n (lv' := [(3, .int t_4), (0, .ref h0), (1, .int x1), (2, .int x2)]) hx hb dX4_readOnce_7 rfl hl (by decide) rfl (fun ls hl => ?_)
  refine lv_aload_n hx hb dX4_readOnce_8 rfl (lv_at hl 1 rfl) ?_
  refine gf_RX4_12 hC hS z_h0 dX4_readOnce_9 (fun t_9 p_9 q_9 => ?_)
  refine gf_RX4_100 hC hS p_9 dX4_readOnce_12 (fun t_12 p_12 q_12 => ?_)
  have K_33 : ∀ (y0_33 : Int32) (f : Nat → va_E) (H : Heap) (locs : List Loc) (ls : Array Slot), tq_S X Z (tq_A Z) s.heap f0 [(4, 1), (4, 2), (4, 5), (6, 0), (6, 1), (6, 2), (9, 3), (9, 4), (9, 5), (9, 6), (9, 7)] f H locs → tq_iv 0 1 y0_33 → lv_has ls 6 [(3, .int t_4), (0, .ref h0), (1, .int x1), (2, .int x2)] → W p l e R s m args below meth c H locs 0 0 Q (F0 m 33 ls [.int y0_33]) := by
    intro y0_33 f H locs ls  hS i1_y0_33 hl
    refine lv_istore (lv' := [(4, .int y0_33), (3, .int t_4), (0, .ref h0), (1, .int x1), (2, .int x2)]) hx hb dX4_readOnce_33 hl (by decide) rfl (fun ls hl => ?_)
    refine lv_iload hx hb dX4_readOnce_35 (lv_at hl 0 rfl) ?_
    have K_51 : ∀ (f : Nat → va_E) (H : Heap) (locs : List Loc) (ls : Array Slot), tq_S X Z (tq_A Z) s.heap f0 [(4, 1), (4, 2), (4, 5), (6, 0), (6, 1), (6, 2), (9, 3), (9, 4), (9, 5), (9, 6), (9, 7)] f H locs → lv_has ls 6 [(3, .int t_4), (0, .ref h0), (1, .int x1), (2, .int x2)] → W p l e R s m args below meth c H locs 0 0 Q (F0 m 51 ls []) := by
      intro f H locs ls  hS hl
      refine lv_aload_n hx hb dX4_readOnce_51 rfl (lv_at hl 1 rfl) ?_
      refine tq_callVi (As := []) (rest := []) hC (c_X4_beginOnce l X Z _ h0 z_h0) k_X4_beginOnce ql_RX4_91 (by decide) rfl (by decide) hS z_h0 rfl hl.1 rfl (Nat.le_of_ble_eq_true rfl) ⟨Nat.zero_le _, Nat.zero_le _⟩ dX4_readOnce_52 (fun t_52 f1_52 H locs p_52 hS k_52 => ?_)
      refine lv_if_ne (tgt := 60) hx hb dX4_readOnce_55 (by decide) (fun c_55 => ?_) (fun c_55 => ?_)
      · skip
        have i2_t_52 : tq_iv 1 1 t_52 := tq_w (tq_neLo c_55 p_52 (⟨by decide, by decide⟩ : tq_iv 0 0 0)) (by decide) (by decide)
        refine lv_aload_n hx hb dX4_readOnce_60 rfl (lv_at hl 1 rfl) ?_
        refine gf_RX4_30 hC hS z_h0 dX4_readOnce_61 (fun t_61 p_61 q_61 => ?_)
        refine gf_RX4_49 hC hS p_61 dX4_readOnce_64 (fun t_64 p_64 q_64 => ?_)
        refine lv_bipush (v := 24) hx hb dX4_readOnce_67 (by decide) ?_
        refine lv_icmp_eq (tgt := 77) hx hb dX4_readOnce_69 (by decide) (fun c_69 => ?_) (fun c_69 => ?_)
        · skip
          have i3_t_64 : tq_iv 24 24 t_64 := tq_cut (tq_top t_64) (tq_eqL c_69 (⟨by decide, by decide⟩ : tq_iv 24 24 24)) (by decide) (by decide)
          refine lv_aload_n hx hb dX4_readOnce_77 rfl (lv_at hl 1 rfl) ?_
          refine gf_RX4_30 hC hS z_h0 dX4_readOnce_78 (fun t_78 p_78 q_78 => ?_)
          refine gf_RX4_106 hC hS p_78 dX4_readOnce_81 (fun t_81 p_81 q_81 => ?_)
          refine lv_istore (lv' := [(5, .int t_81), (3, .int t_4), (0, .ref h0), (1, .int x1), (2, .int x2)]) hx hb dX4_readOnce_84 hl (by decide) rfl (fun ls hl => ?_)
          refine lv_iload hx hb dX4_readOnce_86 (lv_at hl 0 rfl) ?_
          refine lv_iload_n hx hb dX4_readOnce_88 rfl (lv_at hl 3 rfl) ?_
          have K_98 : ∀ (f : Nat → va_E) (H : Heap) (locs : List Loc) (ls : Array Slot), tq_S X Z (tq_A Z) s.heap f0 [(4, 1), (4, 2), (4, 5), (6, 0), (6, 1), (6, 2), (9, 3), (9, 4), (9, 5), (9, 6), (9, 7)] f H locs → lv_has ls 6 [(0, .ref h0)] → W p l e R s m args below meth c H locs 0 0 Q (F0 m 98 ls []) := by
            intro f H locs ls  hS hl
            refine lv_aload_n hx hb dX4_readOnce_98 rfl (lv_at hl 0 rfl) ?_
            refine lv_iconst (v := 4) hx hb dX4_readOnce_99 (by decide) ?_
            refine tq_callVi (As := [.int 4]) (rest := []) hC (c_X4_blame l X Z _ h0 z_h0 4) k_X4_blame ql_RX4_59 (by decide) rfl (by decide) hS z_h0 rfl hl.1 rfl (Nat.le_of_ble_eq_true rfl) ⟨Nat.zero_le _, Nat.zero_le _⟩ dX4_readOnce_100 (fun t_100 f1_100 H locs p_100 hS k_100 => ?_)
            exact hret t_100 _ _ _ _ _ (tq_nb p_100 (by decide) (by decide)) ⟨_, rfl, tq_w p_100 (by decide) (by decide)⟩ hS dX4_readOnce_103
          refine lv_icmp_lt (tgt := 98) hx hb dX4_readOnce_89 (by decide) (fun c_89 => ?_) (fun c_89 => ?_)
          · skip
            have i4_t_81 : tq_iv (-2147483648) 2147483646 t_81 := tq_cut (tq_top t_81) (tq_ltL c_89 (tq_top t_81) i_x1) (by decide) (by decide)
            exact K_98 _ _ _ _ hS (lv_sub hl [2] rfl)
          · skip
            have i5_t_81 : tq_iv 0 2147483647 t_81 := tq_cut (tq_top t_81) (tq_leR (tq_nlt c_89) i_x1 (tq_top t_81)) (by decide) (by decide)
            refine lv_iload hx hb dX4_readOnce_92 (lv_at hl 0 rfl) ?_
            refine lv_iload_n hx hb dX4_readOnce_94 rfl (lv_at hl 4 rfl) ?_
            refine lv_icmp_le (tgt := 104) hx hb dX4_readOnce_95 (by decide) (fun c_95 => ?_) (fun c_95 => ?_)
            · skip
              have i6_t_81 : tq_iv 0 999 t_81 := tq_cut i5_t_81 (tq_leL c_95 i5_t_81 i_x2) (by decide) (by decide)
              have i7_x2 : tq_iv 0 999 x2 := tq_cut i_x2 (tq_leR c_95 i5_t_81 i_x2) (by decide) (by decide)
              refine lv_iload_n hx hb dX4_readOnce_104 rfl (lv_at hl 1 rfl) ?_
              have K_175 : ∀ (f : Nat → va_E) (H : Heap) (locs : List Loc) (ls : Array Slot), tq_S X Z (tq_A Z) s.heap f0 [(4, 1), (4, 2), (4, 5), (6, 0), (6, 1), (6, 2), (9, 3), (9, 4), (9, 5), (9, 6), (9, 7)] f H locs → lv_has ls 6 [(0, .ref h0)] → W p l e R s m args below meth c H locs 0 0 Q (F0 m 175 ls []) := by
                intro f H locs ls  hS hl
                refine lv_aload_n hx hb dX4_readOnce_175 rfl (lv_at hl 0 rfl) ?_
                refine gf_RX4_30 hC hS z_h0 dX4_readOnce_176 (fun t_176 p_176 q_176 => ?_)
                refine tq_callVv (As := []) (rest := []) hC (c_X9_advance l X Z _ t_176 p_176) k_X9_advance ql_RX4_66 (by decide) rfl (by decide) hS p_176 rfl hl.1 rfl (Nat.le_of_ble_eq_true rfl) ⟨Nat.zero_le _, Nat.zero_le _⟩ dX4_readOnce_179 (fun f1_179 H locs hS k_179 => ?_)
                refine lv_aload_n hx hb dX4_readOnce_182 rfl (lv_at hl 0 rfl) ?_
                refine lv_bipush (v := 59) hx hb dX4_readOnce_183 (by decide) ?_
                refine tq_callVi (As := [.int 59]) (rest := []) hC (c_X4_expect l X Z _ h0 z_h0 59) k_X4_expect ql_RX4_97 (by decide) rfl (by decide) hS z_h0 rfl hl.1 rfl (Nat.le_of_ble_eq_true rfl) ⟨Nat.zero_le _, Nat.zero_le _⟩ dX4_readOnce_185 (fun t_185 f1_185 H locs p_185 hS k_185 => ?_)
                exact hret t_185 _ _ _ _ _ (tq_nb p_185 (by decide) (by decide)) ⟨_, rfl, tq_w p_185 (by decide) (by decide)⟩ hS dX4_readOnce_188
              refine lv_if_ne (tgt := 123) hx hb dX4_readOnce_105 (by decide) (fun c_105 => ?_) (fun c_105 => ?_)
              · skip
                refine lv_iload_n hx hb dX4_readOnce_123 rfl (lv_at hl 1 rfl) ?_
                refine lv_iconst (v := 1) hx hb dX4_readOnce_124 (by decide) ?_
                refine lv_icmp_ne (tgt := 143) hx hb dX4_readOnce_125 (by decide) (fun c_125 => ?_) (fun c_125 => ?_)
                · skip
                  refine lv_iload_n hx hb dX4_readOnce_143 rfl (lv_at hl 1 rfl) ?_
                  refine lv_iconst (v := 2) hx hb dX4_readOnce_144 (by decide) ?_
                  refine lv_icmp_ne (tgt := 163) hx hb dX4_readOnce_145 (by decide) (fun c_145 => ?_) (fun c_145 => ?_)
                  · skip
                    refine lv_aload_n hx hb dX4_readOnce_163 rfl (lv_at hl 2 rfl) ?_
                    refine gf_RX4_12 hC hS z_h0 dX4_readOnce_164 (fun t_164 p_164 q_164 => ?_)
                    refine gf_RX4_124 hC hS p_164 dX4_readOnce_167 (fun t_167 p_167 q_167 => ?_)
                    refine lv_iload hx hb dX4_readOnce_170 (lv_at hl 0 rfl) ?_
                    refine tq_callVv (As := [.int t_81]) (rest := []) hC (c_X7_putSeed l X Z _ t_167 p_167 t_81) k_X7_putSeed ql_RX4_128 (by decide) rfl (by decide) hS p_167 rfl hl.1 rfl (Nat.le_of_ble_eq_true rfl) ⟨Nat.zero_le _, Nat.zero_le _⟩ dX4_readOnce_172 (fun f1_172 H locs hS k_172 => ?_)
                    exact K_175 _ _ _ _ hS (lv_sub hl [2] rfl)
                  · skip
                    have i8_t_4 : tq_iv 2 2 t_4 := tq_cut (tq_top t_4) (tq_eqL c_145 (⟨by decide, by decide⟩ : tq_iv 2 2 2)) (by decide) (by decide)
                    refine lv_aload_n hx hb dX4_readOnce_148 rfl (lv_at hl 2 rfl) ?_
                    refine gf_RX4_12 hC hS z_h0 dX4_readOnce_149 (fun t_149 p_149 q_149 => ?_)
                    refine gf_RX4_109 hC hS p_149 dX4_readOnce_152 (fun t_152 p_152 q_152 => ?_)
                    refine lv_iload hx hb dX4_readOnce_155 (lv_at hl 0 rfl) ?_
                    refine pf_RX4_121 hC hS p_152 (by decide) (tq_w i6_t_81 (by decide) (by decide)) dX4_readOnce_157 (fun f H locs hS q_157 k_157 => ?_)
                    refine lv_goto (tgt := 175) hx hb dX4_readOnce_160 (by decide) ?_
                    exact K_175 _ _ _ _ hS (lv_sub hl [2] rfl)
                · skip
                  have i9_t_4 : tq_iv 1 1 t_4 := tq_cut (tq_top t_4) (tq_eqL c_125 (⟨by decide, by decide⟩ : tq_iv 1 1 1)) (by decide) (by decide)
                  refine lv_aload_n hx hb dX4_readOnce_128 rfl (lv_at hl 2 rfl) ?_
                  refine gf_RX4_12 hC hS z_h0 dX4_readOnce_129 (fun t_129 p_129 q_129 => ?_)
                  refine gf_RX4_109 hC hS p_129 dX4_readOnce_132 (fun t_132 p_132 q_132 => ?_)
                  refine lv_iload hx hb dX4_readOnce_135 (lv_at hl 0 rfl) ?_
                  refine pf_RX4_118 hC hS p_132 (by decide) (tq_w i6_t_81 (by decide) (by decide)) dX4_readOnce_137 (fun f H locs hS q_137 k_137 => ?_)
                  refine lv_goto (tgt := 175) hx hb dX4_readOnce_140 (by decide) ?_
                  exact K_175 _ _ _ _ hS (lv_sub hl [2] rfl)
              · skip
                have i10_t_4 : tq_iv 0 0 t_4 := tq_cut (tq_top t_4) (tq_eqL c_105 (⟨by decide, by decide⟩ : tq_iv 0 0 0)) (by decide) (by decide)
                refine lv_aload_n hx hb dX4_readOnce_108 rfl (lv_at hl 2 rfl) ?_
                refine gf_RX4_12 hC hS z_h0 dX4_readOnce_109 (fun t_109 p_109 q_109 => ?_)
                refine gf_RX4_109 hC hS p_109 dX4_readOnce_112 (fun t_112 p_112 q_112 => ?_)
                refine lv_iload hx hb dX4_readOnce_115 (lv_at hl 0 rfl) ?_
                refine pf_RX4_113 hC hS p_112 (by decide) (tq_w i6_t_81 (by decide) (by decide)) dX4_readOnce_117 (fun f H locs hS q_117 k_117 => ?_)
                refine lv_goto (tgt := 175) hx hb dX4_readOnce_120 (by decide) ?_
                exact K_175 _ _ _ _ hS (lv_sub hl [2] rfl)
            · skip
              exact K_98 _ _ _ _ hS (lv_sub hl [2] rfl)
        · skip
          refine lv_aload_n hx hb dX4_readOnce_72 rfl (lv_at hl 1 rfl) ?_
          refine tq_callVi (As := []) (rest := []) hC (c_X4_refuse l X Z _ h0 z_h0) k_X4_refuse ql_RX4_63 (by decide) rfl (by decide) hS z_h0 rfl hl.1 rfl (Nat.le_of_ble_eq_true rfl) ⟨Nat.zero_le _, Nat.zero_le _⟩ dX4_readOnce_73 (fun t_73 f1_73 H locs p_73 hS k_73 => ?_)
          exact hret t_73 _ _ _ _ _ (tq_nb p_73 (by decide) (by decide)) ⟨_, rfl, tq_w p_73 (by decide) (by decide)⟩ hS dX4_readOnce_76
      · skip
        have i11_t_52 : tq_iv 0 0 t_52 := tq_cut p_52 (tq_eqL c_55 (⟨by decide, by decide⟩ : tq_iv 0 0 0)) (by decide) (by decide)
        refine lv_iconst (v := 0) hx hb dX4_readOnce_58 (by decide) ?_
        exact hret 0 _ _ _ _ _ (tq_nb (⟨by decide, by decide⟩ : tq_iv 0 0 0) (by decide) (by decide)) ⟨_, rfl, tq_w (⟨by decide, by decide⟩ : tq_iv 0 0 0) (by decide) (by decide)⟩ hS dX4_readOnce_59
    refine lv_if_eq (tgt := 51) hx hb dX4_readOnce_37 (by decide) (fun c_37 => ?_) (fun c_37 => ?_)
    · skip
      have i12_y0_33 : tq_iv 0 0 y0_33 := tq_cut i1_y0_33 (tq_eqL c_37 (⟨by decide, by decide⟩ : tq_iv 0 0 0)) (by decide) (by decide)
      exact K_51 _ _ _ _ hS (lv_sub hl [1, 2, 3, 4] rfl)
    · skip
      have i13_y0_33 : tq_iv 1 1 y0_33 := tq_w (tq_neLo c_37 i1_y0_33 (⟨by decide, by decide⟩ : tq_iv 0 0 0)) (by decide) (by decide)
      refine lv_iload_n hx hb dX4_readOnce_40 rfl (lv_at hl 1 rfl) ?_
      refine lv_bipush (v := 11) hx hb dX4_readOnce_41 (by decide) ?_
      refine lv_icmp_eq (tgt := 51) hx hb dX4_readOnce_43 (by decide) (fun c_43 => ?_) (fun c_43 => ?_)
      · skip
        have i14_t_4 : tq_iv 11 11 t_4 := tq_cut (tq_top t_4) (tq_eqL c_43 (⟨by decide, by decide⟩ : tq_iv 11 11 11)) (by decide) (by decide)
        exact K_51 _ _ _ _ hS (lv_sub hl [1, 2, 3, 4] rfl)
      · skip
        refine lv_aload_n hx hb dX4_readOnce_46 rfl (lv_at hl 2 rfl) ?_
        refine tq_callVi (As := []) (rest := []) hC (c_X4_refuse l X Z _ h0 z_h0) k_X4_refuse ql_RX4_63 (by decide) rfl (by decide) hS z_h0 rfl hl.1 rfl (Nat.le_of_ble_eq_true rfl) ⟨Nat.zero_le _, Nat.zero_le _⟩ dX4_readOnce_47 (fun t_47 f1_47 H locs p_47 hS k_47 => ?_)
        exact hret t_47 _ _ _ _ _ (tq_nb p_47 (by decide) (by decide)) ⟨_, rfl, tq_w p_47 (by decide) (by decide)⟩ hS dX4_readOnce_50
  have K_28 : ∀ (f : Nat → va_E) (H : Heap) (locs : List Loc) (ls : Array Slot), tq_S X Z (tq_A Z) s.heap f0 [(4, 1), (4, 2), (4, 5), (6, 0), (6, 1), (6, 2), (9, 3), (9, 4), (9, 5), (9, 6), (9, 7)] f H locs → lv_has ls 6 [(3, .int t_4), (0, .ref h0), (1, .int x1), (2, .int x2)] → W p l e R s m args below meth c H locs 0 0 Q (F0 m 28 ls []) := by
    intro f H locs ls  hS hl
    refine lv_iconst (v := 1) hx hb dX4_readOnce_28 (by decide) ?_
    refine lv_goto (tgt := 33) hx hb dX4_readOnce_29 (by decide) ?_
    exact K_33 1 _ _ _ _ hS (tq_w (⟨by decide, by decide⟩ : tq_iv 1 1 1) (by decide) (by decide)) (lv_sub hl [0, 1, 2, 3] rfl)
  refine lv_if_gt (tgt := 28) hx hb dX4_readOnce_15 (by decide) (fun c_15 => ?_) (fun c_15 => ?_)
  · skip
    have i15_t_12 : tq_iv 1 8 t_12 := tq_cut p_12 (tq_ltR c_15 (⟨by decide, by decide⟩ : tq_iv 0 0 0) p_12) (by decide) (by decide)
    exact K_28 _ _ _ _ hS (lv_sub hl [0, 1, 2, 3] rfl)
  · skip
    have i16_t_12 : tq_iv 0 0 t_12 := tq_cut p_12 (tq_leL (tq_nlt c_15) p_12 (⟨by decide, by decide⟩ : tq_iv 0 0 0)) (by decide) (by decide)
    refine lv_aload_n hx hb dX4_readOnce_18 rfl (lv_at hl 1 rfl) ?_
    refine gf_RX4_12 hC hS z_h0 dX4_readOnce_19 (fun t_19 p_19 q_19 => ?_)
    refine gf_RX4_103 hC hS p_19 dX4_readOnce_22 (fun t_22 p_22 q_22 => ?_)
    refine lv_if_le (tgt := 32) hx hb dX4_readOnce_25 (by decide) (fun c_25 => ?_) (fun c_25 => ?_)
    · skip
      have i17_t_22 : tq_iv (-2147483648) 0 t_22 := tq_cut (tq_top t_22) (tq_leL c_25 (tq_top t_22) (⟨by decide, by decide⟩ : tq_iv 0 0 0)) (by decide) (by decide)
      refine lv_iconst (v := 0) hx hb dX4_readOnce_32 (by decide) ?_
      exact K_33 0 _ _ _ _ hS (tq_w (⟨by decide, by decide⟩ : tq_iv 0 0 0) (by decide) (by decide)) (lv_sub hl [0, 1, 2, 3] rfl)
    · skip
      have i18_t_22 : tq_iv 1 2147483647 t_22 := tq_cut (tq_top t_22) (tq_ltR (tq_nle c_25) (⟨by decide, by decide⟩ : tq_iv 0 0 0) (tq_top t_22)) (by decide) (by decide)
      exact K_28 _ _ _ _ hS (lv_sub hl [0, 1, 2, 3] rfl)
set_option maxHeartbeats 4000000 in
set_option maxRecDepth 100000 in
theorem c_X7_look (l : Launch) (X : tq_X) (Z : tq_Z) (f : Nat → va_E) (h0 : Nat) (z_h0 : tq_z Z h0 (.inl 7)) (x1 : Int32) : tq_Mp l X Z f yX7_look cX7_look 2 (some .int) 0 [.ref h0, .int x1] (tq_ri (-2147483648) 2147483647) := by
  refine tq_startip (by decide) (Nat.le_of_ble_eq_true rfl) (fun p e R s m args below meth c Q hC hret hS ls hl => ?_)
  have hC : tq_C p R s m args c X (tq_A Z) RX7 cX7_look 2 0 := hC
  have hx := hC.1.1
  have hb := hC.1.2.1
  have hown := hC.1.2.2.2.1
  have hts := hC.1.2.2.2.2
  have hl : lv_has ls 2 [(0, .ref h0), (1, .int x1)] := hl
  refine lv_iload_n hx hb dX7_look_0 rfl (lv_at hl 1 rfl) ?_
  have K_20 : ∀ (y0_20 : Int32) (ls : Array Slot), lv_has ls 2 [] → W p l e R s m args below meth c s.heap [] 0 0 Q (F0 m 20 ls [.int y0_20]) := by
    intro y0_20 ls  hl
    exact hret y0_20 _ _ rfl ⟨_, rfl, tq_w (tq_top y0_20) (by decide) (by decide)⟩ dX7_look_20
  have K_19 : ∀ (ls : Array Slot), lv_has ls 2 [] → W p l e R s m args below meth c s.heap [] 0 0 Q (F0 m 19 ls []) := by
    intro  ls  hl
    refine lv_iconst (v := 0) hx hb dX7_look_19 (by decide) ?_
    exact K_20 0 _ (lv_sub hl [] rfl)
  refine lv_if_lt (tgt := 19) hx hb dX7_look_1 (by decide) (fun c_1 => ?_) (fun c_1 => ?_)
  · skip
    have i1_x1 : tq_iv (-2147483648) (-1) x1 := tq_cut (tq_top x1) (tq_ltL c_1 (tq_top x1) (⟨by decide, by decide⟩ : tq_iv 0 0 0)) (by decide) (by decide)
    exact K_19 _ (lv_sub hl [] rfl)
  · skip
    have i2_x1 : tq_iv 0 2147483647 x1 := tq_cut (tq_top x1) (tq_leR (tq_nlt c_1) (⟨by decide, by decide⟩ : tq_iv 0 0 0) (tq_top x1)) (by decide) (by decide)
    refine lv_iload_n hx hb dX7_look_4 rfl (lv_at hl 1 rfl) ?_
    refine lv_bipush (v := 35) hx hb dX7_look_5 (by decide) ?_
    refine lv_icmp_ge (tgt := 19) hx hb dX7_look_7 (by decide) (fun c_7 => ?_) (fun c_7 => ?_)
    · skip
      have i3_x1 : tq_iv 35 2147483647 x1 := tq_cut i2_x1 (tq_leR c_7 (⟨by decide, by decide⟩ : tq_iv 35 35 35) i2_x1) (by decide) (by decide)
      exact K_19 _ (lv_sub hl [] rfl)
    · skip
      have i4_x1 : tq_iv 0 34 x1 := tq_cut i2_x1 (tq_ltL (tq_nle c_7) i2_x1 (⟨by decide, by decide⟩ : tq_iv 35 35 35)) (by decide) (by decide)
      refine lv_aload_n hx hb dX7_look_10 rfl (lv_at hl 0 rfl) ?_
      refine gf_RX7_11 hC hS z_h0 dX7_look_11 (fun t_11 p_11 q_11 => ?_)
      refine lv_iload_n hx hb dX7_look_14 rfl (lv_at hl 1 rfl) ?_
      refine tq_iald hC hS p_11 rfl (tq_vin i4_x1 (by decide) (by decide)) dX7_look_15 (fun t_15 p_15 => ?_)
      refine lv_goto (tgt := 20) hx hb dX7_look_16 (by decide) ?_
      exact K_20 t_15 _ (lv_sub hl [] rfl)
set_option maxHeartbeats 4000000 in
set_option maxRecDepth 100000 in
theorem c_X7_holder (l : Launch) (X : tq_X) (Z : tq_Z) (f : Nat → va_E) (h0 : Nat) (z_h0 : tq_z Z h0 (.inl 7)) (x1 : Int32) : tq_Mp l X Z f yX7_holder cX7_holder 2 (some .int) 1 [.ref h0, .int x1] (tq_ri (-2147483648) 2147483647) := by
  refine tq_startip (by decide) (Nat.le_of_ble_eq_true rfl) (fun p e R s m args below meth c Q hC hret hS ls hl => ?_)
  have hC : tq_C p R s m args c X (tq_A Z) RX7 cX7_holder 2 1 := hC
  have hx := hC.1.1
  have hb := hC.1.2.1
  have hown := hC.1.2.2.2.1
  have hts := hC.1.2.2.2.2
  have hl : lv_has ls 2 [(0, .ref h0), (1, .int x1)] := hl
  refine lv_aload_n hx hb dX7_holder_0 rfl (lv_at hl 0 rfl) ?_
  refine lv_bipush (v := 16) hx hb dX7_holder_1 (by decide) ?_
  refine lv_iload_n hx hb dX7_holder_3 rfl (lv_at hl 1 rfl) ?_
  refine lv_iadd hx hb dX7_holder_4 ?_
  refine lv_topi (fun t_4 e_4 => ?_)
  refine tq_callVpi (As := [.int t_4]) (rest := []) hC (c_X7_look l X Z _ h0 z_h0 t_4) k_X7_look ql_RX7_27 rfl (by decide) hS z_h0 rfl hl.1 rfl (Nat.le_of_ble_eq_true rfl) ⟨Nat.zero_le _, Nat.zero_le _⟩ dX7_holder_5 (fun t_5 p_5 => ?_)
  exact hret t_5 _ _ rfl ⟨_, rfl, tq_w (tq_top t_5) (by decide) (by decide)⟩ dX7_holder_8
set_option maxHeartbeats 4000000 in
set_option maxRecDepth 100000 in
theorem c_X4_readHeld (l : Launch) (X : tq_X) (Z : tq_Z) (f : Nat → va_E) (h0 : Nat) (z_h0 : tq_z Z h0 (.inl 4)) : tq_M l X Z f [(4, 1), (4, 2), (9, 3), (9, 4), (9, 5), (9, 6), (9, 7)] yX4_readHeld cX4_readHeld 3 (some .boolean) 5 [.ref h0] (tq_ri 0 1) := by
  refine tq_starti (by decide) (Nat.le_of_ble_eq_true rfl) (fun p e R s m args below meth c Q hC hret hS ls hl => ?_)
  have hC : tq_C p R s m args c X (tq_A Z) RX4 cX4_readHeld 3 5 := hC
  have hx := hC.1.1
  have hb := hC.1.2.1
  have hown := hC.1.2.2.2.1
  have hts := hC.1.2.2.2.2
  have hl : lv_has ls 3 [(0, .ref h0)] := hl
  generalize hf0 : f = f0 at hret
  have hS : tq_S X Z (tq_A Z) s.heap f0 [(4, 1), (4, 2), (9, 3), (9, 4), (9, 5), (9, 6), (9, 7)] f s.heap [] := hf0 ▸ hS
  refine lv_aload_n hx hb dX4_readHeld_0 rfl (lv_at hl 0 rfl) ?_
  refine gf_RX4_30 hC hS z_h0 dX4_readHeld_1 (fun t_1 p_1 q_1 => ?_)
  refine tq_callVv (As := []) (rest := []) hC (c_X9_advance l X Z _ t_1 p_1) k_X9_advance ql_RX4_66 (by decide) rfl (by decide) hS p_1 rfl hl.1 rfl (Nat.le_of_ble_eq_true rfl) ⟨Nat.zero_le _, Nat.zero_le _⟩ dX4_readHeld_4 (fun f1_4 H locs hS k_4 => ?_)
  refine lv_iconst (v := 0) hx hb dX4_readHeld_7 (by decide) ?_
  refine lv_istore_n (lv' := [(1, .int 0), (0, .ref h0)]) hx hb dX4_readHeld_8 rfl hl (by decide) rfl (fun ls hl => ?_)
  have K_9 : ∀ (n_9 : Nat) (x1_9 : Int32) (f : Nat → va_E) (H : Heap) (locs : List Loc) (ls : Array Slot), tq_S X Z (tq_A Z) s.heap f0 [(4, 1), (4, 2), (9, 3), (9, 4), (9, 5), (9, 6), (9, 7)] f H locs → tq_iv 0 9 x1_9 → (2147483647 - x1_9.toInt).toNat < n_9 → lv_has ls 3 [(1, .int x1_9), (0, .ref h0)] → W p l e R s m args below meth c H locs 0 0 Q (F0 m 9 ls []) := by
    intro n_9
    induction n_9 with
    | zero => intro x1_9 f H locs ls  hS i1_x1_9 hn_9; exact absurd hn_9 (Nat.not_lt_zero _)
    | succ n_9 ih_9 =>
      intro x1_9 f H locs ls  hS i1_x1_9 hn_9 hl
      refine lv_iload_n hx hb dX4_readHeld_9 rfl (lv_at hl 0 rfl) ?_
      refine lv_bipush (v := 8) hx hb dX4_readHeld_10 (by decide) ?_
      refine lv_icmp_gt (tgt := 101) hx hb dX4_readHeld_12 (by decide) (fun c_12 => ?_) (fun c_12 => ?_)
      · skip
        have i2_x1_9 : tq_iv 9 9 x1_9 := tq_cut i1_x1_9 (tq_ltR c_12 (⟨by decide, by decide⟩ : tq_iv 8 8 8) i1_x1_9) (by decide) (by decide)
        refine lv_aload_n hx hb dX4_readHeld_101 rfl (lv_at hl 1 rfl) ?_
        refine tq_callVi (As := []) (rest := []) hC (c_X4_refuse l X Z _ h0 z_h0) k_X4_refuse ql_RX4_63 (by decide) rfl (by decide) hS z_h0 rfl hl.1 rfl (Nat.le_of_ble_eq_true rfl) ⟨Nat.zero_le _, Nat.zero_le _⟩ dX4_readHeld_102 (fun t_102 f1_102 H locs p_102 hS k_102 => ?_)
        exact hret t_102 _ _ _ _ _ (tq_nb p_102 (by decide) (by decide)) ⟨_, rfl, tq_w p_102 (by decide) (by decide)⟩ hS dX4_readHeld_105
      · skip
        have i3_x1_9 : tq_iv 0 8 x1_9 := tq_cut i1_x1_9 (tq_leL (tq_nlt c_12) i1_x1_9 (⟨by decide, by decide⟩ : tq_iv 8 8 8)) (by decide) (by decide)
        refine lv_aload_n hx hb dX4_readHeld_15 rfl (lv_at hl 1 rfl) ?_
        refine lv_iconst (v := 0) hx hb dX4_readHeld_16 (by decide) ?_
        refine lv_aload_n hx hb dX4_readHeld_17 rfl (lv_at hl 1 rfl) ?_
        refine gf_RX4_12 hC hS z_h0 dX4_readHeld_18 (fun t_18 p_18 q_18 => ?_)
        refine gf_RX4_100 hC hS p_18 dX4_readHeld_21 (fun t_21 p_21 q_21 => ?_)
        refine tq_callVi (As := [.int 0, .int t_21]) (rest := []) hC (c_X4_knownName l X Z _ h0 z_h0 0 t_21) k_X4_knownName ql_RX4_180 (by decide) rfl (by decide) hS z_h0 rfl hl.1 rfl (Nat.le_of_ble_eq_true rfl) ⟨Nat.zero_le _, Nat.zero_le _⟩ dX4_readHeld_24 (fun t_24 f1_24 H locs p_24 hS k_24 => ?_)
        refine lv_istore_n (lv' := [(2, .int t_24), (1, .int x1_9), (0, .ref h0)]) hx hb dX4_readHeld_27 rfl hl (by decide) rfl (fun ls hl => ?_)
        refine lv_iload_n hx hb dX4_readHeld_28 rfl (lv_at hl 0 rfl) ?_
        refine lv_iconst (v := -1) hx hb dX4_readHeld_29 (by decide) ?_
        refine lv_icmp_ne (tgt := 35) hx hb dX4_readHeld_30 (by decide) (fun c_30 => ?_) (fun c_30 => ?_)
        · skip
          have i4_t_24 : tq_iv 0 7 t_24 := tq_w (tq_neLo c_30 p_24 (⟨by decide, by decide⟩ : tq_iv (-1) (-1) (-1))) (by decide) (by decide)
          refine lv_aload_n hx hb dX4_readHeld_35 rfl (lv_at hl 2 rfl) ?_
          refine gf_RX4_12 hC hS z_h0 dX4_readHeld_36 (fun t_36 p_36 q_36 => ?_)
          refine gf_RX4_124 hC hS p_36 dX4_readHeld_39 (fun t_39 p_39 q_39 => ?_)
          refine lv_iload_n hx hb dX4_readHeld_42 rfl (lv_at hl 0 rfl) ?_
          refine tq_callVpi (As := [.int t_24]) (rest := []) hC (c_X7_holder l X Z _ t_39 p_39 t_24) k_X7_holder ql_RX4_196 rfl (by decide) hS p_39 rfl hl.1 rfl (Nat.le_of_ble_eq_true rfl) ⟨Nat.zero_le _, Nat.zero_le _⟩ dX4_readHeld_43 (fun t_43 p_43 => ?_)
          refine lv_iconst (v := -1) hx hb dX4_readHeld_46 (by decide) ?_
          refine lv_icmp_eq (tgt := 56) hx hb dX4_readHeld_47 (by decide) (fun c_47 => ?_) (fun c_47 => ?_)
          · skip
            have i5_t_43 : tq_iv (-1) (-1) t_43 := tq_cut (tq_top t_43) (tq_eqL c_47 (⟨by decide, by decide⟩ : tq_iv (-1) (-1) (-1))) (by decide) (by decide)
            refine lv_aload_n hx hb dX4_readHeld_56 rfl (lv_at hl 2 rfl) ?_
            refine gf_RX4_12 hC hS z_h0 dX4_readHeld_57 (fun t_57 p_57 q_57 => ?_)
            refine gf_RX4_124 hC hS p_57 dX4_readHeld_60 (fun t_60 p_60 q_60 => ?_)
            refine lv_iload_n hx hb dX4_readHeld_63 rfl (lv_at hl 0 rfl) ?_
            refine lv_aload_n hx hb dX4_readHeld_64 rfl (lv_at hl 2 rfl) ?_
            refine gf_RX4_12 hC hS z_h0 dX4_readHeld_65 (fun t_65 p_65 q_65 => ?_)
            refine gf_RX4_187 hC hS p_65 dX4_readHeld_68 (fun t_68 p_68 q_68 => ?_)
            refine tq_callVv (As := [.int t_24, .int t_68]) (rest := []) hC (c_X7_putHolder l X Z _ t_60 p_60 t_24 t_68) k_X7_putHolder ql_RX4_165 (by decide) rfl (by decide) hS p_60 rfl hl.1 rfl (Nat.le_of_ble_eq_true rfl) ⟨Nat.zero_le _, Nat.zero_le _⟩ dX4_readHeld_71 (fun f1_71 H locs hS k_71 => ?_)
            refine lv_aload_n hx hb dX4_readHeld_74 rfl (lv_at hl 2 rfl) ?_
            refine gf_RX4_30 hC hS z_h0 dX4_readHeld_75 (fun t_75 p_75 q_75 => ?_)
            refine tq_callVv (As := []) (rest := []) hC (c_X9_advance l X Z _ t_75 p_75) k_X9_advance ql_RX4_66 (by decide) rfl (by decide) hS p_75 rfl hl.1 rfl (Nat.le_of_ble_eq_true rfl) ⟨Nat.zero_le _, Nat.zero_le _⟩ dX4_readHeld_78 (fun f1_78 H locs hS k_78 => ?_)
            refine lv_aload_n hx hb dX4_readHeld_81 rfl (lv_at hl 2 rfl) ?_
            refine gf_RX4_30 hC hS z_h0 dX4_readHeld_82 (fun t_82 p_82 q_82 => ?_)
            refine gf_RX4_49 hC hS p_82 dX4_readHeld_85 (fun t_85 p_85 q_85 => ?_)
            refine lv_bipush (v := 23) hx hb dX4_readHeld_88 (by decide) ?_
            refine lv_icmp_eq (tgt := 95) hx hb dX4_readHeld_90 (by decide) (fun c_90 => ?_) (fun c_90 => ?_)
            · skip
              have i6_t_85 : tq_iv 23 23 t_85 := tq_cut (tq_top t_85) (tq_eqL c_90 (⟨by decide, by decide⟩ : tq_iv 23 23 23)) (by decide) (by decide)
              obtain ⟨t_95, e_95⟩ : ∃ y : Int32, y = x1_9 + 1 := ⟨_, rfl⟩
              have i7_t_95 : tq_iv 1 9 t_95 := tq_w (tq_add e_95 i3_x1_9 (⟨by decide, by decide⟩ : tq_iv 1 1 1) (by decide) (by decide)) (by decide) (by decide)
              refine lv_iinc (v := t_95) (lv' := [(1, .int t_95), (2, .int t_24), (0, .ref h0)]) hx hb dX4_readHeld_95 hl (k := 1) rfl (by rw [e_95]; rfl) (by decide) rfl (fun ls hl => ?_)
              refine lv_goto (tgt := 9) hx hb dX4_readHeld_98 (by decide) ?_
              exact ih_9 t_95 _ _ _ _ hS (tq_w i7_t_95 (by decide) (by decide)) (tq_up e_95 i3_x1_9 (⟨by decide, by decide⟩ : tq_iv 1 1 1) (by decide) (by decide) hn_9) (lv_sub hl [0, 2] rfl)
            · skip
              refine lv_iconst (v := 1) hx hb dX4_readHeld_93 (by decide) ?_
              exact hret 1 _ _ _ _ _ (tq_nb (⟨by decide, by decide⟩ : tq_iv 1 1 1) (by decide) (by decide)) ⟨_, rfl, tq_w (⟨by decide, by decide⟩ : tq_iv 1 1 1) (by decide) (by decide)⟩ hS dX4_readHeld_94
          · skip
            refine lv_aload_n hx hb dX4_readHeld_50 rfl (lv_at hl 2 rfl) ?_
            refine lv_iconst (v := 3) hx hb dX4_readHeld_51 (by decide) ?_
            refine tq_callVi (As := [.int 3]) (rest := []) hC (c_X4_blame l X Z _ h0 z_h0 3) k_X4_blame ql_RX4_59 (by decide) rfl (by decide) hS z_h0 rfl hl.1 rfl (Nat.le_of_ble_eq_true rfl) ⟨Nat.zero_le _, Nat.zero_le _⟩ dX4_readHeld_52 (fun t_52 f1_52 H locs p_52 hS k_52 => ?_)
            exact hret t_52 _ _ _ _ _ (tq_nb p_52 (by decide) (by decide)) ⟨_, rfl, tq_w p_52 (by decide) (by decide)⟩ hS dX4_readHeld_55
        · skip
          have i8_t_24 : tq_iv (-1) (-1) t_24 := tq_cut p_24 (tq_eqL c_30 (⟨by decide, by decide⟩ : tq_iv (-1) (-1) (-1))) (by decide) (by decide)
          refine lv_iconst (v := 0) hx hb dX4_readHeld_33 (by decide) ?_
          exact hret 0 _ _ _ _ _ (tq_nb (⟨by decide, by decide⟩ : tq_iv 0 0 0) (by decide) (by decide)) ⟨_, rfl, tq_w (⟨by decide, by decide⟩ : tq_iv 0 0 0) (by decide) (by decide)⟩ hS dX4_readHeld_34
  exact K_9 _ 0 _ _ _ _ hS (tq_w (⟨by decide, by decide⟩ : tq_iv 0 0 0) (by decide) (by decide)) (Nat.lt_succ_self _) (lv_sub hl [0, 1] rfl)
set_option maxHeartbeats 4000000 in
set_option maxRecDepth 100000 in
theorem c_X7_putRoom (l : Launch) (X : tq_X) (Z : tq_Z) (f : Nat → va_E) (h0 : Nat) (z_h0 : tq_z Z h0 (.inl 7)) (x1 : Int32) (x2 : Int32) : tq_M l X Z f [] yX7_putRoom cX7_putRoom 3 (none) 1 [.ref h0, .int x1, .int x2] tq_rv := by
  refine tq_startv (by decide) (Nat.le_of_ble_eq_true rfl) (fun p e R s m args below meth c Q hC hret hS ls hl => ?_)
  have hC : tq_C p R s m args c X (tq_A Z) RX7 cX7_putRoom 3 1 := hC
  have hx := hC.1.1
  have hb := hC.1.2.1
  have hown := hC.1.2.2.2.1
  have hts := hC.1.2.2.2.2
  have hl : lv_has ls 3 [(0, .ref h0), (1, .int x1), (2, .int x2)] := hl
  generalize hf0 : f = f0 at hret
  have hS : tq_S X Z (tq_A Z) s.heap f0 [] f s.heap [] := hf0 ▸ hS
  refine lv_aload_n hx hb dX7_putRoom_0 rfl (lv_at hl 0 rfl) ?_
  refine lv_bipush (v := 30) hx hb dX7_putRoom_1 (by decide) ?_
  refine lv_iload_n hx hb dX7_putRoom_3 rfl (lv_at hl 1 rfl) ?_
  refine lv_iadd hx hb dX7_putRoom_4 ?_
  refine lv_topi (fun t_4 e_4 => ?_)
  refine lv_iload_n hx hb dX7_putRoom_5 rfl (lv_at hl 2 rfl) ?_
  refine tq_callVv (As := [.int t_4, .int x2]) (rest := []) hC (c_X7_put l X Z _ h0 z_h0 t_4 x2) k_X7_put ql_RX7_31 (by decide) rfl (by decide) hS z_h0 rfl hl.1 rfl (Nat.le_of_ble_eq_true rfl) ⟨Nat.zero_le _, Nat.zero_le _⟩ dX7_putRoom_6 (fun f1_6 H locs hS k_6 => ?_)
  exact hret _ _ _ _ _ rfl hS dX7_putRoom_9
set_option maxHeartbeats 4000000 in
set_option maxRecDepth 100000 in
theorem c_X4_readPerson (l : Launch) (X : tq_X) (Z : tq_Z) (f : Nat → va_E) (h0 : Nat) (z_h0 : tq_z Z h0 (.inl 4)) : tq_M l X Z f [(3, 7), (4, 1), (4, 2), (9, 3), (9, 4), (9, 5), (9, 6), (9, 7)] yX4_readPerson cX4_readPerson 2 (some .boolean) 6 [.ref h0] (tq_ri 0 1) := by
  refine tq_starti (by decide) (Nat.le_of_ble_eq_true rfl) (fun p e R s m args below meth c Q hC hret hS ls hl => ?_)
  have hC : tq_C p R s m args c X (tq_A Z) RX4 cX4_readPerson 2 6 := hC
  have hx := hC.1.1
  have hb := hC.1.2.1
  have hown := hC.1.2.2.2.1
  have hts := hC.1.2.2.2.2
  have hl : lv_has ls 2 [(0, .ref h0)] := hl
  generalize hf0 : f = f0 at hret
  have hS : tq_S X Z (tq_A Z) s.heap f0 [(3, 7), (4, 1), (4, 2), (9, 3), (9, 4), (9, 5), (9, 6), (9, 7)] f s.heap [] := hf0 ▸ hS
  refine lv_aload_n hx hb dX4_readPerson_0 rfl (lv_at hl 0 rfl) ?_
  refine lv_iconst (v := 4) hx hb dX4_readPerson_1 (by decide) ?_
  refine lv_aload_n hx hb dX4_readPerson_2 rfl (lv_at hl 0 rfl) ?_
  refine gf_RX4_12 hC hS z_h0 dX4_readPerson_3 (fun t_3 p_3 q_3 => ?_)
  refine gf_RX4_187 hC hS p_3 dX4_readPerson_6 (fun t_6 p_6 q_6 => ?_)
  refine lv_iconst (v := 4) hx hb dX4_readPerson_9 (by decide) ?_
  refine tq_callV (As := [.int 4, .int t_6, .int 4]) (rest := []) hC (c_X4_readNewName l X Z _ h0 z_h0 4 t_6 4) k_X4_readNewName ql_RX4_144 (by decide) rfl (by decide) hS z_h0 rfl hl.1 rfl (Nat.le_of_ble_eq_true rfl) ⟨Nat.zero_le _, Nat.zero_le _⟩ dX4_readPerson_10 (fun v_10 f1_10 H locs hv_10 hS k_10 => ?_)
  obtain ⟨t_10, rfl, p_10, g_10⟩ := hv_10
  refine W.eq (g2 := F0 m 13 ls (.int t_10 :: [])) rfl ?_
  have K_25 : ∀ (f : Nat → va_E) (H : Heap) (locs : List Loc) (ls : Array Slot), tq_S X Z (tq_A Z) s.heap f0 [(3, 7), (4, 1), (4, 2), (9, 3), (9, 4), (9, 5), (9, 6), (9, 7)] f H locs → lv_has ls 2 [] → W p l e R s m args below meth c H locs 0 0 Q (F0 m 25 ls []) := by
    intro f H locs ls  hS hl
    refine lv_iconst (v := 0) hx hb dX4_readPerson_25 (by decide) ?_
    exact hret 0 _ _ _ _ _ (tq_nb (⟨by decide, by decide⟩ : tq_iv 0 0 0) (by decide) (by decide)) ⟨_, rfl, tq_w (⟨by decide, by decide⟩ : tq_iv 0 0 0) (by decide) (by decide)⟩ hS dX4_readPerson_26
  refine lv_if_eq (tgt := 25) hx hb dX4_readPerson_13 (by decide) (fun c_13 => ?_) (fun c_13 => ?_)
  · skip
    have i1_t_10 : tq_iv 0 0 t_10 := tq_cut p_10 (tq_eqL c_13 (⟨by decide, by decide⟩ : tq_iv 0 0 0)) (by decide) (by decide)
    exact K_25 _ _ _ _ hS (lv_sub hl [] rfl)
  · skip
    have i2_t_6 : tq_iv (-2147483648) 3 t_6 := tq_cut (tq_top t_6) (tq_ltL (g_10 c_13) (tq_top t_6) (⟨by decide, by decide⟩ : tq_iv 4 4 4)) (by decide) (by decide)
    have i3_t_10 : tq_iv 1 1 t_10 := tq_w (tq_neLo c_13 p_10 (⟨by decide, by decide⟩ : tq_iv 0 0 0)) (by decide) (by decide)
    refine lv_aload_n hx hb dX4_readPerson_16 rfl (lv_at hl 0 rfl) ?_
    refine lv_bipush (v := 14) hx hb dX4_readPerson_17 (by decide) ?_
    refine tq_callVi (As := [.int 14]) (rest := []) hC (c_X4_expect l X Z _ h0 z_h0 14) k_X4_expect ql_RX4_97 (by decide) rfl (by decide) hS z_h0 rfl hl.1 rfl (Nat.le_of_ble_eq_true rfl) ⟨Nat.zero_le _, Nat.zero_le _⟩ dX4_readPerson_19 (fun t_19 f1_19 H locs p_19 hS k_19 => ?_)
    refine lv_if_ne (tgt := 27) hx hb dX4_readPerson_22 (by decide) (fun c_22 => ?_) (fun c_22 => ?_)
    · skip
      have i4_t_19 : tq_iv 1 1 t_19 := tq_w (tq_neLo c_22 p_19 (⟨by decide, by decide⟩ : tq_iv 0 0 0)) (by decide) (by decide)
      refine lv_aload_n hx hb dX4_readPerson_27 rfl (lv_at hl 0 rfl) ?_
      refine lv_iconst (v := 2) hx hb dX4_readPerson_28 (by decide) ?_
      refine lv_aload_n hx hb dX4_readPerson_29 rfl (lv_at hl 0 rfl) ?_
      refine gf_RX4_12 hC hS z_h0 dX4_readPerson_30 (fun t_30 p_30 q_30 => ?_)
      refine gf_RX4_174 hC hS p_30 dX4_readPerson_33 (fun t_33 p_33 q_33 => ?_)
      refine tq_callVi (As := [.int 2, .int t_33]) (rest := []) hC (c_X4_knownName l X Z _ h0 z_h0 2 t_33) k_X4_knownName ql_RX4_180 (by decide) rfl (by decide) hS z_h0 rfl hl.1 rfl (Nat.le_of_ble_eq_true rfl) ⟨Nat.zero_le _, Nat.zero_le _⟩ dX4_readPerson_36 (fun t_36 f1_36 H locs p_36 hS k_36 => ?_)
      refine lv_istore_n (lv' := [(1, .int t_36), (0, .ref h0)]) hx hb dX4_readPerson_39 rfl hl (by decide) rfl (fun ls hl => ?_)
      refine lv_iload_n hx hb dX4_readPerson_40 rfl (lv_at hl 0 rfl) ?_
      refine lv_iconst (v := -1) hx hb dX4_readPerson_41 (by decide) ?_
      refine lv_icmp_ne (tgt := 47) hx hb dX4_readPerson_42 (by decide) (fun c_42 => ?_) (fun c_42 => ?_)
      · skip
        have i5_t_36 : tq_iv 0 7 t_36 := tq_w (tq_neLo c_42 p_36 (⟨by decide, by decide⟩ : tq_iv (-1) (-1) (-1))) (by decide) (by decide)
        refine lv_aload_n hx hb dX4_readPerson_47 rfl (lv_at hl 1 rfl) ?_
        refine gf_RX4_30 hC hS z_h0 dX4_readPerson_48 (fun t_48 p_48 q_48 => ?_)
        refine tq_callVv (As := []) (rest := []) hC (c_X9_advance l X Z _ t_48 p_48) k_X9_advance ql_RX4_66 (by decide) rfl (by decide) hS p_48 rfl hl.1 rfl (Nat.le_of_ble_eq_true rfl) ⟨Nat.zero_le _, Nat.zero_le _⟩ dX4_readPerson_51 (fun f1_51 H locs hS k_51 => ?_)
        refine lv_aload_n hx hb dX4_readPerson_54 rfl (lv_at hl 1 rfl) ?_
        refine gf_RX4_30 hC hS z_h0 dX4_readPerson_55 (fun t_55 p_55 q_55 => ?_)
        refine gf_RX4_49 hC hS p_55 dX4_readPerson_58 (fun t_58 p_58 q_58 => ?_)
        refine lv_bipush (v := 15) hx hb dX4_readPerson_61 (by decide) ?_
        have K_75 : ∀ (f : Nat → va_E) (H : Heap) (locs : List Loc) (ls : Array Slot), tq_S X Z (tq_A Z) s.heap f0 [(3, 7), (4, 1), (4, 2), (9, 3), (9, 4), (9, 5), (9, 6), (9, 7)] f H locs → lv_has ls 2 [(1, .int t_36), (0, .ref h0)] → W p l e R s m args below meth c H locs 0 0 Q (F0 m 75 ls []) := by
          intro f H locs ls  hS hl
          refine lv_aload_n hx hb dX4_readPerson_75 rfl (lv_at hl 1 rfl) ?_
          refine gf_RX4_12 hC hS z_h0 dX4_readPerson_76 (fun t_76 p_76 q_76 => ?_)
          refine gf_RX4_124 hC hS p_76 dX4_readPerson_79 (fun t_79 p_79 q_79 => ?_)
          refine lv_aload_n hx hb dX4_readPerson_82 rfl (lv_at hl 1 rfl) ?_
          refine gf_RX4_12 hC hS z_h0 dX4_readPerson_83 (fun t_83 p_83 q_83 => ?_)
          refine gf_RX4_187 hC hS p_83 dX4_readPerson_86 (fun t_86 p_86 q_86 => ?_)
          refine lv_iload_n hx hb dX4_readPerson_89 rfl (lv_at hl 0 rfl) ?_
          refine tq_callVv (As := [.int t_86, .int t_36]) (rest := []) hC (c_X7_putRoom l X Z _ t_79 p_79 t_86 t_36) k_X7_putRoom ql_RX4_193 (by decide) rfl (by decide) hS p_79 rfl hl.1 rfl (Nat.le_of_ble_eq_true rfl) ⟨Nat.zero_le _, Nat.zero_le _⟩ dX4_readPerson_90 (fun f1_90 H locs hS k_90 => ?_)
          refine lv_aload_n hx hb dX4_readPerson_93 rfl (lv_at hl 1 rfl) ?_
          refine gf_RX4_12 hC hS z_h0 dX4_readPerson_94 (fun t_94 p_94 q_94 => ?_)
          refine lv_dup hx hb dX4_readPerson_97 rfl ?_
          refine gf_RX4_187 hC hS p_94 dX4_readPerson_98 (fun t_98 p_98 q_98 => ?_)
          refine lv_iconst (v := 1) hx hb dX4_readPerson_101 (by decide) ?_
          refine lv_iadd hx hb dX4_readPerson_102 ?_
          refine lv_topi (fun t_102 e_102 => ?_)
          refine pf_RX4_187 hC hS p_94 (by decide) trivial dX4_readPerson_103 (fun f H locs hS q_103 k_103 => ?_)
          refine lv_aload_n hx hb dX4_readPerson_106 rfl (lv_at hl 1 rfl) ?_
          refine lv_bipush (v := 59) hx hb dX4_readPerson_107 (by decide) ?_
          refine tq_callVi (As := [.int 59]) (rest := []) hC (c_X4_expect l X Z _ h0 z_h0 59) k_X4_expect ql_RX4_97 (by decide) rfl (by decide) hS z_h0 rfl hl.1 rfl (Nat.le_of_ble_eq_true rfl) ⟨Nat.zero_le _, Nat.zero_le _⟩ dX4_readPerson_109 (fun t_109 f1_109 H locs p_109 hS k_109 => ?_)
          exact hret t_109 _ _ _ _ _ (tq_nb p_109 (by decide) (by decide)) ⟨_, rfl, tq_w p_109 (by decide) (by decide)⟩ hS dX4_readPerson_112
        refine lv_icmp_ne (tgt := 75) hx hb dX4_readPerson_63 (by decide) (fun c_63 => ?_) (fun c_63 => ?_)
        · skip
          exact K_75 _ _ _ _ hS (lv_sub hl [0, 1] rfl)
        · skip
          have i6_t_58 : tq_iv 15 15 t_58 := tq_cut (tq_top t_58) (tq_eqL c_63 (⟨by decide, by decide⟩ : tq_iv 15 15 15)) (by decide) (by decide)
          refine lv_aload_n hx hb dX4_readPerson_66 rfl (lv_at hl 1 rfl) ?_
          refine tq_callVi (As := []) (rest := []) hC (c_X4_readHeld l X Z _ h0 z_h0) k_X4_readHeld ql_RX4_190 (by decide) rfl (by decide) hS z_h0 rfl hl.1 rfl (Nat.le_of_ble_eq_true rfl) ⟨Nat.zero_le _, Nat.zero_le _⟩ dX4_readPerson_67 (fun t_67 f1_67 H locs p_67 hS k_67 => ?_)
          refine lv_if_ne (tgt := 75) hx hb dX4_readPerson_70 (by decide) (fun c_70 => ?_) (fun c_70 => ?_)
          · skip
            have i7_t_67 : tq_iv 1 1 t_67 := tq_w (tq_neLo c_70 p_67 (⟨by decide, by decide⟩ : tq_iv 0 0 0)) (by decide) (by decide)
            exact K_75 _ _ _ _ hS (lv_sub hl [0, 1] rfl)
          · skip
            have i8_t_67 : tq_iv 0 0 t_67 := tq_cut p_67 (tq_eqL c_70 (⟨by decide, by decide⟩ : tq_iv 0 0 0)) (by decide) (by decide)
            refine lv_iconst (v := 0) hx hb dX4_readPerson_73 (by decide) ?_
            exact hret 0 _ _ _ _ _ (tq_nb (⟨by decide, by decide⟩ : tq_iv 0 0 0) (by decide) (by decide)) ⟨_, rfl, tq_w (⟨by decide, by decide⟩ : tq_iv 0 0 0) (by decide) (by decide)⟩ hS dX4_readPerson_74
      · skip
        have i9_t_36 : tq_iv (-1) (-1) t_36 := tq_cut p_36 (tq_eqL c_42 (⟨by decide, by decide⟩ : tq_iv (-1) (-1) (-1))) (by decide) (by decide)
        refine lv_iconst (v := 0) hx hb dX4_readPerson_45 (by decide) ?_
        exact hret 0 _ _ _ _ _ (tq_nb (⟨by decide, by decide⟩ : tq_iv 0 0 0) (by decide) (by decide)) ⟨_, rfl, tq_w (⟨by decide, by decide⟩ : tq_iv 0 0 0) (by decide) (by decide)⟩ hS dX4_readPerson_46
    · skip
      have i10_t_19 : tq_iv 0 0 t_19 := tq_cut p_19 (tq_eqL c_22 (⟨by decide, by decide⟩ : tq_iv 0 0 0)) (by decide) (by decide)
      exact K_25 _ _ _ _ hS (lv_sub hl [] rfl)
set_option maxHeartbeats 4000000 in
set_option maxRecDepth 100000 in
theorem c_X4_readRoom (l : Launch) (X : tq_X) (Z : tq_Z) (f : Nat → va_E) (h0 : Nat) (z_h0 : tq_z Z h0 (.inl 4)) : tq_M l X Z f [(3, 5), (4, 1), (4, 2), (9, 3), (9, 4), (9, 5), (9, 6), (9, 7)] yX4_readRoom cX4_readRoom 1 (some .boolean) 6 [.ref h0] (tq_ri 0 1) := by
  refine tq_starti (by decide) (Nat.le_of_ble_eq_true rfl) (fun p e R s m args below meth c Q hC hret hS ls hl => ?_)
  have hC : tq_C p R s m args c X (tq_A Z) RX4 cX4_readRoom 1 6 := hC
  have hx := hC.1.1
  have hb := hC.1.2.1
  have hown := hC.1.2.2.2.1
  have hts := hC.1.2.2.2.2
  have hl : lv_has ls 1 [(0, .ref h0)] := hl
  generalize hf0 : f = f0 at hret
  have hS : tq_S X Z (tq_A Z) s.heap f0 [(3, 5), (4, 1), (4, 2), (9, 3), (9, 4), (9, 5), (9, 6), (9, 7)] f s.heap [] := hf0 ▸ hS
  refine lv_aload_n hx hb dX4_readRoom_0 rfl (lv_at hl 0 rfl) ?_
  refine lv_iconst (v := 2) hx hb dX4_readRoom_1 (by decide) ?_
  refine lv_aload_n hx hb dX4_readRoom_2 rfl (lv_at hl 0 rfl) ?_
  refine gf_RX4_12 hC hS z_h0 dX4_readRoom_3 (fun t_3 p_3 q_3 => ?_)
  refine gf_RX4_174 hC hS p_3 dX4_readRoom_6 (fun t_6 p_6 q_6 => ?_)
  refine lv_bipush (v := 6) hx hb dX4_readRoom_9 (by decide) ?_
  refine tq_callV (As := [.int 2, .int t_6, .int 6]) (rest := []) hC (c_X4_readNewName l X Z _ h0 z_h0 2 t_6 6) k_X4_readNewName ql_RX4_144 (by decide) rfl (by decide) hS z_h0 rfl hl.1 rfl (Nat.le_of_ble_eq_true rfl) ⟨Nat.zero_le _, Nat.zero_le _⟩ dX4_readRoom_11 (fun v_11 f1_11 H locs hv_11 hS k_11 => ?_)
  obtain ⟨t_11, rfl, p_11, g_11⟩ := hv_11
  refine W.eq (g2 := F0 m 14 ls (.int t_11 :: [])) rfl ?_
  refine lv_if_ne (tgt := 19) hx hb dX4_readRoom_14 (by decide) (fun c_14 => ?_) (fun c_14 => ?_)
  · skip
    have i1_t_6 : tq_iv (-2147483648) 5 t_6 := tq_cut (tq_top t_6) (tq_ltL (g_11 c_14) (tq_top t_6) (⟨by decide, by decide⟩ : tq_iv 6 6 6)) (by decide) (by decide)
    have i2_t_11 : tq_iv 1 1 t_11 := tq_w (tq_neLo c_14 p_11 (⟨by decide, by decide⟩ : tq_iv 0 0 0)) (by decide) (by decide)
    refine lv_aload_n hx hb dX4_readRoom_19 rfl (lv_at hl 0 rfl) ?_
    refine gf_RX4_12 hC hS z_h0 dX4_readRoom_20 (fun t_20 p_20 q_20 => ?_)
    refine lv_dup hx hb dX4_readRoom_23 rfl ?_
    refine gf_RX4_174 hC hS p_20 dX4_readRoom_24 (fun t_24 p_24 q_24 => ?_)
    refine lv_iconst (v := 1) hx hb dX4_readRoom_27 (by decide) ?_
    refine lv_iadd hx hb dX4_readRoom_28 ?_
    refine lv_topi (fun t_28 e_28 => ?_)
    refine pf_RX4_174 hC hS p_20 (by decide) trivial dX4_readRoom_29 (fun f H locs hS q_29 k_29 => ?_)
    refine lv_aload_n hx hb dX4_readRoom_32 rfl (lv_at hl 0 rfl) ?_
    refine lv_bipush (v := 59) hx hb dX4_readRoom_33 (by decide) ?_
    refine tq_callVi (As := [.int 59]) (rest := []) hC (c_X4_expect l X Z _ h0 z_h0 59) k_X4_expect ql_RX4_97 (by decide) rfl (by decide) hS z_h0 rfl hl.1 rfl (Nat.le_of_ble_eq_true rfl) ⟨Nat.zero_le _, Nat.zero_le _⟩ dX4_readRoom_35 (fun t_35 f1_35 H locs p_35 hS k_35 => ?_)
    exact hret t_35 _ _ _ _ _ (tq_nb p_35 (by decide) (by decide)) ⟨_, rfl, tq_w p_35 (by decide) (by decide)⟩ hS dX4_readRoom_38
  · skip
    have i3_t_11 : tq_iv 0 0 t_11 := tq_cut p_11 (tq_eqL c_14 (⟨by decide, by decide⟩ : tq_iv 0 0 0)) (by decide) (by decide)
    refine lv_iconst (v := 0) hx hb dX4_readRoom_17 (by decide) ?_
    exact hret 0 _ _ _ _ _ (tq_nb (⟨by decide, by decide⟩ : tq_iv 0 0 0) (by decide) (by decide)) ⟨_, rfl, tq_w (⟨by decide, by decide⟩ : tq_iv 0 0 0) (by decide) (by decide)⟩ hS dX4_readRoom_18
set_option maxHeartbeats 4000000 in
set_option maxRecDepth 100000 in
theorem c_X3_addMust (l : Launch) (X : tq_X) (Z : tq_Z) (f : Nat → va_E) (h0 : Nat) (z_h0 : tq_z Z h0 (.inl 3)) (x1 : Int32) (x2 : Int32) : tq_M l X Z f [] yX3_addMust cX3_addMust 3 (none) 0 [.ref h0, .int x1, .int x2] tq_rv := by
  refine tq_startv (by decide) (Nat.le_of_ble_eq_true rfl) (fun p e R s m args below meth c Q hC hret hS ls hl => ?_)
  have hC : tq_C p R s m args c X (tq_A Z) RX3 cX3_addMust 3 0 := hC
  have hx := hC.1.1
  have hb := hC.1.2.1
  have hown := hC.1.2.2.2.1
  have hts := hC.1.2.2.2.2
  have hl : lv_has ls 3 [(0, .ref h0), (1, .int x1), (2, .int x2)] := hl
  generalize hf0 : f = f0 at hret
  have hS : tq_S X Z (tq_A Z) s.heap f0 [] f s.heap [] := hf0 ▸ hS
  refine lv_iload_n hx hb dX3_addMust_0 rfl (lv_at hl 2 rfl) ?_
  have K_22 : ∀ (f : Nat → va_E) (H : Heap) (locs : List Loc) (ls : Array Slot), tq_S X Z (tq_A Z) s.heap f0 [] f H locs → lv_has ls 3 [] → W p l e R s m args below meth c H locs 0 0 Q (F0 m 22 ls []) := by
    intro f H locs ls  hS hl
    exact hret _ _ _ _ _ rfl hS dX3_addMust_22
  refine lv_if_lt (tgt := 22) hx hb dX3_addMust_1 (by decide) (fun c_1 => ?_) (fun c_1 => ?_)
  · skip
    have i1_x2 : tq_iv (-2147483648) (-1) x2 := tq_cut (tq_top x2) (tq_ltL c_1 (tq_top x2) (⟨by decide, by decide⟩ : tq_iv 0 0 0)) (by decide) (by decide)
    exact K_22 _ _ _ _ hS (lv_sub hl [] rfl)
  · skip
    have i2_x2 : tq_iv 0 2147483647 x2 := tq_cut (tq_top x2) (tq_leR (tq_nlt c_1) (⟨by decide, by decide⟩ : tq_iv 0 0 0) (tq_top x2)) (by decide) (by decide)
    refine lv_iload_n hx hb dX3_addMust_4 rfl (lv_at hl 2 rfl) ?_
    refine lv_bipush (v := 6) hx hb dX3_addMust_5 (by decide) ?_
    refine lv_icmp_ge (tgt := 22) hx hb dX3_addMust_7 (by decide) (fun c_7 => ?_) (fun c_7 => ?_)
    · skip
      have i3_x2 : tq_iv 6 2147483647 x2 := tq_cut i2_x2 (tq_leR c_7 (⟨by decide, by decide⟩ : tq_iv 6 6 6) i2_x2) (by decide) (by decide)
      exact K_22 _ _ _ _ hS (lv_sub hl [] rfl)
    · skip
      have i4_x2 : tq_iv 0 5 x2 := tq_cut i2_x2 (tq_ltL (tq_nle c_7) i2_x2 (⟨by decide, by decide⟩ : tq_iv 6 6 6)) (by decide) (by decide)
      refine lv_aload_n hx hb dX3_addMust_10 rfl (lv_at hl 0 rfl) ?_
      refine gf_RX3_42 hC hS z_h0 dX3_addMust_11 (fun t_11 p_11 q_11 => ?_)
      refine lv_iload_n hx hb dX3_addMust_14 rfl (lv_at hl 2 rfl) ?_
      refine lv_dup2_11 hx hb dX3_addMust_15 rfl rfl ?_
      refine tq_iald hC hS p_11 rfl (tq_vin i4_x2 (by decide) (by decide)) dX3_addMust_16 (fun t_16 p_16 => ?_)
      refine lv_iconst (v := 1) hx hb dX3_addMust_17 (by decide) ?_
      refine lv_iload_n hx hb dX3_addMust_18 rfl (lv_at hl 1 rfl) ?_
      refine lv_ishl hx hb dX3_addMust_19 ?_
      refine lv_topi (fun t_19 e_19 => ?_)
      refine lv_ior hx hb dX3_addMust_20 ?_
      refine lv_topi (fun t_20 e_20 => ?_)
      refine tq_iast hC hS p_11 rfl (tq_vin i4_x2 (by decide) (by decide)) trivial dX3_addMust_21 (fun f H locs hS k_21 => ?_)
      exact K_22 _ _ _ _ hS (lv_sub hl [] rfl)
set_option maxHeartbeats 4000000 in
set_option maxRecDepth 100000 in
theorem c_X3_addNever (l : Launch) (X : tq_X) (Z : tq_Z) (f : Nat → va_E) (h0 : Nat) (z_h0 : tq_z Z h0 (.inl 3)) (x1 : Int32) (x2 : Int32) : tq_M l X Z f [] yX3_addNever cX3_addNever 3 (none) 0 [.ref h0, .int x1, .int x2] tq_rv := by
  refine tq_startv (by decide) (Nat.le_of_ble_eq_true rfl) (fun p e R s m args below meth c Q hC hret hS ls hl => ?_)
  have hC : tq_C p R s m args c X (tq_A Z) RX3 cX3_addNever 3 0 := hC
  have hx := hC.1.1
  have hb := hC.1.2.1
  have hown := hC.1.2.2.2.1
  have hts := hC.1.2.2.2.2
  have hl : lv_has ls 3 [(0, .ref h0), (1, .int x1), (2, .int x2)] := hl
  generalize hf0 : f = f0 at hret
  have hS : tq_S X Z (tq_A Z) s.heap f0 [] f s.heap [] := hf0 ▸ hS
  refine lv_iload_n hx hb dX3_addNever_0 rfl (lv_at hl 2 rfl) ?_
  have K_22 : ∀ (f : Nat → va_E) (H : Heap) (locs : List Loc) (ls : Array Slot), tq_S X Z (tq_A Z) s.heap f0 [] f H locs → lv_has ls 3 [] → W p l e R s m args below meth c H locs 0 0 Q (F0 m 22 ls []) := by
    intro f H locs ls  hS hl
    exact hret _ _ _ _ _ rfl hS dX3_addNever_22
  refine lv_if_lt (tgt := 22) hx hb dX3_addNever_1 (by decide) (fun c_1 => ?_) (fun c_1 => ?_)
  · skip
    have i1_x2 : tq_iv (-2147483648) (-1) x2 := tq_cut (tq_top x2) (tq_ltL c_1 (tq_top x2) (⟨by decide, by decide⟩ : tq_iv 0 0 0)) (by decide) (by decide)
    exact K_22 _ _ _ _ hS (lv_sub hl [] rfl)
  · skip
    have i2_x2 : tq_iv 0 2147483647 x2 := tq_cut (tq_top x2) (tq_leR (tq_nlt c_1) (⟨by decide, by decide⟩ : tq_iv 0 0 0) (tq_top x2)) (by decide) (by decide)
    refine lv_iload_n hx hb dX3_addNever_4 rfl (lv_at hl 2 rfl) ?_
    refine lv_bipush (v := 6) hx hb dX3_addNever_5 (by decide) ?_
    refine lv_icmp_ge (tgt := 22) hx hb dX3_addNever_7 (by decide) (fun c_7 => ?_) (fun c_7 => ?_)
    · skip
      have i3_x2 : tq_iv 6 2147483647 x2 := tq_cut i2_x2 (tq_leR c_7 (⟨by decide, by decide⟩ : tq_iv 6 6 6) i2_x2) (by decide) (by decide)
      exact K_22 _ _ _ _ hS (lv_sub hl [] rfl)
    · skip
      have i4_x2 : tq_iv 0 5 x2 := tq_cut i2_x2 (tq_ltL (tq_nle c_7) i2_x2 (⟨by decide, by decide⟩ : tq_iv 6 6 6)) (by decide) (by decide)
      refine lv_aload_n hx hb dX3_addNever_10 rfl (lv_at hl 0 rfl) ?_
      refine gf_RX3_45 hC hS z_h0 dX3_addNever_11 (fun t_11 p_11 q_11 => ?_)
      refine lv_iload_n hx hb dX3_addNever_14 rfl (lv_at hl 2 rfl) ?_
      refine lv_dup2_11 hx hb dX3_addNever_15 rfl rfl ?_
      refine tq_iald hC hS p_11 rfl (tq_vin i4_x2 (by decide) (by decide)) dX3_addNever_16 (fun t_16 p_16 => ?_)
      refine lv_iconst (v := 1) hx hb dX3_addNever_17 (by decide) ?_
      refine lv_iload_n hx hb dX3_addNever_18 rfl (lv_at hl 1 rfl) ?_
      refine lv_ishl hx hb dX3_addNever_19 ?_
      refine lv_topi (fun t_19 e_19 => ?_)
      refine lv_ior hx hb dX3_addNever_20 ?_
      refine lv_topi (fun t_20 e_20 => ?_)
      refine tq_iast hC hS p_11 rfl (tq_vin i4_x2 (by decide) (by decide)) trivial dX3_addNever_21 (fun f H locs hS k_21 => ?_)
      exact K_22 _ _ _ _ hS (lv_sub hl [] rfl)
set_option maxHeartbeats 4000000 in
set_option maxRecDepth 100000 in
theorem c_X3_look_1_6 (l : Launch) (X : tq_X) (Z : tq_Z) (f : Nat → va_E) (h0 : Nat) (z_h0 : tq_z Z h0 (.inr (.inl (1, 6)))) (x1 : Int32) : tq_Mp l X Z f yX3_look cX3_look 2 (some .int) 0 [.ref h0, .int x1] (tq_ri (-2147483648) 2147483647) := by
  refine tq_startip (by decide) (Nat.le_of_ble_eq_true rfl) (fun p e R s m args below meth c Q hC hret hS ls hl => ?_)
  have hC : tq_C p R s m args c X (tq_A Z) RX3 cX3_look 2 0 := hC
  have hx := hC.1.1
  have hb := hC.1.2.1
  have hown := hC.1.2.2.2.1
  have hts := hC.1.2.2.2.2
  have hl : lv_has ls 2 [(0, .ref h0), (1, .int x1)] := hl
  refine lv_iload_n hx hb dX3_look_0 rfl (lv_at hl 1 rfl) ?_
  have K_17 : ∀ (y0_17 : Int32) (ls : Array Slot), lv_has ls 2 [] → W p l e R s m args below meth c s.heap [] 0 0 Q (F0 m 17 ls [.int y0_17]) := by
    intro y0_17 ls  hl
    exact hret y0_17 _ _ rfl ⟨_, rfl, tq_w (tq_top y0_17) (by decide) (by decide)⟩ dX3_look_17
  have K_16 : ∀ (ls : Array Slot), lv_has ls 2 [] → W p l e R s m args below meth c s.heap [] 0 0 Q (F0 m 16 ls []) := by
    intro  ls  hl
    refine lv_iconst (v := 0) hx hb dX3_look_16 (by decide) ?_
    exact K_17 0 _ (lv_sub hl [] rfl)
  refine lv_if_lt (tgt := 16) hx hb dX3_look_1 (by decide) (fun c_1 => ?_) (fun c_1 => ?_)
  · skip
    have i1_x1 : tq_iv (-2147483648) (-1) x1 := tq_cut (tq_top x1) (tq_ltL c_1 (tq_top x1) (⟨by decide, by decide⟩ : tq_iv 0 0 0)) (by decide) (by decide)
    exact K_16 _ (lv_sub hl [] rfl)
  · skip
    have i2_x1 : tq_iv 0 2147483647 x1 := tq_cut (tq_top x1) (tq_leR (tq_nlt c_1) (⟨by decide, by decide⟩ : tq_iv 0 0 0) (tq_top x1)) (by decide) (by decide)
    refine lv_iload_n hx hb dX3_look_4 rfl (lv_at hl 1 rfl) ?_
    refine lv_aload_n hx hb dX3_look_5 rfl (lv_at hl 0 rfl) ?_
    refine tq_alenA hC hS z_h0 rfl (v := 6) (by decide) dX3_look_6 ?_
    refine lv_icmp_ge (tgt := 16) hx hb dX3_look_7 (by decide) (fun c_7 => ?_) (fun c_7 => ?_)
    · skip
      have i3_x1 : tq_iv 6 2147483647 x1 := tq_cut i2_x1 (tq_leR c_7 (⟨by decide, by decide⟩ : tq_iv 6 6 6) i2_x1) (by decide) (by decide)
      exact K_16 _ (lv_sub hl [] rfl)
    · skip
      have i4_x1 : tq_iv 0 5 x1 := tq_cut i2_x1 (tq_ltL (tq_nle c_7) i2_x1 (⟨by decide, by decide⟩ : tq_iv 6 6 6)) (by decide) (by decide)
      refine lv_aload_n hx hb dX3_look_10 rfl (lv_at hl 0 rfl) ?_
      refine lv_iload_n hx hb dX3_look_11 rfl (lv_at hl 1 rfl) ?_
      refine tq_iald hC hS z_h0 rfl (tq_vin i4_x1 (by decide) (by decide)) dX3_look_12 (fun t_12 p_12 => ?_)
      refine lv_goto (tgt := 17) hx hb dX3_look_13 (by decide) ?_
      exact K_17 t_12 _ (lv_sub hl [] rfl)
set_option maxHeartbeats 4000000 in
set_option maxRecDepth 100000 in
theorem c_X3_mustOf (l : Launch) (X : tq_X) (Z : tq_Z) (f : Nat → va_E) (h0 : Nat) (z_h0 : tq_z Z h0 (.inl 3)) (x1 : Int32) : tq_Mp l X Z f yX3_mustOf cX3_mustOf 2 (some .int) 1 [.ref h0, .int x1] (tq_ri (-2147483648) 2147483647) := by
  refine tq_startip (by decide) (Nat.le_of_ble_eq_true rfl) (fun p e R s m args below meth c Q hC hret hS ls hl => ?_)
  have hC : tq_C p R s m args c X (tq_A Z) RX3 cX3_mustOf 2 1 := hC
  have hx := hC.1.1
  have hb := hC.1.2.1
  have hown := hC.1.2.2.2.1
  have hts := hC.1.2.2.2.2
  have hl : lv_has ls 2 [(0, .ref h0), (1, .int x1)] := hl
  refine lv_aload_n hx hb dX3_mustOf_0 rfl (lv_at hl 0 rfl) ?_
  refine gf_RX3_42 hC hS z_h0 dX3_mustOf_1 (fun t_1 p_1 q_1 => ?_)
  refine lv_iload_n hx hb dX3_mustOf_4 rfl (lv_at hl 1 rfl) ?_
  refine tq_callSpi (As := [.ref t_1, .int x1]) (rest := []) hC (c_X3_look_1_6 l X Z _ t_1 p_1 x1) k_X3_look ql_RX3_100 rfl (by decide) hS hl.1 rfl (Nat.le_of_ble_eq_true rfl) ⟨Nat.zero_le _, Nat.zero_le _⟩ dX3_mustOf_5 (fun t_5 p_5 => ?_)
  exact hret t_5 _ _ rfl ⟨_, rfl, tq_w (tq_top t_5) (by decide) (by decide)⟩ dX3_mustOf_8
set_option maxHeartbeats 4000000 in
set_option maxRecDepth 100000 in
theorem c_X3_neverOf (l : Launch) (X : tq_X) (Z : tq_Z) (f : Nat → va_E) (h0 : Nat) (z_h0 : tq_z Z h0 (.inl 3)) (x1 : Int32) : tq_Mp l X Z f yX3_neverOf cX3_neverOf 2 (some .int) 1 [.ref h0, .int x1] (tq_ri (-2147483648) 2147483647) := by
  refine tq_startip (by decide) (Nat.le_of_ble_eq_true rfl) (fun p e R s m args below meth c Q hC hret hS ls hl => ?_)
  have hC : tq_C p R s m args c X (tq_A Z) RX3 cX3_neverOf 2 1 := hC
  have hx := hC.1.1
  have hb := hC.1.2.1
  have hown := hC.1.2.2.2.1
  have hts := hC.1.2.2.2.2
  have hl : lv_has ls 2 [(0, .ref h0), (1, .int x1)] := hl
  refine lv_aload_n hx hb dX3_neverOf_0 rfl (lv_at hl 0 rfl) ?_
  refine gf_RX3_45 hC hS z_h0 dX3_neverOf_1 (fun t_1 p_1 q_1 => ?_)
  refine lv_iload_n hx hb dX3_neverOf_4 rfl (lv_at hl 1 rfl) ?_
  refine tq_callSpi (As := [.ref t_1, .int x1]) (rest := []) hC (c_X3_look_1_6 l X Z _ t_1 p_1 x1) k_X3_look ql_RX3_100 rfl (by decide) hS hl.1 rfl (Nat.le_of_ble_eq_true rfl) ⟨Nat.zero_le _, Nat.zero_le _⟩ dX3_neverOf_5 (fun t_5 p_5 => ?_)
  exact hret t_5 _ _ rfl ⟨_, rfl, tq_w (tq_top t_5) (by decide) (by decide)⟩ dX3_neverOf_8
set_option maxHeartbeats 4000000 in
set_option maxRecDepth 100000 in
theorem c_X4_readRule (l : Launch) (X : tq_X) (Z : tq_Z) (f : Nat → va_E) (h0 : Nat) (z_h0 : tq_z Z h0 (.inl 4)) : tq_M l X Z f [(4, 1), (4, 2), (9, 3), (9, 4), (9, 5), (9, 6), (9, 7)] yX4_readRule cX4_readRule 4 (some .boolean) 6 [.ref h0] (tq_ri 0 1) := by
  refine tq_starti (by decide) (Nat.le_of_ble_eq_true rfl) (fun p e R s m args below meth c Q hC hret hS ls hl => ?_)
  have hC : tq_C p R s m args c X (tq_A Z) RX4 cX4_readRule 4 6 := hC
  have hx := hC.1.1
  have hb := hC.1.2.1
  have hown := hC.1.2.2.2.1
  have hts := hC.1.2.2.2.2
  have hl : lv_has ls 4 [(0, .ref h0)] := hl
  generalize hf0 : f = f0 at hret
  have hS : tq_S X Z (tq_A Z) s.heap f0 [(4, 1), (4, 2), (9, 3), (9, 4), (9, 5), (9, 6), (9, 7)] f s.heap [] := hf0 ▸ hS
  refine lv_aload_n hx hb dX4_readRule_0 rfl (lv_at hl 0 rfl) ?_
  refine gf_RX4_30 hC hS z_h0 dX4_readRule_1 (fun t_1 p_1 q_1 => ?_)
  refine gf_RX4_49 hC hS p_1 dX4_readRule_4 (fun t_4 p_4 q_4 => ?_)
  refine lv_bipush (v := 8) hx hb dX4_readRule_7 (by decide) ?_
  have K_17 : ∀ (y0_17 : Int32) (f : Nat → va_E) (H : Heap) (locs : List Loc) (ls : Array Slot), tq_S X Z (tq_A Z) s.heap f0 [(4, 1), (4, 2), (9, 3), (9, 4), (9, 5), (9, 6), (9, 7)] f H locs → tq_iv 0 1 y0_17 → lv_has ls 4 [(0, .ref h0)] → W p l e R s m args below meth c H locs 0 0 Q (F0 m 17 ls [.int y0_17]) := by
    intro y0_17 f H locs ls  hS i1_y0_17 hl
    refine lv_istore_n (lv' := [(1, .int y0_17), (0, .ref h0)]) hx hb dX4_readRule_17 rfl hl (by decide) rfl (fun ls hl => ?_)
    refine lv_aload_n hx hb dX4_readRule_18 rfl (lv_at hl 1 rfl) ?_
    refine gf_RX4_30 hC hS z_h0 dX4_readRule_19 (fun t_19 p_19 q_19 => ?_)
    refine tq_callVv (As := []) (rest := []) hC (c_X9_advance l X Z _ t_19 p_19) k_X9_advance ql_RX4_66 (by decide) rfl (by decide) hS p_19 rfl hl.1 rfl (Nat.le_of_ble_eq_true rfl) ⟨Nat.zero_le _, Nat.zero_le _⟩ dX4_readRule_22 (fun f1_22 H locs hS k_22 => ?_)
    refine lv_aload_n hx hb dX4_readRule_25 rfl (lv_at hl 1 rfl) ?_
    refine lv_iconst (v := 0) hx hb dX4_readRule_26 (by decide) ?_
    refine lv_aload_n hx hb dX4_readRule_27 rfl (lv_at hl 1 rfl) ?_
    refine gf_RX4_12 hC hS z_h0 dX4_readRule_28 (fun t_28 p_28 q_28 => ?_)
    refine gf_RX4_100 hC hS p_28 dX4_readRule_31 (fun t_31 p_31 q_31 => ?_)
    refine tq_callVi (As := [.int 0, .int t_31]) (rest := []) hC (c_X4_knownName l X Z _ h0 z_h0 0 t_31) k_X4_knownName ql_RX4_180 (by decide) rfl (by decide) hS z_h0 rfl hl.1 rfl (Nat.le_of_ble_eq_true rfl) ⟨Nat.zero_le _, Nat.zero_le _⟩ dX4_readRule_34 (fun t_34 f1_34 H locs p_34 hS k_34 => ?_)
    refine lv_istore_n (lv' := [(2, .int t_34), (1, .int y0_17), (0, .ref h0)]) hx hb dX4_readRule_37 rfl hl (by decide) rfl (fun ls hl => ?_)
    refine lv_iload_n hx hb dX4_readRule_38 rfl (lv_at hl 0 rfl) ?_
    refine lv_iconst (v := -1) hx hb dX4_readRule_39 (by decide) ?_
    refine lv_icmp_ne (tgt := 45) hx hb dX4_readRule_40 (by decide) (fun c_40 => ?_) (fun c_40 => ?_)
    · skip
      have i2_t_34 : tq_iv 0 7 t_34 := tq_w (tq_neLo c_40 p_34 (⟨by decide, by decide⟩ : tq_iv (-1) (-1) (-1))) (by decide) (by decide)
      refine lv_aload_n hx hb dX4_readRule_45 rfl (lv_at hl 2 rfl) ?_
      refine gf_RX4_30 hC hS z_h0 dX4_readRule_46 (fun t_46 p_46 q_46 => ?_)
      refine tq_callVv (As := []) (rest := []) hC (c_X9_advance l X Z _ t_46 p_46) k_X9_advance ql_RX4_66 (by decide) rfl (by decide) hS p_46 rfl hl.1 rfl (Nat.le_of_ble_eq_true rfl) ⟨Nat.zero_le _, Nat.zero_le _⟩ dX4_readRule_49 (fun f1_49 H locs hS k_49 => ?_)
      refine lv_aload_n hx hb dX4_readRule_52 rfl (lv_at hl 2 rfl) ?_
      refine lv_iconst (v := 1) hx hb dX4_readRule_53 (by decide) ?_
      refine lv_aload_n hx hb dX4_readRule_54 rfl (lv_at hl 2 rfl) ?_
      refine gf_RX4_12 hC hS z_h0 dX4_readRule_55 (fun t_55 p_55 q_55 => ?_)
      refine gf_RX4_103 hC hS p_55 dX4_readRule_58 (fun t_58 p_58 q_58 => ?_)
      refine tq_callVi (As := [.int 1, .int t_58]) (rest := []) hC (c_X4_knownName l X Z _ h0 z_h0 1 t_58) k_X4_knownName ql_RX4_180 (by decide) rfl (by decide) hS z_h0 rfl hl.1 rfl (Nat.le_of_ble_eq_true rfl) ⟨Nat.zero_le _, Nat.zero_le _⟩ dX4_readRule_61 (fun t_61 f1_61 H locs p_61 hS k_61 => ?_)
      refine lv_istore_n (lv' := [(3, .int t_61), (2, .int t_34), (1, .int y0_17), (0, .ref h0)]) hx hb dX4_readRule_64 rfl hl (by decide) rfl (fun ls hl => ?_)
      refine lv_iload_n hx hb dX4_readRule_65 rfl (lv_at hl 0 rfl) ?_
      refine lv_iconst (v := -1) hx hb dX4_readRule_66 (by decide) ?_
      refine lv_icmp_ne (tgt := 72) hx hb dX4_readRule_67 (by decide) (fun c_67 => ?_) (fun c_67 => ?_)
      · skip
        have i3_t_61 : tq_iv 0 7 t_61 := tq_w (tq_neLo c_67 p_61 (⟨by decide, by decide⟩ : tq_iv (-1) (-1) (-1))) (by decide) (by decide)
        refine lv_aload_n hx hb dX4_readRule_72 rfl (lv_at hl 3 rfl) ?_
        refine gf_RX4_12 hC hS z_h0 dX4_readRule_73 (fun t_73 p_73 q_73 => ?_)
        refine lv_iload_n hx hb dX4_readRule_76 rfl (lv_at hl 0 rfl) ?_
        refine tq_callVpi (As := [.int t_61]) (rest := []) hC (c_X3_mustOf l X Z _ t_73 p_73 t_61) k_X3_mustOf ql_RX4_199 rfl (by decide) hS p_73 rfl hl.1 rfl (Nat.le_of_ble_eq_true rfl) ⟨Nat.zero_le _, Nat.zero_le _⟩ dX4_readRule_77 (fun t_77 p_77 => ?_)
        refine lv_aload_n hx hb dX4_readRule_80 rfl (lv_at hl 3 rfl) ?_
        refine gf_RX4_12 hC hS z_h0 dX4_readRule_81 (fun t_81 p_81 q_81 => ?_)
        refine lv_iload_n hx hb dX4_readRule_84 rfl (lv_at hl 0 rfl) ?_
        refine tq_callVpi (As := [.int t_61]) (rest := [.int t_77]) hC (c_X3_neverOf l X Z _ t_81 p_81 t_61) k_X3_neverOf ql_RX4_202 rfl (by decide) hS p_81 rfl hl.1 rfl (Nat.le_of_ble_eq_true rfl) ⟨Nat.zero_le _, Nat.zero_le _⟩ dX4_readRule_85 (fun t_85 p_85 => ?_)
        refine lv_ior hx hb dX4_readRule_88 ?_
        refine lv_topi (fun t_88 e_88 => ?_)
        refine lv_iload_n hx hb dX4_readRule_89 rfl (lv_at hl 1 rfl) ?_
        refine lv_ishr hx hb dX4_readRule_90 ?_
        refine lv_topi (fun t_90 e_90 => ?_)
        refine lv_iconst (v := 1) hx hb dX4_readRule_91 (by decide) ?_
        refine lv_iand hx hb dX4_readRule_92 ?_
        refine lv_topi (fun t_92 e_92 => ?_)
        have i4_t_92 : tq_iv 0 1 t_92 := tq_and2 e_92 (⟨by decide, by decide⟩ : tq_iv 1 1 1) (by decide)
        refine lv_if_eq (tgt := 102) hx hb dX4_readRule_93 (by decide) (fun c_93 => ?_) (fun c_93 => ?_)
        · skip
          have i5_t_92 : tq_iv 0 0 t_92 := tq_cut i4_t_92 (tq_eqL c_93 (⟨by decide, by decide⟩ : tq_iv 0 0 0)) (by decide) (by decide)
          refine lv_iload_n hx hb dX4_readRule_102 rfl (lv_at hl 2 rfl) ?_
          have K_127 : ∀ (f : Nat → va_E) (H : Heap) (locs : List Loc) (ls : Array Slot), tq_S X Z (tq_A Z) s.heap f0 [(4, 1), (4, 2), (9, 3), (9, 4), (9, 5), (9, 6), (9, 7)] f H locs → lv_has ls 4 [(0, .ref h0)] → W p l e R s m args below meth c H locs 0 0 Q (F0 m 127 ls []) := by
            intro f H locs ls  hS hl
            refine lv_aload_n hx hb dX4_readRule_127 rfl (lv_at hl 0 rfl) ?_
            refine gf_RX4_30 hC hS z_h0 dX4_readRule_128 (fun t_128 p_128 q_128 => ?_)
            refine tq_callVv (As := []) (rest := []) hC (c_X9_advance l X Z _ t_128 p_128) k_X9_advance ql_RX4_66 (by decide) rfl (by decide) hS p_128 rfl hl.1 rfl (Nat.le_of_ble_eq_true rfl) ⟨Nat.zero_le _, Nat.zero_le _⟩ dX4_readRule_131 (fun f1_131 H locs hS k_131 => ?_)
            refine lv_aload_n hx hb dX4_readRule_134 rfl (lv_at hl 0 rfl) ?_
            refine lv_bipush (v := 59) hx hb dX4_readRule_135 (by decide) ?_
            refine tq_callVi (As := [.int 59]) (rest := []) hC (c_X4_expect l X Z _ h0 z_h0 59) k_X4_expect ql_RX4_97 (by decide) rfl (by decide) hS z_h0 rfl hl.1 rfl (Nat.le_of_ble_eq_true rfl) ⟨Nat.zero_le _, Nat.zero_le _⟩ dX4_readRule_137 (fun t_137 f1_137 H locs p_137 hS k_137 => ?_)
            exact hret t_137 _ _ _ _ _ (tq_nb p_137 (by decide) (by decide)) ⟨_, rfl, tq_w p_137 (by decide) (by decide)⟩ hS dX4_readRule_140
          refine lv_if_eq (tgt := 118) hx hb dX4_readRule_103 (by decide) (fun c_103 => ?_) (fun c_103 => ?_)
          · skip
            have i6_y0_17 : tq_iv 0 0 y0_17 := tq_cut i1_y0_17 (tq_eqL c_103 (⟨by decide, by decide⟩ : tq_iv 0 0 0)) (by decide) (by decide)
            refine lv_aload_n hx hb dX4_readRule_118 rfl (lv_at hl 3 rfl) ?_
            refine gf_RX4_12 hC hS z_h0 dX4_readRule_119 (fun t_119 p_119 q_119 => ?_)
            refine lv_iload_n hx hb dX4_readRule_122 rfl (lv_at hl 1 rfl) ?_
            refine lv_iload_n hx hb dX4_readRule_123 rfl (lv_at hl 0 rfl) ?_
            refine tq_callVv (As := [.int t_34, .int t_61]) (rest := []) hC (c_X3_addNever l X Z _ t_119 p_119 t_34 t_61) k_X3_addNever ql_RX4_208 (by decide) rfl (by decide) hS p_119 rfl hl.1 rfl (Nat.le_of_ble_eq_true rfl) ⟨Nat.zero_le _, Nat.zero_le _⟩ dX4_readRule_124 (fun f1_124 H locs hS k_124 => ?_)
            exact K_127 _ _ _ _ hS (lv_sub hl [3] rfl)
          · skip
            have i7_y0_17 : tq_iv 1 1 y0_17 := tq_w (tq_neLo c_103 i1_y0_17 (⟨by decide, by decide⟩ : tq_iv 0 0 0)) (by decide) (by decide)
            refine lv_aload_n hx hb dX4_readRule_106 rfl (lv_at hl 3 rfl) ?_
            refine gf_RX4_12 hC hS z_h0 dX4_readRule_107 (fun t_107 p_107 q_107 => ?_)
            refine lv_iload_n hx hb dX4_readRule_110 rfl (lv_at hl 1 rfl) ?_
            refine lv_iload_n hx hb dX4_readRule_111 rfl (lv_at hl 0 rfl) ?_
            refine tq_callVv (As := [.int t_34, .int t_61]) (rest := []) hC (c_X3_addMust l X Z _ t_107 p_107 t_34 t_61) k_X3_addMust ql_RX4_205 (by decide) rfl (by decide) hS p_107 rfl hl.1 rfl (Nat.le_of_ble_eq_true rfl) ⟨Nat.zero_le _, Nat.zero_le _⟩ dX4_readRule_112 (fun f1_112 H locs hS k_112 => ?_)
            refine lv_goto (tgt := 127) hx hb dX4_readRule_115 (by decide) ?_
            exact K_127 _ _ _ _ hS (lv_sub hl [3] rfl)
        · skip
          have i8_t_92 : tq_iv 1 1 t_92 := tq_w (tq_neLo c_93 i4_t_92 (⟨by decide, by decide⟩ : tq_iv 0 0 0)) (by decide) (by decide)
          refine lv_aload_n hx hb dX4_readRule_96 rfl (lv_at hl 3 rfl) ?_
          refine lv_iconst (v := 3) hx hb dX4_readRule_97 (by decide) ?_
          refine tq_callVi (As := [.int 3]) (rest := []) hC (c_X4_blame l X Z _ h0 z_h0 3) k_X4_blame ql_RX4_59 (by decide) rfl (by decide) hS z_h0 rfl hl.1 rfl (Nat.le_of_ble_eq_true rfl) ⟨Nat.zero_le _, Nat.zero_le _⟩ dX4_readRule_98 (fun t_98 f1_98 H locs p_98 hS k_98 => ?_)
          exact hret t_98 _ _ _ _ _ (tq_nb p_98 (by decide) (by decide)) ⟨_, rfl, tq_w p_98 (by decide) (by decide)⟩ hS dX4_readRule_101
      · skip
        have i9_t_61 : tq_iv (-1) (-1) t_61 := tq_cut p_61 (tq_eqL c_67 (⟨by decide, by decide⟩ : tq_iv (-1) (-1) (-1))) (by decide) (by decide)
        refine lv_iconst (v := 0) hx hb dX4_readRule_70 (by decide) ?_
        exact hret 0 _ _ _ _ _ (tq_nb (⟨by decide, by decide⟩ : tq_iv 0 0 0) (by decide) (by decide)) ⟨_, rfl, tq_w (⟨by decide, by decide⟩ : tq_iv 0 0 0) (by decide) (by decide)⟩ hS dX4_readRule_71
    · skip
      have i10_t_34 : tq_iv (-1) (-1) t_34 := tq_cut p_34 (tq_eqL c_40 (⟨by decide, by decide⟩ : tq_iv (-1) (-1) (-1))) (by decide) (by decide)
      refine lv_iconst (v := 0) hx hb dX4_readRule_43 (by decide) ?_
      exact hret 0 _ _ _ _ _ (tq_nb (⟨by decide, by decide⟩ : tq_iv 0 0 0) (by decide) (by decide)) ⟨_, rfl, tq_w (⟨by decide, by decide⟩ : tq_iv 0 0 0) (by decide) (by decide)⟩ hS dX4_readRule_44
  refine lv_icmp_ne (tgt := 16) hx hb dX4_readRule_9 (by decide) (fun c_9 => ?_) (fun c_9 => ?_)
  · skip
    refine lv_iconst (v := 0) hx hb dX4_readRule_16 (by decide) ?_
    exact K_17 0 _ _ _ _ hS (tq_w (⟨by decide, by decide⟩ : tq_iv 0 0 0) (by decide) (by decide)) (lv_sub hl [0] rfl)
  · skip
    have i11_t_4 : tq_iv 8 8 t_4 := tq_cut (tq_top t_4) (tq_eqL c_9 (⟨by decide, by decide⟩ : tq_iv 8 8 8)) (by decide) (by decide)
    refine lv_iconst (v := 1) hx hb dX4_readRule_12 (by decide) ?_
    refine lv_goto (tgt := 17) hx hb dX4_readRule_13 (by decide) ?_
    exact K_17 1 _ _ _ _ hS (tq_w (⟨by decide, by decide⟩ : tq_iv 1 1 1) (by decide) (by decide)) (lv_sub hl [0] rfl)
set_option maxHeartbeats 4000000 in
set_option maxRecDepth 100000 in
theorem c_X4_readLine (l : Launch) (X : tq_X) (Z : tq_Z) (f : Nat → va_E) (h0 : Nat) (z_h0 : tq_z Z h0 (.inl 4)) : tq_M l X Z f [(0, 0), (0, 1), (3, 3), (3, 4), (3, 5), (3, 6), (3, 7), (4, 1), (4, 2), (4, 5), (6, 0), (6, 1), (6, 2), (9, 3), (9, 4), (9, 5), (9, 6), (9, 7)] yX4_readLine cX4_readLine 1 (some .boolean) 53 [.ref h0] (tq_ri 0 1) := by
  refine tq_starti (by decide) (Nat.le_of_ble_eq_true rfl) (fun p e R s m args below meth c Q hC hret hS ls hl => ?_)
  have hC : tq_C p R s m args c X (tq_A Z) RX4 cX4_readLine 1 53 := hC
  have hx := hC.1.1
  have hb := hC.1.2.1
  have hown := hC.1.2.2.2.1
  have hts := hC.1.2.2.2.2
  have hl : lv_has ls 1 [(0, .ref h0)] := hl
  generalize hf0 : f = f0 at hret
  have hS : tq_S X Z (tq_A Z) s.heap f0 [(0, 0), (0, 1), (3, 3), (3, 4), (3, 5), (3, 6), (3, 7), (4, 1), (4, 2), (4, 5), (6, 0), (6, 1), (6, 2), (9, 3), (9, 4), (9, 5), (9, 6), (9, 7)] f s.heap [] := hf0 ▸ hS
  refine lv_aload_n hx hb dX4_readLine_0 rfl (lv_at hl 0 rfl) ?_
  refine gf_RX4_30 hC hS z_h0 dX4_readLine_1 (fun t_1 p_1 q_1 => ?_)
  refine gf_RX4_49 hC hS p_1 dX4_readLine_4 (fun t_4 p_4 q_4 => ?_)
  have K_115 : ∀ (f : Nat → va_E) (H : Heap) (locs : List Loc) (ls : Array Slot), tq_S X Z (tq_A Z) s.heap f0 [(0, 0), (0, 1), (3, 3), (3, 4), (3, 5), (3, 6), (3, 7), (4, 1), (4, 2), (4, 5), (6, 0), (6, 1), (6, 2), (9, 3), (9, 4), (9, 5), (9, 6), (9, 7)] f H locs → tq_iv 8 9 t_4 → lv_has ls 1 [(0, .ref h0)] → W p l e R s m args below meth c H locs 0 0 Q (F0 m 115 ls []) := by
    intro f H locs ls  hS i1_t_4 hl
    refine lv_aload_n hx hb dX4_readLine_115 rfl (lv_at hl 0 rfl) ?_
    refine tq_callVi (As := []) (rest := []) hC (c_X4_readRule l X Z _ h0 z_h0) k_X4_readRule ql_RX4_88 (by decide) rfl (by decide) hS z_h0 rfl hl.1 rfl (Nat.le_of_ble_eq_true rfl) ⟨Nat.zero_le _, Nat.zero_le _⟩ dX4_readLine_116 (fun t_116 f1_116 H locs p_116 hS k_116 => ?_)
    exact hret t_116 _ _ _ _ _ (tq_nb p_116 (by decide) (by decide)) ⟨_, rfl, tq_w p_116 (by decide) (by decide)⟩ hS dX4_readLine_119
  by_cases s_7_0 : Int32.toInt t_4 = 0
  · refine lv_tableIn (tgt := 68) hx hb dX4_readLine_7 (by omega) (by omega) (by first | (rw [s_7_0]; done) | (rw [s_7_0]; rfl)) (by decide) ?_
    have i2_t_4 : tq_iv 0 0 t_4 := ⟨by omega, by omega⟩
    refine lv_aload_n hx hb dX4_readLine_68 rfl (lv_at hl 0 rfl) ?_
    refine lv_iconst (v := 2) hx hb dX4_readLine_69 (by decide) ?_
    refine lv_iconst (v := 5) hx hb dX4_readLine_70 (by decide) ?_
    refine tq_callVi (As := [.int 2, .int 5]) (rest := []) hC (c_X4_readOnce l X Z _ h0 z_h0 2 (tq_w (⟨by decide, by decide⟩ : tq_iv 2 2 2) (by decide) (by decide)) 5 (tq_w (⟨by decide, by decide⟩ : tq_iv 5 5 5) (by decide) (by decide))) k_X4_readOnce ql_RX4_69 (by decide) rfl (by decide) hS z_h0 rfl hl.1 rfl (Nat.le_of_ble_eq_true rfl) ⟨Nat.zero_le _, Nat.zero_le _⟩ dX4_readLine_71 (fun t_71 f1_71 H locs p_71 hS k_71 => ?_)
    exact hret t_71 _ _ _ _ _ (tq_nb p_71 (by decide) (by decide)) ⟨_, rfl, tq_w p_71 (by decide) (by decide)⟩ hS dX4_readLine_74
  by_cases s_7_1 : Int32.toInt t_4 = 1
  · refine lv_tableIn (tgt := 75) hx hb dX4_readLine_7 (by omega) (by omega) (by first | (rw [s_7_1]; done) | (rw [s_7_1]; rfl)) (by decide) ?_
    have i3_t_4 : tq_iv 1 1 t_4 := ⟨by omega, by omega⟩
    refine lv_aload_n hx hb dX4_readLine_75 rfl (lv_at hl 0 rfl) ?_
    refine lv_iconst (v := 2) hx hb dX4_readLine_76 (by decide) ?_
    refine lv_bipush (v := 6) hx hb dX4_readLine_77 (by decide) ?_
    refine tq_callVi (As := [.int 2, .int 6]) (rest := []) hC (c_X4_readOnce l X Z _ h0 z_h0 2 (tq_w (⟨by decide, by decide⟩ : tq_iv 2 2 2) (by decide) (by decide)) 6 (tq_w (⟨by decide, by decide⟩ : tq_iv 6 6 6) (by decide) (by decide))) k_X4_readOnce ql_RX4_69 (by decide) rfl (by decide) hS z_h0 rfl hl.1 rfl (Nat.le_of_ble_eq_true rfl) ⟨Nat.zero_le _, Nat.zero_le _⟩ dX4_readLine_79 (fun t_79 f1_79 H locs p_79 hS k_79 => ?_)
    exact hret t_79 _ _ _ _ _ (tq_nb p_79 (by decide) (by decide)) ⟨_, rfl, tq_w p_79 (by decide) (by decide)⟩ hS dX4_readLine_82
  by_cases s_7_2 : Int32.toInt t_4 = 2
  · refine lv_tableIn (tgt := 83) hx hb dX4_readLine_7 (by omega) (by omega) (by first | (rw [s_7_2]; done) | (rw [s_7_2]; rfl)) (by decide) ?_
    have i4_t_4 : tq_iv 2 2 t_4 := ⟨by omega, by omega⟩
    refine lv_aload_n hx hb dX4_readLine_83 rfl (lv_at hl 0 rfl) ?_
    refine lv_iconst (v := 0) hx hb dX4_readLine_84 (by decide) ?_
    refine lv_iconst (v := 5) hx hb dX4_readLine_85 (by decide) ?_
    refine tq_callVi (As := [.int 0, .int 5]) (rest := []) hC (c_X4_readOnce l X Z _ h0 z_h0 0 (tq_w (⟨by decide, by decide⟩ : tq_iv 0 0 0) (by decide) (by decide)) 5 (tq_w (⟨by decide, by decide⟩ : tq_iv 5 5 5) (by decide) (by decide))) k_X4_readOnce ql_RX4_69 (by decide) rfl (by decide) hS z_h0 rfl hl.1 rfl (Nat.le_of_ble_eq_true rfl) ⟨Nat.zero_le _, Nat.zero_le _⟩ dX4_readLine_86 (fun t_86 f1_86 H locs p_86 hS k_86 => ?_)
    exact hret t_86 _ _ _ _ _ (tq_nb p_86 (by decide) (by decide)) ⟨_, rfl, tq_w p_86 (by decide) (by decide)⟩ hS dX4_readLine_89
  by_cases s_7_3 : Int32.toInt t_4 = 3
  · refine lv_tableIn (tgt := 90) hx hb dX4_readLine_7 (by omega) (by omega) (by first | (rw [s_7_3]; done) | (rw [s_7_3]; rfl)) (by decide) ?_
    have i5_t_4 : tq_iv 3 3 t_4 := ⟨by omega, by omega⟩
    refine lv_aload_n hx hb dX4_readLine_90 rfl (lv_at hl 0 rfl) ?_
    refine tq_callVi (As := []) (rest := []) hC (c_X4_readKey l X Z _ h0 z_h0) k_X4_readKey ql_RX4_73 (by decide) rfl (by decide) hS z_h0 rfl hl.1 rfl (Nat.le_of_ble_eq_true rfl) ⟨Nat.zero_le _, Nat.zero_le _⟩ dX4_readLine_91 (fun t_91 f1_91 H locs p_91 hS k_91 => ?_)
    exact hret t_91 _ _ _ _ _ (tq_nb p_91 (by decide) (by decide)) ⟨_, rfl, tq_w p_91 (by decide) (by decide)⟩ hS dX4_readLine_94
  by_cases s_7_4 : Int32.toInt t_4 = 4
  · refine lv_tableIn (tgt := 95) hx hb dX4_readLine_7 (by omega) (by omega) (by first | (rw [s_7_4]; done) | (rw [s_7_4]; rfl)) (by decide) ?_
    have i6_t_4 : tq_iv 4 4 t_4 := ⟨by omega, by omega⟩
    refine lv_aload_n hx hb dX4_readLine_95 rfl (lv_at hl 0 rfl) ?_
    refine tq_callVi (As := []) (rest := []) hC (c_X4_readLock l X Z _ h0 z_h0) k_X4_readLock ql_RX4_76 (by decide) rfl (by decide) hS z_h0 rfl hl.1 rfl (Nat.le_of_ble_eq_true rfl) ⟨Nat.zero_le _, Nat.zero_le _⟩ dX4_readLine_96 (fun t_96 f1_96 H locs p_96 hS k_96 => ?_)
    exact hret t_96 _ _ _ _ _ (tq_nb p_96 (by decide) (by decide)) ⟨_, rfl, tq_w p_96 (by decide) (by decide)⟩ hS dX4_readLine_99
  by_cases s_7_5 : Int32.toInt t_4 = 5
  · refine lv_tableIn (tgt := 100) hx hb dX4_readLine_7 (by omega) (by omega) (by first | (rw [s_7_5]; done) | (rw [s_7_5]; rfl)) (by decide) ?_
    have i7_t_4 : tq_iv 5 5 t_4 := ⟨by omega, by omega⟩
    refine lv_aload_n hx hb dX4_readLine_100 rfl (lv_at hl 0 rfl) ?_
    refine tq_callVi (As := []) (rest := []) hC (c_X4_readRoom l X Z _ h0 z_h0) k_X4_readRoom ql_RX4_79 (by decide) rfl (by decide) hS z_h0 rfl hl.1 rfl (Nat.le_of_ble_eq_true rfl) ⟨Nat.zero_le _, Nat.zero_le _⟩ dX4_readLine_101 (fun t_101 f1_101 H locs p_101 hS k_101 => ?_)
    exact hret t_101 _ _ _ _ _ (tq_nb p_101 (by decide) (by decide)) ⟨_, rfl, tq_w p_101 (by decide) (by decide)⟩ hS dX4_readLine_104
  by_cases s_7_6 : Int32.toInt t_4 = 6
  · refine lv_tableIn (tgt := 105) hx hb dX4_readLine_7 (by omega) (by omega) (by first | (rw [s_7_6]; done) | (rw [s_7_6]; rfl)) (by decide) ?_
    have i8_t_4 : tq_iv 6 6 t_4 := ⟨by omega, by omega⟩
    refine lv_aload_n hx hb dX4_readLine_105 rfl (lv_at hl 0 rfl) ?_
    refine tq_callVi (As := []) (rest := []) hC (c_X4_readDoor l X Z _ h0 z_h0) k_X4_readDoor ql_RX4_82 (by decide) rfl (by decide) hS z_h0 rfl hl.1 rfl (Nat.le_of_ble_eq_true rfl) ⟨Nat.zero_le _, Nat.zero_le _⟩ dX4_readLine_106 (fun t_106 f1_106 H locs p_106 hS k_106 => ?_)
    exact hret t_106 _ _ _ _ _ (tq_nb p_106 (by decide) (by decide)) ⟨_, rfl, tq_w p_106 (by decide) (by decide)⟩ hS dX4_readLine_109
  by_cases s_7_7 : Int32.toInt t_4 = 7
  · refine lv_tableIn (tgt := 110) hx hb dX4_readLine_7 (by omega) (by omega) (by first | (rw [s_7_7]; done) | (rw [s_7_7]; rfl)) (by decide) ?_
    have i9_t_4 : tq_iv 7 7 t_4 := ⟨by omega, by omega⟩
    refine lv_aload_n hx hb dX4_readLine_110 rfl (lv_at hl 0 rfl) ?_
    refine tq_callVi (As := []) (rest := []) hC (c_X4_readPerson l X Z _ h0 z_h0) k_X4_readPerson ql_RX4_85 (by decide) rfl (by decide) hS z_h0 rfl hl.1 rfl (Nat.le_of_ble_eq_true rfl) ⟨Nat.zero_le _, Nat.zero_le _⟩ dX4_readLine_111 (fun t_111 f1_111 H locs p_111 hS k_111 => ?_)
    exact hret t_111 _ _ _ _ _ (tq_nb p_111 (by decide) (by decide)) ⟨_, rfl, tq_w p_111 (by decide) (by decide)⟩ hS dX4_readLine_114
  by_cases s_7_8 : Int32.toInt t_4 = 8
  · refine lv_tableIn (tgt := 115) hx hb dX4_readLine_7 (by omega) (by omega) (by first | (rw [s_7_8]; done) | (rw [s_7_8]; rfl)) (by decide) ?_
    have i10_t_4 : tq_iv 8 8 t_4 := ⟨by omega, by omega⟩
    exact K_115 _ _ _ _ hS (tq_w i10_t_4 (by decide) (by decide)) (lv_sub hl [0] rfl)
  by_cases s_7_9 : Int32.toInt t_4 = 9
  · refine lv_tableIn (tgt := 115) hx hb dX4_readLine_7 (by omega) (by omega) (by first | (rw [s_7_9]; done) | (rw [s_7_9]; rfl)) (by decide) ?_
    have i11_t_4 : tq_iv 9 9 t_4 := ⟨by omega, by omega⟩
    exact K_115 _ _ _ _ hS (tq_w i11_t_4 (by decide) (by decide)) (lv_sub hl [0] rfl)
  by_cases s_7_10 : Int32.toInt t_4 = 10
  · refine lv_tableIn (tgt := 120) hx hb dX4_readLine_7 (by omega) (by omega) (by first | (rw [s_7_10]; done) | (rw [s_7_10]; rfl)) (by decide) ?_
    have i12_t_4 : tq_iv 10 10 t_4 := ⟨by omega, by omega⟩
    refine lv_aload_n hx hb dX4_readLine_120 rfl (lv_at hl 0 rfl) ?_
    refine tq_callVi (As := []) (rest := []) hC (c_X4_beginOnce l X Z _ h0 z_h0) k_X4_beginOnce ql_RX4_91 (by decide) rfl (by decide) hS z_h0 rfl hl.1 rfl (Nat.le_of_ble_eq_true rfl) ⟨Nat.zero_le _, Nat.zero_le _⟩ dX4_readLine_121 (fun t_121 f1_121 H locs p_121 hS k_121 => ?_)
    have K_149 : ∀ (y0_149 : Int32) (f : Nat → va_E) (H : Heap) (locs : List Loc) (ls : Array Slot), tq_S X Z (tq_A Z) s.heap f0 [(0, 0), (0, 1), (3, 3), (3, 4), (3, 5), (3, 6), (3, 7), (4, 1), (4, 2), (4, 5), (6, 0), (6, 1), (6, 2), (9, 3), (9, 4), (9, 5), (9, 6), (9, 7)] f H locs → tq_iv 0 1 y0_149 → lv_has ls 1 [] → W p l e R s m args below meth c H locs 0 0 Q (F0 m 149 ls [.int y0_149]) := by
      intro y0_149 f H locs ls  hS i13_y0_149 hl
      exact hret y0_149 _ _ _ _ _ (tq_nb i13_y0_149 (by decide) (by decide)) ⟨_, rfl, tq_w i13_y0_149 (by decide) (by decide)⟩ hS dX4_readLine_149
    have K_148 : ∀ (f : Nat → va_E) (H : Heap) (locs : List Loc) (ls : Array Slot), tq_S X Z (tq_A Z) s.heap f0 [(0, 0), (0, 1), (3, 3), (3, 4), (3, 5), (3, 6), (3, 7), (4, 1), (4, 2), (4, 5), (6, 0), (6, 1), (6, 2), (9, 3), (9, 4), (9, 5), (9, 6), (9, 7)] f H locs → lv_has ls 1 [] → W p l e R s m args below meth c H locs 0 0 Q (F0 m 148 ls []) := by
      intro f H locs ls  hS hl
      refine lv_iconst (v := 0) hx hb dX4_readLine_148 (by decide) ?_
      exact K_149 0 _ _ _ _ hS (tq_w (⟨by decide, by decide⟩ : tq_iv 0 0 0) (by decide) (by decide)) (lv_sub hl [] rfl)
    refine lv_if_eq (tgt := 148) hx hb dX4_readLine_124 (by decide) (fun c_124 => ?_) (fun c_124 => ?_)
    · skip
      have i14_t_121 : tq_iv 0 0 t_121 := tq_cut p_121 (tq_eqL c_124 (⟨by decide, by decide⟩ : tq_iv 0 0 0)) (by decide) (by decide)
      exact K_148 _ _ _ _ hS (lv_sub hl [] rfl)
    · skip
      have i15_t_121 : tq_iv 1 1 t_121 := tq_w (tq_neLo c_124 p_121 (⟨by decide, by decide⟩ : tq_iv 0 0 0)) (by decide) (by decide)
      refine lv_aload_n hx hb dX4_readLine_127 rfl (lv_at hl 0 rfl) ?_
      refine lv_iconst (v := 0) hx hb dX4_readLine_128 (by decide) ?_
      refine tq_callVi (As := [.int 0]) (rest := []) hC (c_X4_readEither_0_0 l X Z _ h0 z_h0 0 (tq_w (⟨by decide, by decide⟩ : tq_iv 0 0 0) (by decide) (by decide))) k_X4_readEither ql_RX4_94 (by decide) rfl (by decide) hS z_h0 rfl hl.1 rfl (Nat.le_of_ble_eq_true rfl) ⟨Nat.zero_le _, Nat.zero_le _⟩ dX4_readLine_129 (fun t_129 f1_129 H locs p_129 hS k_129 => ?_)
      refine lv_if_eq (tgt := 148) hx hb dX4_readLine_132 (by decide) (fun c_132 => ?_) (fun c_132 => ?_)
      · skip
        have i16_t_129 : tq_iv 0 0 t_129 := tq_cut p_129 (tq_eqL c_132 (⟨by decide, by decide⟩ : tq_iv 0 0 0)) (by decide) (by decide)
        exact K_148 _ _ _ _ hS (lv_sub hl [] rfl)
      · skip
        have i17_t_129 : tq_iv 1 1 t_129 := tq_w (tq_neLo c_132 p_129 (⟨by decide, by decide⟩ : tq_iv 0 0 0)) (by decide) (by decide)
        refine lv_aload_n hx hb dX4_readLine_135 rfl (lv_at hl 0 rfl) ?_
        refine lv_bipush (v := 59) hx hb dX4_readLine_136 (by decide) ?_
        refine tq_callVi (As := [.int 59]) (rest := []) hC (c_X4_expect l X Z _ h0 z_h0 59) k_X4_expect ql_RX4_97 (by decide) rfl (by decide) hS z_h0 rfl hl.1 rfl (Nat.le_of_ble_eq_true rfl) ⟨Nat.zero_le _, Nat.zero_le _⟩ dX4_readLine_138 (fun t_138 f1_138 H locs p_138 hS k_138 => ?_)
        refine lv_if_eq (tgt := 148) hx hb dX4_readLine_141 (by decide) (fun c_141 => ?_) (fun c_141 => ?_)
        · skip
          have i18_t_138 : tq_iv 0 0 t_138 := tq_cut p_138 (tq_eqL c_141 (⟨by decide, by decide⟩ : tq_iv 0 0 0)) (by decide) (by decide)
          exact K_148 _ _ _ _ hS (lv_sub hl [] rfl)
        · skip
          have i19_t_138 : tq_iv 1 1 t_138 := tq_w (tq_neLo c_141 p_138 (⟨by decide, by decide⟩ : tq_iv 0 0 0)) (by decide) (by decide)
          refine lv_iconst (v := 1) hx hb dX4_readLine_144 (by decide) ?_
          refine lv_goto (tgt := 149) hx hb dX4_readLine_145 (by decide) ?_
          exact K_149 1 _ _ _ _ hS (tq_w (⟨by decide, by decide⟩ : tq_iv 1 1 1) (by decide) (by decide)) (lv_sub hl [] rfl)
  by_cases s_7_11 : Int32.toInt t_4 = 11
  · refine lv_tableIn (tgt := 150) hx hb dX4_readLine_7 (by omega) (by omega) (by first | (rw [s_7_11]; done) | (rw [s_7_11]; rfl)) (by decide) ?_
    have i20_t_4 : tq_iv 11 11 t_4 := ⟨by omega, by omega⟩
    refine lv_aload_n hx hb dX4_readLine_150 rfl (lv_at hl 0 rfl) ?_
    refine lv_iconst (v := 0) hx hb dX4_readLine_151 (by decide) ?_
    refine lv_sipush (v := 999) hx hb dX4_readLine_152 (by decide) ?_
    refine tq_callVi (As := [.int 0, .int 999]) (rest := []) hC (c_X4_readOnce l X Z _ h0 z_h0 0 (tq_w (⟨by decide, by decide⟩ : tq_iv 0 0 0) (by decide) (by decide)) 999 (tq_w (⟨by decide, by decide⟩ : tq_iv 999 999 999) (by decide) (by decide))) k_X4_readOnce ql_RX4_69 (by decide) rfl (by decide) hS z_h0 rfl hl.1 rfl (Nat.le_of_ble_eq_true rfl) ⟨Nat.zero_le _, Nat.zero_le _⟩ dX4_readLine_155 (fun t_155 f1_155 H locs p_155 hS k_155 => ?_)
    exact hret t_155 _ _ _ _ _ (tq_nb p_155 (by decide) (by decide)) ⟨_, rfl, tq_w p_155 (by decide) (by decide)⟩ hS dX4_readLine_158
  refine lv_tableOut (tgt := 159) hx hb dX4_readLine_7 (by omega) (by decide) ?_
  refine lv_aload_n hx hb dX4_readLine_159 rfl (lv_at hl 0 rfl) ?_
  refine tq_callVi (As := []) (rest := []) hC (c_X4_refuse l X Z _ h0 z_h0) k_X4_refuse ql_RX4_63 (by decide) rfl (by decide) hS z_h0 rfl hl.1 rfl (Nat.le_of_ble_eq_true rfl) ⟨Nat.zero_le _, Nat.zero_le _⟩ dX4_readLine_160 (fun t_160 f1_160 H locs p_160 hS k_160 => ?_)
  exact hret t_160 _ _ _ _ _ (tq_nb p_160 (by decide) (by decide)) ⟨_, rfl, tq_w p_160 (by decide) (by decide)⟩ hS dX4_readLine_163
set_option maxHeartbeats 4000000 in
set_option maxRecDepth 100000 in
theorem c_X9_begin (l : Launch) (X : tq_X) (Z : tq_Z) (f : Nat → va_E) (h0 : Nat) (z_h0 : tq_z Z h0 (.inl 9)) (x1 : Int32) : tq_M l X Z f [(9, 2), (9, 3), (9, 4), (9, 5), (9, 6), (9, 7)] yX9_begin cX9_begin 2 (none) 5 [.ref h0, .int x1] tq_rv := by
  refine tq_startv (by decide) (Nat.le_of_ble_eq_true rfl) (fun p e R s m args below meth c Q hC hret hS ls hl => ?_)
  have hC : tq_C p R s m args c X (tq_A Z) RX9 cX9_begin 2 5 := hC
  have hx := hC.1.1
  have hb := hC.1.2.1
  have hown := hC.1.2.2.2.1
  have hts := hC.1.2.2.2.2
  have hl : lv_has ls 2 [(0, .ref h0), (1, .int x1)] := hl
  generalize hf0 : f = f0 at hret
  have hS : tq_S X Z (tq_A Z) s.heap f0 [(9, 2), (9, 3), (9, 4), (9, 5), (9, 6), (9, 7)] f s.heap [] := hf0 ▸ hS
  refine lv_aload_n hx hb dX9_begin_0 rfl (lv_at hl 0 rfl) ?_
  refine lv_iload_n hx hb dX9_begin_1 rfl (lv_at hl 1 rfl) ?_
  refine lv_aload_n hx hb dX9_begin_2 rfl (lv_at hl 0 rfl) ?_
  refine gf_RX9_9 hC hS z_h0 dX9_begin_3 (fun t_3 p_3 q_3 => ?_)
  refine tq_alenB hC hS p_3 rfl (v := 1600) (by decide) dX9_begin_6 ?_
  refine va_mmin hx hb (hC.1.2.2.1.trans hl.1.symm) hown (hts _ ql_RX9_35) (hts _ qm_min_s) (hts _ qm_i) (hts _ qm_min_c) (Nat.le_trans (by decide) hC.2.2.1) (Nat.le_trans (Nat.le_of_ble_eq_true rfl) hC.2.2.2.1) (Nat.zero_le _) (Nat.zero_le _) dX9_begin_7 ?_
  refine lv_topi (fun t_7 e_7 => ?_)
  have i1_t_7 : tq_iv (-2147483648) 1600 t_7 := tq_w (tq_min e_7 (tq_top x1) (⟨by decide, by decide⟩ : tq_iv 1600 1600 1600)) (by decide) (by decide)
  refine pf_RX9_41 hC hS z_h0 (by decide) trivial dX9_begin_10 (fun f H locs hS q_10 k_10 => ?_)
  refine lv_aload_n hx hb dX9_begin_13 rfl (lv_at hl 0 rfl) ?_
  refine lv_iconst (v := 0) hx hb dX9_begin_14 (by decide) ?_
  refine pf_RX9_44 hC hS z_h0 (by decide) trivial dX9_begin_15 (fun f H locs hS q_15 k_15 => ?_)
  refine lv_aload_n hx hb dX9_begin_18 rfl (lv_at hl 0 rfl) ?_
  refine tq_callVv (As := []) (rest := []) hC (c_X9_advance l X Z _ h0 z_h0) k_X9_advance ql_RX9_47 (by decide) rfl (by decide) hS z_h0 rfl hl.1 rfl (Nat.le_of_ble_eq_true rfl) ⟨Nat.zero_le _, Nat.zero_le _⟩ dX9_begin_19 (fun f1_19 H locs hS k_19 => ?_)
  exact hret _ _ _ _ _ rfl hS dX9_begin_22
set_option maxHeartbeats 4000000 in
set_option maxRecDepth 100000 in
theorem c_X4_readAll (l : Launch) (X : tq_X) (Z : tq_Z) (f : Nat → va_E) (h0 : Nat) (z_h0 : tq_z Z h0 (.inl 4)) (x1 : Int32) : tq_M l X Z f [(0, 0), (0, 1), (3, 3), (3, 4), (3, 5), (3, 6), (3, 7), (4, 1), (4, 2), (4, 5), (6, 0), (6, 1), (6, 2), (9, 2), (9, 3), (9, 4), (9, 5), (9, 6), (9, 7)] yX4_readAll cX4_readAll 4 (some .boolean) 54 [.ref h0, .int x1] (tq_ri 0 1) := by
  refine tq_starti (by decide) (Nat.le_of_ble_eq_true rfl) (fun p e R s m args below meth c Q hC hret hS ls hl => ?_)
  have hC : tq_C p R s m args c X (tq_A Z) RX4 cX4_readAll 4 54 := hC
  have hx := hC.1.1
  have hb := hC.1.2.1
  have hown := hC.1.2.2.2.1
  have hts := hC.1.2.2.2.2
  have hl : lv_has ls 4 [(0, .ref h0), (1, .int x1)] := hl
  generalize hf0 : f = f0 at hret
  have hS : tq_S X Z (tq_A Z) s.heap f0 [(0, 0), (0, 1), (3, 3), (3, 4), (3, 5), (3, 6), (3, 7), (4, 1), (4, 2), (4, 5), (6, 0), (6, 1), (6, 2), (9, 2), (9, 3), (9, 4), (9, 5), (9, 6), (9, 7)] f s.heap [] := hf0 ▸ hS
  refine lv_aload_n hx hb dX4_readAll_0 rfl (lv_at hl 0 rfl) ?_
  refine gf_RX4_12 hC hS z_h0 dX4_readAll_1 (fun t_1 p_1 q_1 => ?_)
  refine tq_callVv (As := []) (rest := []) hC (c_X3_clear l X Z _ t_1 p_1) k_X3_clear ql_RX4_39 (by decide) rfl (by decide) hS p_1 rfl hl.1 rfl (Nat.le_of_ble_eq_true rfl) ⟨Nat.zero_le _, Nat.zero_le _⟩ dX4_readAll_4 (fun f1_4 H locs hS k_4 => ?_)
  refine lv_aload_n hx hb dX4_readAll_7 rfl (lv_at hl 0 rfl) ?_
  refine lv_iconst (v := 0) hx hb dX4_readAll_8 (by decide) ?_
  refine pf_RX4_18 hC hS z_h0 (by decide) trivial dX4_readAll_9 (fun f H locs hS q_9 k_9 => ?_)
  refine lv_aload_n hx hb dX4_readAll_12 rfl (lv_at hl 0 rfl) ?_
  refine lv_iconst (v := -1) hx hb dX4_readAll_13 (by decide) ?_
  refine pf_RX4_22 hC hS z_h0 (by decide) trivial dX4_readAll_14 (fun f H locs hS q_14 k_14 => ?_)
  refine lv_aload_n hx hb dX4_readAll_17 rfl (lv_at hl 0 rfl) ?_
  refine lv_iconst (v := 0) hx hb dX4_readAll_18 (by decide) ?_
  refine pf_RX4_42 hC hS z_h0 (by decide) trivial dX4_readAll_19 (fun f H locs hS q_19 k_19 => ?_)
  refine lv_aload_n hx hb dX4_readAll_22 rfl (lv_at hl 0 rfl) ?_
  refine gf_RX4_30 hC hS z_h0 dX4_readAll_23 (fun t_23 p_23 q_23 => ?_)
  refine lv_iload_n hx hb dX4_readAll_26 rfl (lv_at hl 1 rfl) ?_
  refine tq_callVv (As := [.int x1]) (rest := []) hC (c_X9_begin l X Z _ t_23 p_23 x1) k_X9_begin ql_RX4_45 (by decide) rfl (by decide) hS p_23 rfl hl.1 rfl (Nat.le_of_ble_eq_true rfl) ⟨Nat.zero_le _, Nat.zero_le _⟩ dX4_readAll_27 (fun f1_27 H locs hS k_27 => ?_)
  refine lv_iconst (v := 1) hx hb dX4_readAll_30 (by decide) ?_
  refine lv_istore_n (lv' := [(2, .int 1), (0, .ref h0), (1, .int x1)]) hx hb dX4_readAll_31 rfl hl (by decide) rfl (fun ls hl => ?_)
  refine lv_iconst (v := 0) hx hb dX4_readAll_32 (by decide) ?_
  refine lv_istore_n (lv' := [(3, .int 0), (2, .int 1), (0, .ref h0), (1, .int x1)]) hx hb dX4_readAll_33 rfl hl (by decide) rfl (fun ls hl => ?_)
  have K_34 : ∀ (n_34 : Nat) (x3_34 : Int32) (x2_34 : Int32) (f : Nat → va_E) (H : Heap) (locs : List Loc) (ls : Array Slot), tq_S X Z (tq_A Z) s.heap f0 [(0, 0), (0, 1), (3, 3), (3, 4), (3, 5), (3, 6), (3, 7), (4, 1), (4, 2), (4, 5), (6, 0), (6, 1), (6, 2), (9, 2), (9, 3), (9, 4), (9, 5), (9, 6), (9, 7)] f H locs → tq_iv 0 1 x2_34 → tq_iv 0 1601 x3_34 → (2147483647 - x3_34.toInt).toNat < n_34 → lv_has ls 4 [(3, .int x3_34), (2, .int x2_34), (0, .ref h0)] → W p l e R s m args below meth c H locs 0 0 Q (F0 m 34 ls []) := by
    intro n_34
    induction n_34 with
    | zero => intro x3_34 x2_34 f H locs ls  hS i1_x2_34 i2_x3_34 hn_34; exact absurd hn_34 (Nat.not_lt_zero _)
    | succ n_34 ih_34 =>
      intro x3_34 x2_34 f H locs ls  hS i1_x2_34 i2_x3_34 hn_34 hl
      refine lv_iload_n hx hb dX4_readAll_34 rfl (lv_at hl 0 rfl) ?_
      refine lv_sipush (v := 1600) hx hb dX4_readAll_35 (by decide) ?_
      have K_68 : ∀ (f : Nat → va_E) (H : Heap) (locs : List Loc) (ls : Array Slot), tq_S X Z (tq_A Z) s.heap f0 [(0, 0), (0, 1), (3, 3), (3, 4), (3, 5), (3, 6), (3, 7), (4, 1), (4, 2), (4, 5), (6, 0), (6, 1), (6, 2), (9, 2), (9, 3), (9, 4), (9, 5), (9, 6), (9, 7)] f H locs → lv_has ls 4 [(2, .int x2_34)] → W p l e R s m args below meth c H locs 0 0 Q (F0 m 68 ls []) := by
        intro f H locs ls  hS hl
        refine lv_iload_n hx hb dX4_readAll_68 rfl (lv_at hl 0 rfl) ?_
        exact hret x2_34 _ _ _ _ _ (tq_nb i1_x2_34 (by decide) (by decide)) ⟨_, rfl, tq_w i1_x2_34 (by decide) (by decide)⟩ hS dX4_readAll_69
      refine lv_icmp_gt (tgt := 68) hx hb dX4_readAll_38 (by decide) (fun c_38 => ?_) (fun c_38 => ?_)
      · skip
        have i3_x3_34 : tq_iv 1601 1601 x3_34 := tq_cut i2_x3_34 (tq_ltR c_38 (⟨by decide, by decide⟩ : tq_iv 1600 1600 1600) i2_x3_34) (by decide) (by decide)
        exact K_68 _ _ _ _ hS (lv_sub hl [1] rfl)
      · skip
        have i4_x3_34 : tq_iv 0 1600 x3_34 := tq_cut i2_x3_34 (tq_leL (tq_nlt c_38) i2_x3_34 (⟨by decide, by decide⟩ : tq_iv 1600 1600 1600)) (by decide) (by decide)
        refine lv_iload_n hx hb dX4_readAll_41 rfl (lv_at hl 1 rfl) ?_
        refine lv_if_eq (tgt := 68) hx hb dX4_readAll_42 (by decide) (fun c_42 => ?_) (fun c_42 => ?_)
        · skip
          have i5_x2_34 : tq_iv 0 0 x2_34 := tq_cut i1_x2_34 (tq_eqL c_42 (⟨by decide, by decide⟩ : tq_iv 0 0 0)) (by decide) (by decide)
          exact K_68 _ _ _ _ hS (lv_sub hl [1] rfl)
        · skip
          have i6_x2_34 : tq_iv 1 1 x2_34 := tq_w (tq_neLo c_42 i1_x2_34 (⟨by decide, by decide⟩ : tq_iv 0 0 0)) (by decide) (by decide)
          refine lv_aload_n hx hb dX4_readAll_45 rfl (lv_at hl 2 rfl) ?_
          refine gf_RX4_30 hC hS z_h0 dX4_readAll_46 (fun t_46 p_46 q_46 => ?_)
          refine gf_RX4_49 hC hS p_46 dX4_readAll_49 (fun t_49 p_49 q_49 => ?_)
          refine lv_bipush (v := 26) hx hb dX4_readAll_52 (by decide) ?_
          refine lv_icmp_eq (tgt := 68) hx hb dX4_readAll_54 (by decide) (fun c_54 => ?_) (fun c_54 => ?_)
          · skip
            have i7_t_49 : tq_iv 26 26 t_49 := tq_cut (tq_top t_49) (tq_eqL c_54 (⟨by decide, by decide⟩ : tq_iv 26 26 26)) (by decide) (by decide)
            exact K_68 _ _ _ _ hS (lv_sub hl [1] rfl)
          · skip
            refine lv_aload_n hx hb dX4_readAll_57 rfl (lv_at hl 2 rfl) ?_
            refine tq_callVi (As := []) (rest := []) hC (c_X4_readLine l X Z _ h0 z_h0) k_X4_readLine ql_RX4_52 (by decide) rfl (by decide) hS z_h0 rfl hl.1 rfl (Nat.le_of_ble_eq_true rfl) ⟨Nat.zero_le _, Nat.zero_le _⟩ dX4_readAll_58 (fun t_58 f1_58 H locs p_58 hS k_58 => ?_)
            refine lv_istore_n (lv' := [(2, .int t_58), (3, .int x3_34), (0, .ref h0)]) hx hb dX4_readAll_61 rfl hl (by decide) rfl (fun ls hl => ?_)
            obtain ⟨t_62, e_62⟩ : ∃ y : Int32, y = x3_34 + 1 := ⟨_, rfl⟩
            have i8_t_62 : tq_iv 1 1601 t_62 := tq_w (tq_add e_62 i4_x3_34 (⟨by decide, by decide⟩ : tq_iv 1 1 1) (by decide) (by decide)) (by decide) (by decide)
            refine lv_iinc (v := t_62) (lv' := [(3, .int t_62), (2, .int t_58), (0, .ref h0)]) hx hb dX4_readAll_62 hl (k := 1) rfl (by rw [e_62]; rfl) (by decide) rfl (fun ls hl => ?_)
            refine lv_goto (tgt := 34) hx hb dX4_readAll_65 (by decide) ?_
            exact ih_34 t_62 t_58 _ _ _ _ hS (tq_w p_58 (by decide) (by decide)) (tq_w i8_t_62 (by decide) (by decide)) (tq_up e_62 i4_x3_34 (⟨by decide, by decide⟩ : tq_iv 1 1 1) (by decide) (by decide) hn_34) (lv_sub hl [0, 1, 2] rfl)
  exact K_34 _ 0 1 _ _ _ _ hS (tq_w (⟨by decide, by decide⟩ : tq_iv 1 1 1) (by decide) (by decide)) (tq_w (⟨by decide, by decide⟩ : tq_iv 0 0 0) (by decide) (by decide)) (Nat.lt_succ_self _) (lv_sub hl [0, 1, 2] rfl)
set_option maxHeartbeats 4000000 in
set_option maxRecDepth 100000 in
theorem c_X11_plan (l : Launch) (X : tq_X) (Z : tq_Z) (f : Nat → va_E) (h0 : Nat) (z_h0 : tq_z Z h0 (.inl 11)) : tq_M l X Z f [(0, 0), (0, 1), (1, 1), (1, 2), (1, 3), (2, 5), (3, 3), (3, 4), (3, 5), (3, 6), (3, 7), (4, 1), (4, 2), (4, 5), (6, 0), (6, 1), (6, 2), (9, 2), (9, 3), (9, 4), (9, 5), (9, 6), (9, 7), (10, 4), (11, 1), (11, 9)] yX11_plan cX11_plan 1 (some .int) 55 [.ref h0] (tq_ri (-1) 8) := by
  refine tq_starti (by decide) (Nat.le_of_ble_eq_true rfl) (fun p e R s m args below meth c Q hC hret hS ls hl => ?_)
  have hC : tq_C p R s m args c X (tq_A Z) RX11 cX11_plan 1 55 := hC
  have hx := hC.1.1
  have hb := hC.1.2.1
  have hown := hC.1.2.2.2.1
  have hts := hC.1.2.2.2.2
  have hl : lv_has ls 1 [(0, .ref h0)] := hl
  generalize hf0 : f = f0 at hret
  have hS : tq_S X Z (tq_A Z) s.heap f0 [(0, 0), (0, 1), (1, 1), (1, 2), (1, 3), (2, 5), (3, 3), (3, 4), (3, 5), (3, 6), (3, 7), (4, 1), (4, 2), (4, 5), (6, 0), (6, 1), (6, 2), (9, 2), (9, 3), (9, 4), (9, 5), (9, 6), (9, 7), (10, 4), (11, 1), (11, 9)] f s.heap [] := hf0 ▸ hS
  refine lv_aload_n hx hb dX11_plan_0 rfl (lv_at hl 0 rfl) ?_
  refine gf_RX11_22 hC hS z_h0 dX11_plan_1 (fun t_1 p_1 q_1 => ?_)
  refine lv_aload_n hx hb dX11_plan_4 rfl (lv_at hl 0 rfl) ?_
  refine gf_RX11_13 hC hS z_h0 dX11_plan_5 (fun t_5 p_5 q_5 => ?_)
  refine tq_callVi (As := [.int t_5]) (rest := []) hC (c_X4_readAll l X Z _ t_1 p_1 t_5) k_X4_readAll ql_RX11_105 (by decide) rfl (by decide) hS p_1 rfl hl.1 rfl (Nat.le_of_ble_eq_true rfl) ⟨Nat.zero_le _, Nat.zero_le _⟩ dX11_plan_8 (fun t_8 f1_8 H locs p_8 hS k_8 => ?_)
  refine lv_if_ne (tgt := 16) hx hb dX11_plan_11 (by decide) (fun c_11 => ?_) (fun c_11 => ?_)
  · skip
    have i1_t_8 : tq_iv 1 1 t_8 := tq_w (tq_neLo c_11 p_8 (⟨by decide, by decide⟩ : tq_iv 0 0 0)) (by decide) (by decide)
    refine lv_aload_n hx hb dX11_plan_16 rfl (lv_at hl 0 rfl) ?_
    refine gf_RX11_29 hC hS z_h0 dX11_plan_17 (fun t_17 p_17 q_17 => ?_)
    refine lv_aload_n hx hb dX11_plan_20 rfl (lv_at hl 0 rfl) ?_
    refine gf_RX11_22 hC hS z_h0 dX11_plan_21 (fun t_21 p_21 q_21 => ?_)
    refine gf_RX11_109 hC hS p_21 dX11_plan_24 (fun t_24 p_24 q_24 => ?_)
    refine tq_callVv (As := [.ref t_24]) (rest := []) hC (c_X3_copyFrom l X Z _ t_17 p_17 t_24 p_24) k_X3_copyFrom ql_RX11_112 (by decide) rfl (by decide) hS p_17 rfl hl.1 rfl (Nat.le_of_ble_eq_true rfl) ⟨Nat.zero_le _, Nat.zero_le _⟩ dX11_plan_27 (fun f1_27 H locs hS k_27 => ?_)
    refine lv_aload_n hx hb dX11_plan_30 rfl (lv_at hl 0 rfl) ?_
    refine gf_RX11_41 hC hS z_h0 dX11_plan_31 (fun t_31 p_31 q_31 => ?_)
    refine lv_aload_n hx hb dX11_plan_34 rfl (lv_at hl 0 rfl) ?_
    refine gf_RX11_29 hC hS z_h0 dX11_plan_35 (fun t_35 p_35 q_35 => ?_)
    refine gf_RX11_115 hC hS p_35 dX11_plan_38 (fun t_38 p_38 q_38 => ?_)
    refine tq_callVv (As := [.ref t_38]) (rest := []) hC (c_X7_copyFrom l X Z _ t_31 p_31 t_38 p_38) k_X7_copyFrom ql_RX11_118 (by decide) rfl (by decide) hS p_31 rfl hl.1 rfl (Nat.le_of_ble_eq_true rfl) ⟨Nat.zero_le _, Nat.zero_le _⟩ dX11_plan_41 (fun f1_41 H locs hS k_41 => ?_)
    refine lv_aload_n hx hb dX11_plan_44 rfl (lv_at hl 0 rfl) ?_
    refine gf_RX11_51 hC hS z_h0 dX11_plan_45 (fun t_45 p_45 q_45 => ?_)
    refine tq_callVv (As := []) (rest := []) hC (c_X1_forget l X Z _ t_45 p_45) k_X1_forget ql_RX11_121 (by decide) rfl (by decide) hS p_45 rfl hl.1 rfl (Nat.le_of_ble_eq_true rfl) ⟨Nat.zero_le _, Nat.zero_le _⟩ dX11_plan_48 (fun f1_48 H locs hS k_48 => ?_)
    refine lv_aload_n hx hb dX11_plan_51 rfl (lv_at hl 0 rfl) ?_
    refine gf_RX11_93 hC hS z_h0 dX11_plan_52 (fun t_52 p_52 q_52 => ?_)
    refine tq_callVv (As := []) (rest := []) hC (c_X10_forget l X Z _ t_52 p_52) k_X10_forget ql_RX11_124 (by decide) rfl (by decide) hS p_52 rfl hl.1 rfl (Nat.le_of_ble_eq_true rfl) ⟨Nat.zero_le _, Nat.zero_le _⟩ dX11_plan_55 (fun f1_55 H locs hS k_55 => ?_)
    refine lv_aload_n hx hb dX11_plan_58 rfl (lv_at hl 0 rfl) ?_
    refine gf_RX11_79 hC hS z_h0 dX11_plan_59 (fun t_59 p_59 q_59 => ?_)
    refine tq_callVv (As := []) (rest := []) hC (c_X2_forgetPath l X Z _ t_59 p_59) k_X2_forgetPath ql_RX11_125 (by decide) rfl (by decide) hS p_59 rfl hl.1 rfl (Nat.le_of_ble_eq_true rfl) ⟨Nat.zero_le _, Nat.zero_le _⟩ dX11_plan_62 (fun f1_62 H locs hS k_62 => ?_)
    refine lv_aload_n hx hb dX11_plan_65 rfl (lv_at hl 0 rfl) ?_
    refine lv_iconst (v := 0) hx hb dX11_plan_66 (by decide) ?_
    refine pf_RX11_59 hC hS z_h0 (by decide) trivial dX11_plan_67 (fun f H locs hS q_67 k_67 => ?_)
    refine lv_aload_n hx hb dX11_plan_70 rfl (lv_at hl 0 rfl) ?_
    refine lv_iconst (v := 0) hx hb dX11_plan_71 (by decide) ?_
    refine pf_RX11_13 hC hS z_h0 (by decide) trivial dX11_plan_72 (fun f H locs hS q_72 k_72 => ?_)
    refine lv_aload_n hx hb dX11_plan_75 rfl (lv_at hl 0 rfl) ?_
    refine gf_RX11_29 hC hS z_h0 dX11_plan_76 (fun t_76 p_76 q_76 => ?_)
    refine gf_RX11_128 hC hS p_76 dX11_plan_79 (fun t_79 p_79 q_79 => ?_)
    exact hret t_79 _ _ _ _ _ rfl ⟨_, rfl, tq_w p_79 (by decide) (by decide)⟩ hS dX11_plan_82
  · skip
    have i2_t_8 : tq_iv 0 0 t_8 := tq_cut p_8 (tq_eqL c_11 (⟨by decide, by decide⟩ : tq_iv 0 0 0)) (by decide) (by decide)
    refine lv_iconst (v := -1) hx hb dX11_plan_14 (by decide) ?_
    exact hret (-1) _ _ _ _ _ rfl ⟨_, rfl, tq_w (⟨by decide, by decide⟩ : tq_iv (-1) (-1) (-1)) (by decide) (by decide)⟩ hS dX11_plan_15
set_option maxHeartbeats 4000000 in
set_option maxRecDepth 100000 in
theorem c_X11_fault (l : Launch) (X : tq_X) (Z : tq_Z) (f : Nat → va_E) (h0 : Nat) (z_h0 : tq_z Z h0 (.inl 11)) (x1 : Int32) : tq_Mp l X Z f yX11_fault cX11_fault 2 (some .int) 0 [.ref h0, .int x1] (tq_ri (-2147483648) 2147483647) := by
  refine tq_startip (by decide) (Nat.le_of_ble_eq_true rfl) (fun p e R s m args below meth c Q hC hret hS ls hl => ?_)
  have hC : tq_C p R s m args c X (tq_A Z) RX11 cX11_fault 2 0 := hC
  have hx := hC.1.1
  have hb := hC.1.2.1
  have hown := hC.1.2.2.2.1
  have hts := hC.1.2.2.2.2
  have hl : lv_has ls 2 [(0, .ref h0), (1, .int x1)] := hl
  refine lv_iload_n hx hb dX11_fault_0 rfl (lv_at hl 1 rfl) ?_
  by_cases s_1_0 : Int32.toInt x1 = 0
  · refine lv_lookup (tgt := 28) hx hb dX11_fault_1 (by decide) (by first | (rw [s_1_0]; done) | (rw [s_1_0]; rfl)) (by decide) ?_
    refine lv_aload_n hx hb dX11_fault_28 rfl (lv_at hl 0 rfl) ?_
    refine gf_RX11_22 hC hS z_h0 dX11_fault_29 (fun t_29 p_29 q_29 => ?_)
    refine gf_RX11_131 hC hS p_29 dX11_fault_32 (fun t_32 p_32 q_32 => ?_)
    exact hret t_32 _ _ rfl ⟨_, rfl, tq_w (tq_top t_32) (by decide) (by decide)⟩ dX11_fault_35
  by_cases s_1_1 : Int32.toInt x1 = 1
  · refine lv_lookup (tgt := 36) hx hb dX11_fault_1 (by decide) (by first | (rw [s_1_1]; done) | (rw [s_1_1]; rfl)) (by decide) ?_
    refine lv_aload_n hx hb dX11_fault_36 rfl (lv_at hl 0 rfl) ?_
    refine gf_RX11_22 hC hS z_h0 dX11_fault_37 (fun t_37 p_37 q_37 => ?_)
    refine gf_RX11_134 hC hS p_37 dX11_fault_40 (fun t_40 p_40 q_40 => ?_)
    exact hret t_40 _ _ rfl ⟨_, rfl, tq_w (tq_top t_40) (by decide) (by decide)⟩ dX11_fault_43
  refine lv_lookup (off := 43) (tgt := 44) hx hb dX11_fault_1 (by decide) (by simp only [Op.lookupswitch.offset_cons, Op.lookupswitch.offset_nil]; rw [if_neg (fun q => s_1_0 q.symm), if_neg (fun q => s_1_1 q.symm)]) (by decide) ?_
  refine lv_iconst (v := -1) hx hb dX11_fault_44 (by decide) ?_
  exact hret (-1) _ _ rfl ⟨_, rfl, tq_w (⟨by decide, by decide⟩ : tq_iv (-1) (-1) (-1)) (by decide) (by decide)⟩ dX11_fault_45
set_option maxHeartbeats 4000000 in
set_option maxRecDepth 100000 in
theorem c_X6_fitsIn (l : Launch) (X : tq_X) (Z : tq_Z) (f : Nat → va_E) (x0 : Int32) (x1 : Int32) : tq_Mp l X Z f yX6_fitsIn cX6_fitsIn 2 (some .boolean) 0 [.int x0, .int x1] (tq_ri 0 1) := by
  refine tq_startip (by decide) (Nat.le_of_ble_eq_true rfl) (fun p e R s m args below meth c Q hC hret hS ls hl => ?_)
  have hC : tq_C p R s m args c X (tq_A Z) RX6 cX6_fitsIn 2 0 := hC
  have hx := hC.1.1
  have hb := hC.1.2.1
  have hown := hC.1.2.2.2.1
  have hts := hC.1.2.2.2.2
  have hl : lv_has ls 2 [(0, .int x0), (1, .int x1)] := hl
  refine lv_iload_n hx hb dX6_fitsIn_0 rfl (lv_at hl 0 rfl) ?_
  refine lv_iload_n hx hb dX6_fitsIn_1 rfl (lv_at hl 1 rfl) ?_
  refine lv_iconst (v := -1) hx hb dX6_fitsIn_2 (by decide) ?_
  refine lv_ixor hx hb dX6_fitsIn_3 ?_
  refine lv_topi (fun t_3 e_3 => ?_)
  refine lv_iand hx hb dX6_fitsIn_4 ?_
  refine lv_topi (fun t_4 e_4 => ?_)
  have K_13 : ∀ (y0_13 : Int32) (ls : Array Slot), tq_iv 0 1 y0_13 → lv_has ls 2 [] → W p l e R s m args below meth c s.heap [] 0 0 Q (F0 m 13 ls [.int y0_13]) := by
    intro y0_13 ls  i1_y0_13 hl
    exact hret y0_13 _ _ (tq_nb i1_y0_13 (by decide) (by decide)) ⟨_, rfl, tq_w i1_y0_13 (by decide) (by decide)⟩ dX6_fitsIn_13
  refine lv_if_ne (tgt := 12) hx hb dX6_fitsIn_5 (by decide) (fun c_5 => ?_) (fun c_5 => ?_)
  · skip
    refine lv_iconst (v := 0) hx hb dX6_fitsIn_12 (by decide) ?_
    exact K_13 0 _ (tq_w (⟨by decide, by decide⟩ : tq_iv 0 0 0) (by decide) (by decide)) (lv_sub hl [] rfl)
  · skip
    have i2_t_4 : tq_iv 0 0 t_4 := tq_cut (tq_top t_4) (tq_eqL c_5 (⟨by decide, by decide⟩ : tq_iv 0 0 0)) (by decide) (by decide)
    refine lv_iconst (v := 1) hx hb dX6_fitsIn_8 (by decide) ?_
    refine lv_goto (tgt := 13) hx hb dX6_fitsIn_9 (by decide) ?_
    exact K_13 1 _ (tq_w (⟨by decide, by decide⟩ : tq_iv 1 1 1) (by decide) (by decide)) (lv_sub hl [] rfl)
set_option maxHeartbeats 4000000 in
set_option maxRecDepth 100000 in
theorem c_X7_bits (l : Launch) (X : tq_X) (Z : tq_Z) (f : Nat → va_E) (h0 : Nat) (z_h0 : tq_z Z h0 (.inl 7)) (x1 : Int32) : tq_Mp l X Z f yX7_bits cX7_bits 2 (some .int) 1 [.ref h0, .int x1] (tq_ri (-2147483648) 2147483647) := by
  refine tq_startip (by decide) (Nat.le_of_ble_eq_true rfl) (fun p e R s m args below meth c Q hC hret hS ls hl => ?_)
  have hC : tq_C p R s m args c X (tq_A Z) RX7 cX7_bits 2 1 := hC
  have hx := hC.1.1
  have hb := hC.1.2.1
  have hown := hC.1.2.2.2.1
  have hts := hC.1.2.2.2.2
  have hl : lv_has ls 2 [(0, .ref h0), (1, .int x1)] := hl
  refine lv_aload_n hx hb dX7_bits_0 rfl (lv_at hl 0 rfl) ?_
  refine lv_iload_n hx hb dX7_bits_1 rfl (lv_at hl 1 rfl) ?_
  refine tq_callVpi (As := [.int x1]) (rest := []) hC (c_X7_look l X Z _ h0 z_h0 x1) k_X7_look ql_RX7_27 rfl (by decide) hS z_h0 rfl hl.1 rfl (Nat.le_of_ble_eq_true rfl) ⟨Nat.zero_le _, Nat.zero_le _⟩ dX7_bits_2 (fun t_2 p_2 => ?_)
  exact hret t_2 _ _ rfl ⟨_, rfl, tq_w (tq_top t_2) (by decide) (by decide)⟩ dX7_bits_5
set_option maxHeartbeats 4000000 in
set_option maxRecDepth 100000 in
theorem c_X7_pins (l : Launch) (X : tq_X) (Z : tq_Z) (f : Nat → va_E) (h0 : Nat) (z_h0 : tq_z Z h0 (.inl 7)) (x1 : Int32) : tq_Mp l X Z f yX7_pins cX7_pins 2 (some .int) 1 [.ref h0, .int x1] (tq_ri (-2147483648) 2147483647) := by
  refine tq_startip (by decide) (Nat.le_of_ble_eq_true rfl) (fun p e R s m args below meth c Q hC hret hS ls hl => ?_)
  have hC : tq_C p R s m args c X (tq_A Z) RX7 cX7_pins 2 1 := hC
  have hx := hC.1.1
  have hb := hC.1.2.1
  have hown := hC.1.2.2.2.1
  have hts := hC.1.2.2.2.2
  have hl : lv_has ls 2 [(0, .ref h0), (1, .int x1)] := hl
  refine lv_aload_n hx hb dX7_pins_0 rfl (lv_at hl 0 rfl) ?_
  refine lv_bipush (v := 24) hx hb dX7_pins_1 (by decide) ?_
  refine lv_iload_n hx hb dX7_pins_3 rfl (lv_at hl 1 rfl) ?_
  refine lv_iadd hx hb dX7_pins_4 ?_
  refine lv_topi (fun t_4 e_4 => ?_)
  refine tq_callVpi (As := [.int t_4]) (rest := []) hC (c_X7_look l X Z _ h0 z_h0 t_4) k_X7_look ql_RX7_27 rfl (by decide) hS z_h0 rfl hl.1 rfl (Nat.le_of_ble_eq_true rfl) ⟨Nat.zero_le _, Nat.zero_le _⟩ dX7_pins_5 (fun t_5 p_5 => ?_)
  exact hret t_5 _ _ rfl ⟨_, rfl, tq_w (tq_top t_5) (by decide) (by decide)⟩ dX7_pins_8
set_option maxHeartbeats 4000000 in
set_option maxRecDepth 100000 in
theorem c_X2_locksFor (l : Launch) (X : tq_X) (Z : tq_Z) (f : Nat → va_E) (h0 : Nat) (z_h0 : tq_z Z h0 (.inl 2)) (x1 : Int32) : tq_Mp l X Z f yX2_locksFor cX2_locksFor 5 (some .int) 2 [.ref h0, .int x1] (tq_ri (-2147483648) 2147483647) := by
  refine tq_startip (by decide) (Nat.le_of_ble_eq_true rfl) (fun p e R s m args below meth c Q hC hret hS ls hl => ?_)
  have hC : tq_C p R s m args c X (tq_A Z) RX2 cX2_locksFor 5 2 := hC
  have hx := hC.1.1
  have hb := hC.1.2.1
  have hown := hC.1.2.2.2.1
  have hts := hC.1.2.2.2.2
  have hl : lv_has ls 5 [(0, .ref h0), (1, .int x1)] := hl
  refine lv_iconst (v := 0) hx hb dX2_locksFor_0 (by decide) ?_
  refine lv_istore_n (lv' := [(2, .int 0), (0, .ref h0), (1, .int x1)]) hx hb dX2_locksFor_1 rfl hl (by decide) rfl (fun ls hl => ?_)
  refine lv_iconst (v := 0) hx hb dX2_locksFor_2 (by decide) ?_
  refine lv_istore_n (lv' := [(3, .int 0), (2, .int 0), (0, .ref h0), (1, .int x1)]) hx hb dX2_locksFor_3 rfl hl (by decide) rfl (fun ls hl => ?_)
  have K_4 : ∀ (n_4 : Nat) (x3_4 : Int32) (x2_4 : Int32) (ls : Array Slot), tq_iv 0 8 x3_4 → (2147483647 - x3_4.toInt).toNat < n_4 → lv_has ls 5 [(3, .int x3_4), (2, .int x2_4), (0, .ref h0), (1, .int x1)] → W p l e R s m args below meth c s.heap [] 0 0 Q (F0 m 4 ls []) := by
    intro n_4
    induction n_4 with
    | zero => intro x3_4 x2_4 ls  i1_x3_4 hn_4; exact absurd hn_4 (Nat.not_lt_zero _)
    | succ n_4 ih_4 =>
      intro x3_4 x2_4 ls  i1_x3_4 hn_4 hl
      refine lv_iload_n hx hb dX2_locksFor_4 rfl (lv_at hl 0 rfl) ?_
      refine lv_aload_n hx hb dX2_locksFor_5 rfl (lv_at hl 2 rfl) ?_
      refine gf_RX2_9 hC hS z_h0 dX2_locksFor_6 (fun t_6 p_6 q_6 => ?_)
      refine gf_RX2_33 hC hS p_6 dX2_locksFor_9 (fun t_9 p_9 q_9 => ?_)
      refine lv_icmp_ge (tgt := 80) hx hb dX2_locksFor_12 (by decide) (fun c_12 => ?_) (fun c_12 => ?_)
      · skip
        refine lv_iload_n hx hb dX2_locksFor_80 rfl (lv_at hl 1 rfl) ?_
        exact hret x2_4 _ _ rfl ⟨_, rfl, tq_w (tq_top x2_4) (by decide) (by decide)⟩ dX2_locksFor_81
      · skip
        have i2_x3_4 : tq_iv 0 7 x3_4 := tq_cut i1_x3_4 (tq_ltL (tq_nle c_12) i1_x3_4 p_9) (by decide) (by decide)
        have i3_t_9 : tq_iv 1 8 t_9 := tq_cut p_9 (tq_ltR (tq_nle c_12) i1_x3_4 p_9) (by decide) (by decide)
        refine lv_iconst (v := 0) hx hb dX2_locksFor_15 (by decide) ?_
        refine lv_istore (lv' := [(4, .int 0), (3, .int x3_4), (2, .int x2_4), (0, .ref h0), (1, .int x1)]) hx hb dX2_locksFor_16 hl (by decide) rfl (fun ls hl => ?_)
        have K_18 : ∀ (n_18 : Nat) (x4_18 : Int32) (x2_18 : Int32) (ls : Array Slot), tq_iv 0 2147483647 x4_18 → (2147483647 - x4_18.toInt).toNat < n_18 → lv_has ls 5 [(4, .int x4_18), (3, .int x3_4), (2, .int x2_18), (0, .ref h0), (1, .int x1)] → W p l e R s m args below meth c s.heap [] 0 0 Q (F0 m 18 ls []) := by
          intro n_18
          induction n_18 with
          | zero => intro x4_18 x2_18 ls  i4_x4_18 hn_18; exact absurd hn_18 (Nat.not_lt_zero _)
          | succ n_18 ih_18 =>
            intro x4_18 x2_18 ls  i4_x4_18 hn_18 hl
            refine lv_iload hx hb dX2_locksFor_18 (lv_at hl 0 rfl) ?_
            refine lv_aload_n hx hb dX2_locksFor_20 rfl (lv_at hl 3 rfl) ?_
            refine gf_RX2_9 hC hS z_h0 dX2_locksFor_21 (fun t_21 p_21 q_21 => ?_)
            refine gf_RX2_38 hC hS p_21 dX2_locksFor_24 (fun t_24 p_24 q_24 => ?_)
            have K_74 : ∀ (ls : Array Slot), lv_has ls 5 [(3, .int x3_4), (2, .int x2_18), (0, .ref h0), (1, .int x1)] → W p l e R s m args below meth c s.heap [] 0 0 Q (F0 m 74 ls []) := by
              intro  ls  hl
              obtain ⟨t_74, e_74⟩ : ∃ y : Int32, y = x3_4 + 1 := ⟨_, rfl⟩
              have i5_t_74 : tq_iv 1 8 t_74 := tq_w (tq_add e_74 i2_x3_4 (⟨by decide, by decide⟩ : tq_iv 1 1 1) (by decide) (by decide)) (by decide) (by decide)
              refine lv_iinc (v := t_74) (lv' := [(3, .int t_74), (2, .int x2_18), (0, .ref h0), (1, .int x1)]) hx hb dX2_locksFor_74 hl (k := 0) rfl (by rw [e_74]; rfl) (by decide) rfl (fun ls hl => ?_)
              refine lv_goto (tgt := 4) hx hb dX2_locksFor_77 (by decide) ?_
              exact ih_4 t_74 x2_18 _ (tq_w i5_t_74 (by decide) (by decide)) (tq_up e_74 i2_x3_4 (⟨by decide, by decide⟩ : tq_iv 1 1 1) (by decide) (by decide) hn_4) (lv_sub hl [0, 1, 2, 3] rfl)
            refine lv_icmp_ge (tgt := 74) hx hb dX2_locksFor_27 (by decide) (fun c_27 => ?_) (fun c_27 => ?_)
            · skip
              exact K_74 _ (lv_sub hl [1, 2, 3, 4] rfl)
            · skip
              have i6_x4_18 : tq_iv 0 2147483646 x4_18 := tq_cut i4_x4_18 (tq_ltL (tq_nle c_27) i4_x4_18 (tq_top t_24)) (by decide) (by decide)
              have i7_t_24 : tq_iv 1 2147483647 t_24 := tq_cut (tq_top t_24) (tq_ltR (tq_nle c_27) i4_x4_18 (tq_top t_24)) (by decide) (by decide)
              refine lv_iload_n hx hb dX2_locksFor_30 rfl (lv_at hl 4 rfl) ?_
              refine lv_iload_n hx hb dX2_locksFor_31 rfl (lv_at hl 1 rfl) ?_
              refine lv_ishr hx hb dX2_locksFor_32 ?_
              refine lv_topi (fun t_32 e_32 => ?_)
              refine lv_iconst (v := 1) hx hb dX2_locksFor_33 (by decide) ?_
              refine lv_iand hx hb dX2_locksFor_34 ?_
              refine lv_topi (fun t_34 e_34 => ?_)
              have i8_t_34 : tq_iv 0 1 t_34 := tq_and2 e_34 (⟨by decide, by decide⟩ : tq_iv 1 1 1) (by decide)
              refine lv_if_eq (tgt := 74) hx hb dX2_locksFor_35 (by decide) (fun c_35 => ?_) (fun c_35 => ?_)
              · skip
                have i9_t_34 : tq_iv 0 0 t_34 := tq_cut i8_t_34 (tq_eqL c_35 (⟨by decide, by decide⟩ : tq_iv 0 0 0)) (by decide) (by decide)
                exact K_74 _ (lv_sub hl [1, 2, 3, 4] rfl)
              · skip
                have i10_t_34 : tq_iv 1 1 t_34 := tq_w (tq_neLo c_35 i8_t_34 (⟨by decide, by decide⟩ : tq_iv 0 0 0)) (by decide) (by decide)
                refine lv_aload_n hx hb dX2_locksFor_38 rfl (lv_at hl 3 rfl) ?_
                refine gf_RX2_15 hC hS z_h0 dX2_locksFor_39 (fun t_39 p_39 q_39 => ?_)
                refine lv_iload_n hx hb dX2_locksFor_42 rfl (lv_at hl 1 rfl) ?_
                refine tq_callVpi (As := [.int x3_4]) (rest := []) hC (c_X7_bits l X Z _ t_39 p_39 x3_4) k_X7_bits ql_RX2_41 rfl (by decide) hS p_39 rfl hl.1 rfl (Nat.le_of_ble_eq_true rfl) ⟨Nat.zero_le _, Nat.zero_le _⟩ dX2_locksFor_43 (fun t_43 p_43 => ?_)
                refine lv_aload_n hx hb dX2_locksFor_46 rfl (lv_at hl 3 rfl) ?_
                refine gf_RX2_15 hC hS z_h0 dX2_locksFor_47 (fun t_47 p_47 q_47 => ?_)
                refine lv_iload hx hb dX2_locksFor_50 (lv_at hl 0 rfl) ?_
                refine tq_callVpi (As := [.int x4_18]) (rest := [.int t_43]) hC (c_X7_pins l X Z _ t_47 p_47 x4_18) k_X7_pins ql_RX2_47 rfl (by decide) hS p_47 rfl hl.1 rfl (Nat.le_of_ble_eq_true rfl) ⟨Nat.zero_le _, Nat.zero_le _⟩ dX2_locksFor_52 (fun t_52 p_52 => ?_)
                refine tq_callSpi (As := [.int t_43, .int t_52]) (rest := []) hC (c_X6_fitsIn l X Z _ t_43 t_52) k_X6_fitsIn ql_RX2_50 rfl (by decide) hS hl.1 rfl (Nat.le_of_ble_eq_true rfl) ⟨Nat.zero_le _, Nat.zero_le _⟩ dX2_locksFor_55 (fun t_55 p_55 => ?_)
                have K_68 : ∀ (x2_68 : Int32) (ls : Array Slot), lv_has ls 5 [(4, .int x4_18), (3, .int x3_4), (2, .int x2_68), (0, .ref h0), (1, .int x1)] → W p l e R s m args below meth c s.heap [] 0 0 Q (F0 m 68 ls []) := by
                  intro x2_68 ls  hl
                  obtain ⟨t_68, e_68⟩ : ∃ y : Int32, y = x4_18 + 1 := ⟨_, rfl⟩
                  have i11_t_68 : tq_iv 1 2147483647 t_68 := tq_w (tq_add e_68 i6_x4_18 (⟨by decide, by decide⟩ : tq_iv 1 1 1) (by decide) (by decide)) (by decide) (by decide)
                  refine lv_iinc (v := t_68) (lv' := [(4, .int t_68), (3, .int x3_4), (2, .int x2_68), (0, .ref h0), (1, .int x1)]) hx hb dX2_locksFor_68 hl (k := 0) rfl (by rw [e_68]; rfl) (by decide) rfl (fun ls hl => ?_)
                  refine lv_goto (tgt := 18) hx hb dX2_locksFor_71 (by decide) ?_
                  exact ih_18 t_68 x2_68 _ (tq_w i11_t_68 (by decide) (by decide)) (tq_up e_68 i6_x4_18 (⟨by decide, by decide⟩ : tq_iv 1 1 1) (by decide) (by decide) hn_18) (lv_sub hl [0, 1, 2, 3, 4] rfl)
                refine lv_if_eq (tgt := 68) hx hb dX2_locksFor_58 (by decide) (fun c_58 => ?_) (fun c_58 => ?_)
                · skip
                  have i12_t_55 : tq_iv 0 0 t_55 := tq_cut p_55 (tq_eqL c_58 (⟨by decide, by decide⟩ : tq_iv 0 0 0)) (by decide) (by decide)
                  exact K_68 x2_18 _ (lv_sub hl [0, 1, 2, 3, 4] rfl)
                · skip
                  have i13_t_55 : tq_iv 1 1 t_55 := tq_w (tq_neLo c_58 p_55 (⟨by decide, by decide⟩ : tq_iv 0 0 0)) (by decide) (by decide)
                  refine lv_iload_n hx hb dX2_locksFor_61 rfl (lv_at hl 2 rfl) ?_
                  refine lv_iconst (v := 1) hx hb dX2_locksFor_62 (by decide) ?_
                  refine lv_iload hx hb dX2_locksFor_63 (lv_at hl 0 rfl) ?_
                  refine lv_ishl hx hb dX2_locksFor_65 ?_
                  refine lv_topi (fun t_65 e_65 => ?_)
                  refine lv_ior hx hb dX2_locksFor_66 ?_
                  refine lv_topi (fun t_66 e_66 => ?_)
                  refine lv_istore_n (lv' := [(2, .int t_66), (4, .int x4_18), (3, .int x3_4), (0, .ref h0), (1, .int x1)]) hx hb dX2_locksFor_67 rfl hl (by decide) rfl (fun ls hl => ?_)
                  exact K_68 t_66 _ (lv_sub hl [1, 2, 0, 3, 4] rfl)
        exact K_18 _ 0 x2_4 _ (tq_w (⟨by decide, by decide⟩ : tq_iv 0 0 0) (by decide) (by decide)) (Nat.lt_succ_self _) (lv_sub hl [0, 1, 2, 3, 4] rfl)
  exact K_4 _ 0 0 _ (tq_w (⟨by decide, by decide⟩ : tq_iv 0 0 0) (by decide) (by decide)) (Nat.lt_succ_self _) (lv_sub hl [0, 1, 2, 3] rfl)
