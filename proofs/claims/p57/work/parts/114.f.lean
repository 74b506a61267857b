set_option maxHeartbeats 4000000 in
set_option maxRecDepth 100000 in
theorem c_X4_readOne_k1 {l : Launch} {X : ez_X} {B : Nat} {σ : ez_H} {h0 : Nat} {z : Int32 × ez_H} (h : z_X4_readOne_k1 σ h0 = some z) : ez_M l X B σ yX4_readOne cX4_readOne 4 (some .boolean) 44 [.ref (B + h0), .int 1] (some (.int z.1)) z.2 := by
  refine ez_starti (z := z) (by decide) (Nat.le_of_ble_eq_true rfl) (fun p e R s m args below meth c Q hC hret hS ls hl => ?_)
  have hC : ez_C p R s m args c X B RX4 cX4_readOne 4 44 := hC
  have hx := hC.1.1
  have hb := hC.1.2.1
  have hown := hC.1.2.2.2.1
  have hts := hC.1.2.2.2.2
  have hl : lv_has ls 4 [(0, .ref (B + h0)), (1, .int 1)] := hl
  obtain ⟨σ0, eσ⟩ : ∃ σ0 : ez_H, σ0 = σ := ⟨_, rfl⟩
  rw [← eσ] at hret
  have hS : ez_S X B s.heap σ0.length σ s.heap [] := eσ ▸ hS
  obtain ⟨-, h⟩ := ez_in h
  have K_97 : ∀ (σ : ez_H) (x2 : Int32) (H : Heap) (locs : List Loc) (ls : Array Slot), ez_S X B s.heap (σ0.length) σ H locs → z_X4_readOne_k1_97 σ x2 = some z → lv_has ls 4 [(2, .int x2)] → W p l e R s m args below meth c H locs 0 0 Q (F0 m 97 ls []) := by
    intro σ x2 H locs ls hS h hl
    refine lv_iload_n hx hb dX4_readOne_97 rfl (lv_at hl 0 rfl) ?_
    obtain ⟨hn, h⟩ := ez_nr_sp rfl h
    exact hret _ _ _ _ _ _ (Option.some.inj h) hn hS dX4_readOne_98
  refine lv_aload_n hx hb dX4_readOne_0 rfl (lv_at hl 0 rfl) ?_
  refine eg_RX4_30 hC hS h dX4_readOne_1 (fun t_1 h => ?_)
  refine eg_RX4_49 hC hS h dX4_readOne_4 (fun t_4 h => ?_)
  refine lv_bipush (v := 18) hx hb dX4_readOne_7 (by decide) ?_
  refine lv_icmp_ne (tgt := 52) hx hb dX4_readOne_9 (by decide) (fun c_9 => ?_) (fun c_9 => ?_)
  · replace h := ez_ifn h c_9
    refine lv_aload_n hx hb dX4_readOne_52 rfl (lv_at hl 0 rfl) ?_
    refine lv_iload_n hx hb dX4_readOne_53 rfl (lv_at hl 1 rfl) ?_
    refine ez_cVi (As := [.int 1]) (rest := []) h (fun _ q => c_X4_readSum_k1 q) hC k_X4_readSum ql_RX4_226 rfl (by decide) hS (fun _ q => ez_rcv q) rfl hl.1 rfl (Nat.le_of_ble_eq_true rfl) ⟨Nat.zero_le _, Nat.zero_le _⟩ dX4_readOne_54 (fun t_54 σ H locs hS h => ?_)
    refine lv_istore_n (lv' := [(2, .int t_54), (0, .ref (B + h0)), (1, .int 1)]) hx hb dX4_readOne_57 rfl hl (by decide) rfl (fun ls hl => ?_)
    refine lv_aload_n hx hb dX4_readOne_58 rfl (lv_at hl 1 rfl) ?_
    refine ez_cVpi (As := []) (rest := []) h (fun _ q => c_X4_relationHere q) hC k_X4_relationHere ql_RX4_229 rfl (by decide) hS (fun _ q => ez_rcv q) rfl hl.1 rfl (Nat.le_of_ble_eq_true rfl) ⟨Nat.zero_le _, Nat.zero_le _⟩ dX4_readOne_59 (fun t_59 H locs hS h => ?_)
    refine lv_istore_n (lv' := [(3, .int t_59), (2, .int t_54), (0, .ref (B + h0)), (1, .int 1)]) hx hb dX4_readOne_62 rfl hl (by decide) rfl (fun ls hl => ?_)
    refine lv_iload_n hx hb dX4_readOne_63 rfl (lv_at hl 1 rfl) ?_
    refine lv_if_eq (tgt := 97) hx hb dX4_readOne_64 (by decide) (fun c_64 => ?_) (fun c_64 => ?_)
    · replace h := ez_ifp h c_64
      exact K_97  σ t_54 _ _ _ hS h (lv_sub hl [1] rfl)
    · replace h := ez_ifn h c_64
      refine lv_iload_n hx hb dX4_readOne_67 rfl (lv_at hl 0 rfl) ?_
      refine lv_iconst (v := -1) hx hb dX4_readOne_68 (by decide) ?_
      refine lv_icmp_eq (tgt := 97) hx hb dX4_readOne_69 (by decide) (fun c_69 => ?_) (fun c_69 => ?_)
      · replace h := ez_ifp h c_69
        exact K_97  σ t_54 _ _ _ hS h (lv_sub hl [1] rfl)
      · replace h := ez_ifn h c_69
        refine lv_aload_n hx hb dX4_readOne_72 rfl (lv_at hl 2 rfl) ?_
        refine eg_RX4_30 hC hS h dX4_readOne_73 (fun t_73 h => ?_)
        refine ez_cVv (As := []) (rest := []) h (fun _ q => c_X9_advance q) hC k_X9_advance ql_RX4_66 rfl (by decide) hS (fun _ q => ez_rcv q) rfl hl.1 rfl (Nat.le_of_ble_eq_true rfl) ⟨Nat.zero_le _, Nat.zero_le _⟩ dX4_readOne_76 (fun _ σ H locs hS h => ?_)
        refine lv_aload_n hx hb dX4_readOne_79 rfl (lv_at hl 2 rfl) ?_
        refine lv_iload_n hx hb dX4_readOne_80 rfl (lv_at hl 3 rfl) ?_
        refine ez_cVi (As := [.int 1]) (rest := []) h (fun _ q => c_X4_readSum_k1 q) hC k_X4_readSum ql_RX4_226 rfl (by decide) hS (fun _ q => ez_rcv q) rfl hl.1 rfl (Nat.le_of_ble_eq_true rfl) ⟨Nat.zero_le _, Nat.zero_le _⟩ dX4_readOne_81 (fun t_81 σ H locs hS h => ?_)
        refine lv_istore_n (lv' := [(2, .int t_81), (3, .int t_59), (0, .ref (B + h0)), (1, .int 1)]) hx hb dX4_readOne_84 rfl hl (by decide) rfl (fun ls hl => ?_)
        refine lv_aload_n hx hb dX4_readOne_85 rfl (lv_at hl 2 rfl) ?_
        refine eg_RX4_12 hC hS h dX4_readOne_86 (fun t_86 h => ?_)
        refine eg_RX4_214 hC hS h dX4_readOne_89 (fun t_89 h => ?_)
        refine lv_iload_n hx hb dX4_readOne_92 rfl (lv_at hl 1 rfl) ?_
        refine lv_iconst (v := 0) hx hb dX4_readOne_93 (by decide) ?_
        refine ez_cVv (As := [.int t_59, .int 0]) (rest := []) h (fun _ q => c_X0_append q) hC k_X0_append ql_RX4_220 rfl (by decide) hS (fun _ q => ez_rcv q) rfl hl.1 rfl (Nat.le_of_ble_eq_true rfl) ⟨Nat.zero_le _, Nat.zero_le _⟩ dX4_readOne_94 (fun _ σ H locs hS h => ?_)
        exact K_97  σ t_81 _ _ _ hS h (lv_sub hl [0] rfl)
  · replace h := ez_ifp h c_9
    refine lv_iload_n hx hb dX4_readOne_12 rfl (lv_at hl 1 rfl) ?_
    refine lv_bipush (v := 6) hx hb dX4_readOne_13 (by decide) ?_
    refine lv_icmp_le (tgt := 23) hx hb dX4_readOne_15 (by decide) (fun c_15 => ?_) (fun c_15 => ?_)
    · skip
      refine lv_aload_n hx hb dX4_readOne_23 rfl (lv_at hl 0 rfl) ?_
      refine eg_RX4_30 hC hS h dX4_readOne_24 (fun t_24 h => ?_)
      refine ez_cVv (As := []) (rest := []) h (fun _ q => c_X9_advance q) hC k_X9_advance ql_RX4_66 rfl (by decide) hS (fun _ q => ez_rcv q) rfl hl.1 rfl (Nat.le_of_ble_eq_true rfl) ⟨Nat.zero_le _, Nat.zero_le _⟩ dX4_readOne_27 (fun _ σ H locs hS h => ?_)
      refine lv_aload_n hx hb dX4_readOne_30 rfl (lv_at hl 0 rfl) ?_
      refine lv_iload_n hx hb dX4_readOne_31 rfl (lv_at hl 1 rfl) ?_
      refine lv_iconst (v := 1) hx hb dX4_readOne_32 (by decide) ?_
      refine lv_iadd hx hb dX4_readOne_33 ?_
      rw [show (1 : Int32) + (1 : Int32) = 2 from by decide]
      refine ez_cVi (As := [.int 2]) (rest := []) h (fun _ q => c_X4_readOne_k2 q) hC k_X4_readOne ql_RX4_223 rfl (by decide) hS (fun _ q => ez_rcv q) rfl hl.1 rfl (Nat.le_of_ble_eq_true rfl) ⟨Nat.zero_le _, Nat.zero_le _⟩ dX4_readOne_34 (fun t_34 σ H locs hS h => ?_)
      refine lv_istore_n (lv' := [(2, .int t_34), (0, .ref (B + h0)), (1, .int 1)]) hx hb dX4_readOne_37 rfl hl (by decide) rfl (fun ls hl => ?_)
      refine lv_aload_n hx hb dX4_readOne_38 rfl (lv_at hl 1 rfl) ?_
      refine eg_RX4_12 hC hS h dX4_readOne_39 (fun t_39 h => ?_)
      refine eg_RX4_214 hC hS h dX4_readOne_42 (fun t_42 h => ?_)
      refine lv_iconst (v := 5) hx hb dX4_readOne_45 (by decide) ?_
      refine lv_iconst (v := 0) hx hb dX4_readOne_46 (by decide) ?_
      refine ez_cVv (As := [.int 5, .int 0]) (rest := []) h (fun _ q => c_X0_append q) hC k_X0_append ql_RX4_220 rfl (by decide) hS (fun _ q => ez_rcv q) rfl hl.1 rfl (Nat.le_of_ble_eq_true rfl) ⟨Nat.zero_le _, Nat.zero_le _⟩ dX4_readOne_47 (fun _ σ H locs hS h => ?_)
      refine lv_iload_n hx hb dX4_readOne_50 rfl (lv_at hl 0 rfl) ?_
      obtain ⟨hn, h⟩ := ez_nr_sp rfl h
      exact hret _ _ _ _ _ _ (Option.some.inj h) hn hS dX4_readOne_51
    · exact absurd c_15 (by decide)
set_option maxHeartbeats 4000000 in
set_option maxRecDepth 100000 in
theorem c_X4_readBoth_k1 {l : Launch} {X : ez_X} {B : Nat} {σ : ez_H} {h0 : Nat} {z : Int32 × ez_H} (h : z_X4_readBoth_k1 σ h0 = some z) : ez_M l X B σ yX4_readBoth cX4_readBoth 4 (some .boolean) 45 [.ref (B + h0), .int 1] (some (.int z.1)) z.2 := by
  refine ez_starti (z := z) (by decide) (Nat.le_of_ble_eq_true rfl) (fun p e R s m args below meth c Q hC hret hS ls hl => ?_)
  have hC : ez_C p R s m args c X B RX4 cX4_readBoth 4 45 := hC
  have hx := hC.1.1
  have hb := hC.1.2.1
  have hown := hC.1.2.2.2.1
  have hts := hC.1.2.2.2.2
  have hl : lv_has ls 4 [(0, .ref (B + h0)), (1, .int 1)] := hl
  obtain ⟨σ0, eσ⟩ : ∃ σ0 : ez_H, σ0 = σ := ⟨_, rfl⟩
  rw [← eσ] at hret
  have hS : ez_S X B s.heap σ0.length σ s.heap [] := eσ ▸ hS
  obtain ⟨-, h⟩ := ez_in h
  have K_63 : ∀ (σ : ez_H) (x2 : Int32) (H : Heap) (locs : List Loc) (ls : Array Slot), ez_S X B s.heap (σ0.length) σ H locs → z_X4_readBoth_k1_63 σ x2 = some z → lv_has ls 4 [(2, .int x2)] → W p l e R s m args below meth c H locs 0 0 Q (F0 m 63 ls []) := by
    intro σ x2 H locs ls hS h hl
    refine lv_iload_n hx hb dX4_readBoth_63 rfl (lv_at hl 0 rfl) ?_
    obtain ⟨hn, h⟩ := ez_nr_sp rfl h
    exact hret _ _ _ _ _ _ (Option.some.inj h) hn hS dX4_readBoth_64
  have K_8 : ∀ (k_8 : ez_H → Nat → Int32 → Int32 → Option (Int32 × ez_H)) (hk_8 : ∀ (σ : ez_H) (h0 : Nat) (x2 : Int32) (x3 : Int32) (H : Heap) (locs : List Loc) (ls : Array Slot), ez_S X B s.heap (σ0.length) σ H locs → k_8 σ h0 x2 x3 = some z → lv_has ls 4 [(0, .ref (B + h0)), (1, .int 1), (2, .int x2), (3, .int x3)] → W p l e R s m args below meth c H locs 0 0 Q (F0 m 8 ls [])), ∀ (σ : ez_H) (h0 : Nat) (x2 : Int32) (x3 : Int32) (H : Heap) (locs : List Loc) (ls : Array Slot), ez_S X B s.heap (σ0.length) σ H locs → z_X4_readBoth_k1_8 k_8 σ h0 x2 x3 = some z → lv_has ls 4 [(0, .ref (B + h0)), (1, .int 1), (2, .int x2), (3, .int x3)] → W p l e R s m args below meth c H locs 0 0 Q (F0 m 8 ls []) := by
    intro k_8 hk_8 σ h0 x2 x3 H locs ls hS h hl
    refine lv_iload_n hx hb dX4_readBoth_8 rfl (lv_at hl 3 rfl) ?_
    refine lv_sipush (v := 1600) hx hb dX4_readBoth_9 (by decide) ?_
    refine lv_icmp_ge (tgt := 63) hx hb dX4_readBoth_12 (by decide) (fun c_12 => ?_) (fun c_12 => ?_)
    · replace h := ez_ifp h c_12
      exact K_63  σ x2 _ _ _ hS h (lv_sub hl [2] rfl)
    · replace h := ez_ifn h c_12
      refine lv_iload_n hx hb dX4_readBoth_15 rfl (lv_at hl 2 rfl) ?_
      refine lv_if_eq (tgt := 63) hx hb dX4_readBoth_16 (by decide) (fun c_16 => ?_) (fun c_16 => ?_)
      · replace h := ez_ifp h c_16
        exact K_63  σ x2 _ _ _ hS h (lv_sub hl [2] rfl)
      · replace h := ez_ifn h c_16
        refine lv_aload_n hx hb dX4_readBoth_19 rfl (lv_at hl 0 rfl) ?_
        refine eg_RX4_30 hC hS h dX4_readBoth_20 (fun t_20 h => ?_)
        refine eg_RX4_49 hC hS h dX4_readBoth_23 (fun t_23 h => ?_)
        refine lv_bipush (v := 17) hx hb dX4_readBoth_26 (by decide) ?_
        refine lv_icmp_ne (tgt := 63) hx hb dX4_readBoth_28 (by decide) (fun c_28 => ?_) (fun c_28 => ?_)
        · replace h := ez_ifn h c_28
          exact K_63  σ x2 _ _ _ hS h (lv_sub hl [2] rfl)
        · replace h := ez_ifp h c_28
          refine lv_aload_n hx hb dX4_readBoth_31 rfl (lv_at hl 0 rfl) ?_
          refine eg_RX4_30 hC hS h dX4_readBoth_32 (fun t_32 h => ?_)
          refine ez_cVv (As := []) (rest := []) h (fun _ q => c_X9_advance q) hC k_X9_advance ql_RX4_66 rfl (by decide) hS (fun _ q => ez_rcv q) rfl hl.1 rfl (Nat.le_of_ble_eq_true rfl) ⟨Nat.zero_le _, Nat.zero_le _⟩ dX4_readBoth_35 (fun _ σ H locs hS h => ?_)
          refine lv_aload_n hx hb dX4_readBoth_38 rfl (lv_at hl 0 rfl) ?_
          refine lv_iload_n hx hb dX4_readBoth_39 rfl (lv_at hl 1 rfl) ?_
          refine ez_cVi (As := [.int 1]) (rest := []) h (fun _ q => c_X4_readOne_k1 q) hC k_X4_readOne ql_RX4_223 rfl (by decide) hS (fun _ q => ez_rcv q) rfl hl.1 rfl (Nat.le_of_ble_eq_true rfl) ⟨Nat.zero_le _, Nat.zero_le _⟩ dX4_readBoth_40 (fun t_40 σ H locs hS h => ?_)
          refine lv_istore_n (lv' := [(2, .int t_40), (0, .ref (B + h0)), (1, .int 1), (3, .int x3)]) hx hb dX4_readBoth_43 rfl hl (by decide) rfl (fun ls hl => ?_)
          refine lv_aload_n hx hb dX4_readBoth_44 rfl (lv_at hl 1 rfl) ?_
          refine eg_RX4_12 hC hS h dX4_readBoth_45 (fun t_45 h => ?_)
          refine eg_RX4_214 hC hS h dX4_readBoth_48 (fun t_48 h => ?_)
          refine lv_bipush (v := 7) hx hb dX4_readBoth_51 (by decide) ?_
          refine lv_iconst (v := 0) hx hb dX4_readBoth_53 (by decide) ?_
          refine ez_cVv (As := [.int 7, .int 0]) (rest := []) h (fun _ q => c_X0_append q) hC k_X0_append ql_RX4_220 rfl (by decide) hS (fun _ q => ez_rcv q) rfl hl.1 rfl (Nat.le_of_ble_eq_true rfl) ⟨Nat.zero_le _, Nat.zero_le _⟩ dX4_readBoth_54 (fun _ σ H locs hS h => ?_)
          obtain ⟨t_57, e_57, h⟩ := ez_let_sp h
          refine lv_iinc (v := t_57) (lv' := [(3, .int t_57), (2, .int t_40), (0, .ref (B + h0)), (1, .int 1)]) hx hb dX4_readBoth_57 hl (k := 3) rfl (by rw [e_57]; rfl) (by decide) rfl (fun ls hl => ?_)
          refine lv_goto (tgt := 8) hx hb dX4_readBoth_60 (by decide) ?_
          exact hk_8 σ h0 t_40 t_57 _ _ _ hS h (lv_sub hl [2, 3, 1, 0] rfl)
  have E_8 : ∀ (σ : ez_H) (h0 : Nat) (x2 : Int32) (x3 : Int32) (H : Heap) (locs : List Loc) (ls : Array Slot), ez_S X B s.heap (σ0.length) σ H locs → (ez_fix (fun _ _ _ _ => none) (z_X4_readBoth_k1_8) ez_N) σ h0 x2 x3 = some z → lv_has ls 4 [(0, .ref (B + h0)), (1, .int 1), (2, .int x2), (3, .int x3)] → W p l e R s m args below meth c H locs 0 0 Q (F0 m 8 ls []) := ez_fix_ind (fun k_8 : ez_H → Nat → Int32 → Int32 → Option (Int32 × ez_H) => ∀ (σ : ez_H) (h0 : Nat) (x2 : Int32) (x3 : Int32) (H : Heap) (locs : List Loc) (ls : Array Slot), ez_S X B s.heap (σ0.length) σ H locs → k_8 σ h0 x2 x3 = some z → lv_has ls 4 [(0, .ref (B + h0)), (1, .int 1), (2, .int x2), (3, .int x3)] → W p l e R s m args below meth c H locs 0 0 Q (F0 m 8 ls [])) (fun _ _ _ _ _ _ _ _ h _ => by cases h) (fun k_8 hk_8 => K_8 k_8 hk_8) ez_N
  refine lv_aload_n hx hb dX4_readBoth_0 rfl (lv_at hl 0 rfl) ?_
  refine lv_iload_n hx hb dX4_readBoth_1 rfl (lv_at hl 1 rfl) ?_
  refine ez_cVi (As := [.int 1]) (rest := []) h (fun _ q => c_X4_readOne_k1 q) hC k_X4_readOne ql_RX4_223 rfl (by decide) hS (fun _ q => ez_rcv q) rfl hl.1 rfl (Nat.le_of_ble_eq_true rfl) ⟨Nat.zero_le _, Nat.zero_le _⟩ dX4_readBoth_2 (fun t_2 σ H locs hS h => ?_)
  refine lv_istore_n (lv' := [(2, .int t_2), (0, .ref (B + h0)), (1, .int 1)]) hx hb dX4_readBoth_5 rfl hl (by decide) rfl (fun ls hl => ?_)
  refine lv_iconst (v := 0) hx hb dX4_readBoth_6 (by decide) ?_
  refine lv_istore_n (lv' := [(3, .int 0), (2, .int t_2), (0, .ref (B + h0)), (1, .int 1)]) hx hb dX4_readBoth_7 rfl hl (by decide) rfl (fun ls hl => ?_)
  exact E_8  σ h0 t_2 (0 : Int32) _ _ _ hS h (lv_sub hl [2, 3, 1, 0] rfl)
set_option maxHeartbeats 4000000 in
set_option maxRecDepth 100000 in
theorem c_X4_readEither_k1 {l : Launch} {X : ez_X} {B : Nat} {σ : ez_H} {h0 : Nat} {z : Int32 × ez_H} (h : z_X4_readEither_k1 σ h0 = some z) : ez_M l X B σ yX4_readEither cX4_readEither 4 (some .boolean) 46 [.ref (B + h0), .int 1] (some (.int z.1)) z.2 := by
  refine ez_starti (z := z) (by decide) (Nat.le_of_ble_eq_true rfl) (fun p e R s m args below meth c Q hC hret hS ls hl => ?_)
  have hC : ez_C p R s m args c X B RX4 cX4_readEither 4 46 := hC
  have hx := hC.1.1
  have hb := hC.1.2.1
  have hown := hC.1.2.2.2.1
  have hts := hC.1.2.2.2.2
  have hl : lv_has ls 4 [(0, .ref (B + h0)), (1, .int 1)] := hl
  obtain ⟨σ0, eσ⟩ : ∃ σ0 : ez_H, σ0 = σ := ⟨_, rfl⟩
  rw [← eσ] at hret
  have hS : ez_S X B s.heap σ0.length σ s.heap [] := eσ ▸ hS
  obtain ⟨-, h⟩ := ez_in h
  have K_63 : ∀ (σ : ez_H) (x2 : Int32) (H : Heap) (locs : List Loc) (ls : Array Slot), ez_S X B s.heap (σ0.length) σ H locs → z_X4_readEither_k1_63 σ x2 = some z → lv_has ls 4 [(2, .int x2)] → W p l e R s m args below meth c H locs 0 0 Q (F0 m 63 ls []) := by
    intro σ x2 H locs ls hS h hl
    refine lv_iload_n hx hb dX4_readEither_63 rfl (lv_at hl 0 rfl) ?_
    obtain ⟨hn, h⟩ := ez_nr_sp rfl h
    exact hret _ _ _ _ _ _ (Option.some.inj h) hn hS dX4_readEither_64
  have K_8 : ∀ (k_8 : ez_H → Nat → Int32 → Int32 → Option (Int32 × ez_H)) (hk_8 : ∀ (σ : ez_H) (h0 : Nat) (x2 : Int32) (x3 : Int32) (H : Heap) (locs : List Loc) (ls : Array Slot), ez_S X B s.heap (σ0.length) σ H locs → k_8 σ h0 x2 x3 = some z → lv_has ls 4 [(0, .ref (B + h0)), (1, .int 1), (2, .int x2), (3, .int x3)] → W p l e R s m args below meth c H locs 0 0 Q (F0 m 8 ls [])), ∀ (σ : ez_H) (h0 : Nat) (x2 : Int32) (x3 : Int32) (H : Heap) (locs : List Loc) (ls : Array Slot), ez_S X B s.heap (σ0.length) σ H locs → z_X4_readEither_k1_8 k_8 σ h0 x2 x3 = some z → lv_has ls 4 [(0, .ref (B + h0)), (1, .int 1), (2, .int x2), (3, .int x3)] → W p l e R s m args below meth c H locs 0 0 Q (F0 m 8 ls []) := by
    intro k_8 hk_8 σ h0 x2 x3 H locs ls hS h hl
    refine lv_iload_n hx hb dX4_readEither_8 rfl (lv_at hl 3 rfl) ?_
    refine lv_sipush (v := 1600) hx hb dX4_readEither_9 (by decide) ?_
    refine lv_icmp_ge (tgt := 63) hx hb dX4_readEither_12 (by decide) (fun c_12 => ?_) (fun c_12 => ?_)
    · replace h := ez_ifp h c_12
      exact K_63  σ x2 _ _ _ hS h (lv_sub hl [2] rfl)
    · replace h := ez_ifn h c_12
      refine lv_iload_n hx hb dX4_readEither_15 rfl (lv_at hl 2 rfl) ?_
      refine lv_if_eq (tgt := 63) hx hb dX4_readEither_16 (by decide) (fun c_16 => ?_) (fun c_16 => ?_)
      · replace h := ez_ifp h c_16
        exact K_63  σ x2 _ _ _ hS h (lv_sub hl [2] rfl)
      · replace h := ez_ifn h c_16
        refine lv_aload_n hx hb dX4_readEither_19 rfl (lv_at hl 0 rfl) ?_
        refine eg_RX4_30 hC hS h dX4_readEither_20 (fun t_20 h => ?_)
        refine eg_RX4_49 hC hS h dX4_readEither_23 (fun t_23 h => ?_)
        refine lv_bipush (v := 16) hx hb dX4_readEither_26 (by decide) ?_
        refine lv_icmp_ne (tgt := 63) hx hb dX4_readEither_28 (by decide) (fun c_28 => ?_) (fun c_28 => ?_)
        · replace h := ez_ifn h c_28
          exact K_63  σ x2 _ _ _ hS h (lv_sub hl [2] rfl)
        · replace h := ez_ifp h c_28
          refine lv_aload_n hx hb dX4_readEither_31 rfl (lv_at hl 0 rfl) ?_
          refine eg_RX4_30 hC hS h dX4_readEither_32 (fun t_32 h => ?_)
          refine ez_cVv (As := []) (rest := []) h (fun _ q => c_X9_advance q) hC k_X9_advance ql_RX4_66 rfl (by decide) hS (fun _ q => ez_rcv q) rfl hl.1 rfl (Nat.le_of_ble_eq_true rfl) ⟨Nat.zero_le _, Nat.zero_le _⟩ dX4_readEither_35 (fun _ σ H locs hS h => ?_)
          refine lv_aload_n hx hb dX4_readEither_38 rfl (lv_at hl 0 rfl) ?_
          refine lv_iload_n hx hb dX4_readEither_39 rfl (lv_at hl 1 rfl) ?_
          refine ez_cVi (As := [.int 1]) (rest := []) h (fun _ q => c_X4_readBoth_k1 q) hC k_X4_readBoth ql_RX4_211 rfl (by decide) hS (fun _ q => ez_rcv q) rfl hl.1 rfl (Nat.le_of_ble_eq_true rfl) ⟨Nat.zero_le _, Nat.zero_le _⟩ dX4_readEither_40 (fun t_40 σ H locs hS h => ?_)
          refine lv_istore_n (lv' := [(2, .int t_40), (0, .ref (B + h0)), (1, .int 1), (3, .int x3)]) hx hb dX4_readEither_43 rfl hl (by decide) rfl (fun ls hl => ?_)
          refine lv_aload_n hx hb dX4_readEither_44 rfl (lv_at hl 1 rfl) ?_
          refine eg_RX4_12 hC hS h dX4_readEither_45 (fun t_45 h => ?_)
          refine eg_RX4_214 hC hS h dX4_readEither_48 (fun t_48 h => ?_)
          refine lv_bipush (v := 6) hx hb dX4_readEither_51 (by decide) ?_
          refine lv_iconst (v := 0) hx hb dX4_readEither_53 (by decide) ?_
          refine ez_cVv (As := [.int 6, .int 0]) (rest := []) h (fun _ q => c_X0_append q) hC k_X0_append ql_RX4_220 rfl (by decide) hS (fun _ q => ez_rcv q) rfl hl.1 rfl (Nat.le_of_ble_eq_true rfl) ⟨Nat.zero_le _, Nat.zero_le _⟩ dX4_readEither_54 (fun _ σ H locs hS h => ?_)
          obtain ⟨t_57, e_57, h⟩ := ez_let_sp h
          refine lv_iinc (v := t_57) (lv' := [(3, .int t_57), (2, .int t_40), (0, .ref (B + h0)), (1, .int 1)]) hx hb dX4_readEither_57 hl (k := 3) rfl (by rw [e_57]; rfl) (by decide) rfl (fun ls hl => ?_)
          refine lv_goto (tgt := 8) hx hb dX4_readEither_60 (by decide) ?_
          exact hk_8 σ h0 t_40 t_57 _ _ _ hS h (lv_sub hl [2, 3, 1, 0] rfl)
  have E_8 : ∀ (σ : ez_H) (h0 : Nat) (x2 : Int32) (x3 : Int32) (H : Heap) (locs : List Loc) (ls : Array Slot), ez_S X B s.heap (σ0.length) σ H locs → (ez_fix (fun _ _ _ _ => none) (z_X4_readEither_k1_8) ez_N) σ h0 x2 x3 = some z → lv_has ls 4 [(0, .ref (B + h0)), (1, .int 1), (2, .int x2), (3, .int x3)] → W p l e R s m args below meth c H locs 0 0 Q (F0 m 8 ls []) := ez_fix_ind (fun k_8 : ez_H → Nat → Int32 → Int32 → Option (Int32 × ez_H) => ∀ (σ : ez_H) (h0 : Nat) (x2 : Int32) (x3 : Int32) (H : Heap) (locs : List Loc) (ls : Array Slot), ez_S X B s.heap (σ0.length) σ H locs → k_8 σ h0 x2 x3 = some z → lv_has ls 4 [(0, .ref (B + h0)), (1, .int 1), (2, .int x2), (3, .int x3)] → W p l e R s m args below meth c H locs 0 0 Q (F0 m 8 ls [])) (fun _ _ _ _ _ _ _ _ h _ => by cases h) (fun k_8 hk_8 => K_8 k_8 hk_8) ez_N
  refine lv_aload_n hx hb dX4_readEither_0 rfl (lv_at hl 0 rfl) ?_
  refine lv_iload_n hx hb dX4_readEither_1 rfl (lv_at hl 1 rfl) ?_
  refine ez_cVi (As := [.int 1]) (rest := []) h (fun _ q => c_X4_readBoth_k1 q) hC k_X4_readBoth ql_RX4_211 rfl (by decide) hS (fun _ q => ez_rcv q) rfl hl.1 rfl (Nat.le_of_ble_eq_true rfl) ⟨Nat.zero_le _, Nat.zero_le _⟩ dX4_readEither_2 (fun t_2 σ H locs hS h => ?_)
  refine lv_istore_n (lv' := [(2, .int t_2), (0, .ref (B + h0)), (1, .int 1)]) hx hb dX4_readEither_5 rfl hl (by decide) rfl (fun ls hl => ?_)
  refine lv_iconst (v := 0) hx hb dX4_readEither_6 (by decide) ?_
  refine lv_istore_n (lv' := [(3, .int 0), (2, .int t_2), (0, .ref (B + h0)), (1, .int 1)]) hx hb dX4_readEither_7 rfl hl (by decide) rfl (fun ls hl => ?_)
  exact E_8  σ h0 t_2 (0 : Int32) _ _ _ hS h (lv_sub hl [2, 3, 1, 0] rfl)
set_option maxHeartbeats 4000000 in
set_option maxRecDepth 100000 in
theorem c_X4_readUnit_k0 {l : Launch} {X : ez_X} {B : Nat} {σ : ez_H} {h0 : Nat} {z : Int32 × ez_H} (h : z_X4_readUnit_k0 σ h0 = some z) : ez_M l X B σ yX4_readUnit cX4_readUnit 4 (some .boolean) 47 [.ref (B + h0), .int 0] (some (.int z.1)) z.2 := by
  refine ez_starti (z := z) (by decide) (Nat.le_of_ble_eq_true rfl) (fun p e R s m args below meth c Q hC hret hS ls hl => ?_)
  have hC : ez_C p R s m args c X B RX4 cX4_readUnit 4 47 := hC
  have hx := hC.1.1
  have hb := hC.1.2.1
  have hown := hC.1.2.2.2.1
  have hts := hC.1.2.2.2.2
  have hl : lv_has ls 4 [(0, .ref (B + h0)), (1, .int 0)] := hl
  obtain ⟨σ0, eσ⟩ : ∃ σ0 : ez_H, σ0 = σ := ⟨_, rfl⟩
  rw [← eσ] at hret
  have hS : ez_S X B s.heap σ0.length σ s.heap [] := eσ ▸ hS
  obtain ⟨-, h⟩ := ez_in h
  have K_140 : ∀ (σ : ez_H) (y0 : Int32) (H : Heap) (locs : List Loc) (ls : Array Slot), ez_S X B s.heap (σ0.length) σ H locs → z_X4_readUnit_k0_140 σ y0 = some z → lv_has ls 4 [] → W p l e R s m args below meth c H locs 0 0 Q (F0 m 140 ls [.int y0]) := by
    intro σ y0 H locs ls hS h hl
    obtain ⟨hn, h⟩ := ez_nr_sp rfl h
    exact hret _ _ _ _ _ _ (Option.some.inj h) hn hS dX4_readUnit_140
  have K_135 : ∀ (σ : ez_H) (H : Heap) (locs : List Loc) (ls : Array Slot), ez_S X B s.heap (σ0.length) σ H locs → z_X4_readUnit_k0_135 σ = some z → lv_has ls 4 [] → W p l e R s m args below meth c H locs 0 0 Q (F0 m 135 ls []) := by
    intro σ H locs ls hS h hl
    refine lv_iconst (v := 1) hx hb dX4_readUnit_135 (by decide) ?_
    refine lv_goto (tgt := 140) hx hb dX4_readUnit_136 (by decide) ?_
    exact K_140  σ (1 : Int32) _ _ _ hS h (lv_sub hl [] rfl)
  have K_139 : ∀ (σ : ez_H) (H : Heap) (locs : List Loc) (ls : Array Slot), ez_S X B s.heap (σ0.length) σ H locs → z_X4_readUnit_k0_139 σ = some z → lv_has ls 4 [] → W p l e R s m args below meth c H locs 0 0 Q (F0 m 139 ls []) := by
    intro σ H locs ls hS h hl
    refine lv_iconst (v := 0) hx hb dX4_readUnit_139 (by decide) ?_
    exact K_140  σ (0 : Int32) _ _ _ hS h (lv_sub hl [] rfl)
  have K_105 : ∀ (σ : ez_H) (h0 : Nat) (x2 : Int32) (H : Heap) (locs : List Loc) (ls : Array Slot), ez_S X B s.heap (σ0.length) σ H locs → z_X4_readUnit_k0_105 σ h0 x2 = some z → lv_has ls 4 [(0, .ref (B + h0)), (1, .int 0), (2, .int x2)] → W p l e R s m args below meth c H locs 0 0 Q (F0 m 105 ls []) := by
    intro σ h0 x2 H locs ls hS h hl
    refine lv_aload_n hx hb dX4_readUnit_105 rfl (lv_at hl 0 rfl) ?_
    refine eg_RX4_30 hC hS h dX4_readUnit_106 (fun t_106 h => ?_)
    refine ez_cVv (As := []) (rest := []) h (fun _ q => c_X9_advance q) hC k_X9_advance ql_RX4_66 rfl (by decide) hS (fun _ q => ez_rcv q) rfl hl.1 rfl (Nat.le_of_ble_eq_true rfl) ⟨Nat.zero_le _, Nat.zero_le _⟩ dX4_readUnit_109 (fun _ σ H locs hS h => ?_)
    refine lv_iload_n hx hb dX4_readUnit_112 rfl (lv_at hl 2 rfl) ?_
    refine lv_if_eq (tgt := 135) hx hb dX4_readUnit_113 (by decide) (fun c_113 => ?_) (fun c_113 => ?_)
    · replace h := ez_ifp h c_113
      exact K_135  σ _ _ _ hS h (lv_sub hl [] rfl)
    · replace h := ez_ifn h c_113
      refine lv_aload_n hx hb dX4_readUnit_116 rfl (lv_at hl 0 rfl) ?_
      refine lv_iload_n hx hb dX4_readUnit_117 rfl (lv_at hl 1 rfl) ?_
      refine lv_iconst (v := 1) hx hb dX4_readUnit_118 (by decide) ?_
      refine lv_iadd hx hb dX4_readUnit_119 ?_
      rw [show (0 : Int32) + (1 : Int32) = 1 from by decide]
      refine ez_cVi (As := [.int 1]) (rest := []) h (fun _ q => c_X4_readEither_k1 q) hC k_X4_readEither ql_RX4_94 rfl (by decide) hS (fun _ q => ez_rcv q) rfl hl.1 rfl (Nat.le_of_ble_eq_true rfl) ⟨Nat.zero_le _, Nat.zero_le _⟩ dX4_readUnit_120 (fun t_120 σ H locs hS h => ?_)
      refine lv_if_eq (tgt := 139) hx hb dX4_readUnit_123 (by decide) (fun c_123 => ?_) (fun c_123 => ?_)
      · replace h := ez_ifp h c_123
        exact K_139  σ _ _ _ hS h (lv_sub hl [] rfl)
      · replace h := ez_ifn h c_123
        refine lv_aload_n hx hb dX4_readUnit_126 rfl (lv_at hl 0 rfl) ?_
        refine lv_bipush (v := 41) hx hb dX4_readUnit_127 (by decide) ?_
        refine ez_cVi (As := [.int 41]) (rest := []) h (fun _ q => c_X4_expect q) hC k_X4_expect ql_RX4_97 rfl (by decide) hS (fun _ q => ez_rcv q) rfl hl.1 rfl (Nat.le_of_ble_eq_true rfl) ⟨Nat.zero_le _, Nat.zero_le _⟩ dX4_readUnit_129 (fun t_129 σ H locs hS h => ?_)
        refine lv_if_eq (tgt := 139) hx hb dX4_readUnit_132 (by decide) (fun c_132 => ?_) (fun c_132 => ?_)
        · replace h := ez_ifp h c_132
          exact K_139  σ _ _ _ hS h (lv_sub hl [] rfl)
        · replace h := ez_ifn h c_132
          exact K_135  σ _ _ _ hS h (lv_sub hl [] rfl)
  have K_67 : ∀ (σ : ez_H) (h0 : Nat) (x2 : Int32) (x3 : Int32) (H : Heap) (locs : List Loc) (ls : Array Slot), ez_S X B s.heap (σ0.length) σ H locs → z_X4_readUnit_k0_67 σ h0 x2 x3 = some z → lv_has ls 4 [(0, .ref (B + h0)), (1, .int 0), (2, .int x2), (3, .int x3)] → W p l e R s m args below meth c H locs 0 0 Q (F0 m 67 ls []) := by
    intro σ h0 x2 x3 H locs ls hS h hl
    refine lv_aload_n hx hb dX4_readUnit_67 rfl (lv_at hl 0 rfl) ?_
    refine eg_RX4_12 hC hS h dX4_readUnit_68 (fun t_68 h => ?_)
    refine eg_RX4_214 hC hS h dX4_readUnit_71 (fun t_71 h => ?_)
    refine lv_dup hx hb dX4_readUnit_74 rfl ?_
    refine eg_RX4_244 hC hS h dX4_readUnit_75 (fun t_75 h => ?_)
    refine lv_iconst (v := 1) hx hb dX4_readUnit_78 (by decide) ?_
    refine lv_iadd hx hb dX4_readUnit_79 ?_
    refine ez_top h (fun t_79 h => ?_)
    refine ep_RX4_244 hC hS h dX4_readUnit_80 (fun σ H locs hS h => ?_)
    refine lv_iload_n hx hb dX4_readUnit_83 rfl (lv_at hl 2 rfl) ?_
    refine lv_if_ne (tgt := 105) hx hb dX4_readUnit_84 (by decide) (fun c_84 => ?_) (fun c_84 => ?_)
    · replace h := ez_ifn h c_84
      exact K_105  σ h0 x2 _ _ _ hS h (lv_sub hl [0, 1, 2] rfl)
    · replace h := ez_ifp h c_84
      refine lv_aload_n hx hb dX4_readUnit_87 rfl (lv_at hl 0 rfl) ?_
      refine eg_RX4_12 hC hS h dX4_readUnit_88 (fun t_88 h => ?_)
      refine eg_RX4_214 hC hS h dX4_readUnit_91 (fun t_91 h => ?_)
      refine lv_iload_n hx hb dX4_readUnit_94 rfl (lv_at hl 3 rfl) ?_
      refine lv_aload_n hx hb dX4_readUnit_95 rfl (lv_at hl 0 rfl) ?_
      refine eg_RX4_30 hC hS h dX4_readUnit_96 (fun t_96 h => ?_)
      refine eg_RX4_106 hC hS h dX4_readUnit_99 (fun t_99 h => ?_)
      refine ez_cVv (As := [.int x3, .int t_99]) (rest := []) h (fun _ q => c_X0_append q) hC k_X0_append ql_RX4_220 rfl (by decide) hS (fun _ q => ez_rcv q) rfl hl.1 rfl (Nat.le_of_ble_eq_true rfl) ⟨Nat.zero_le _, Nat.zero_le _⟩ dX4_readUnit_102 (fun _ σ H locs hS h => ?_)
      exact K_105  σ h0 x2 _ _ _ hS h (lv_sub hl [0, 1, 2] rfl)
  have K_47 : ∀ (σ : ez_H) (h0 : Nat) (H : Heap) (locs : List Loc) (ls : Array Slot), ez_S X B s.heap (σ0.length) σ H locs → z_X4_readUnit_k0_47 σ h0 = some z → lv_has ls 4 [(0, .ref (B + h0))] → W p l e R s m args below meth c H locs 0 0 Q (F0 m 47 ls []) := by
    intro σ h0 H locs ls hS h hl
    refine lv_aload_n hx hb dX4_readUnit_47 rfl (lv_at hl 0 rfl) ?_
    refine ez_cVi (As := []) (rest := []) h (fun _ q => c_X4_refuse q) hC k_X4_refuse ql_RX4_63 rfl (by decide) hS (fun _ q => ez_rcv q) rfl hl.1 rfl (Nat.le_of_ble_eq_true rfl) ⟨Nat.zero_le _, Nat.zero_le _⟩ dX4_readUnit_48 (fun t_48 σ H locs hS h => ?_)
    obtain ⟨hn, h⟩ := ez_nr_sp rfl h
    exact hret _ _ _ _ _ _ (Option.some.inj h) hn hS dX4_readUnit_51
  have K_32 : ∀ (σ : ez_H) (h0 : Nat) (x2 : Int32) (x3 : Int32) (H : Heap) (locs : List Loc) (ls : Array Slot), ez_S X B s.heap (σ0.length) σ H locs → z_X4_readUnit_k0_32 σ h0 x2 x3 = some z → lv_has ls 4 [(0, .ref (B + h0)), (1, .int 0), (2, .int x2), (3, .int x3)] → W p l e R s m args below meth c H locs 0 0 Q (F0 m 32 ls []) := by
    intro σ h0 x2 x3 H locs ls hS h hl
    refine lv_aload_n hx hb dX4_readUnit_32 rfl (lv_at hl 0 rfl) ?_
    refine eg_RX4_12 hC hS h dX4_readUnit_33 (fun t_33 h => ?_)
    refine eg_RX4_214 hC hS h dX4_readUnit_36 (fun t_36 h => ?_)
    refine eg_RX4_244 hC hS h dX4_readUnit_39 (fun t_39 h => ?_)
    refine lv_bipush (v := 30) hx hb dX4_readUnit_42 (by decide) ?_
    refine lv_icmp_lt (tgt := 52) hx hb dX4_readUnit_44 (by decide) (fun c_44 => ?_) (fun c_44 => ?_)
    · replace h := ez_ifp h c_44
      refine lv_iload_n hx hb dX4_readUnit_52 rfl (lv_at hl 2 rfl) ?_
      refine lv_if_eq (tgt := 67) hx hb dX4_readUnit_53 (by decide) (fun c_53 => ?_) (fun c_53 => ?_)
      · replace h := ez_ifp h c_53
        exact K_67  σ h0 x2 x3 _ _ _ hS h (lv_sub hl [0, 1, 2, 3] rfl)
      · replace h := ez_ifn h c_53
        refine lv_iload_n hx hb dX4_readUnit_56 rfl (lv_at hl 1 rfl) ?_
        refine lv_bipush (v := 6) hx hb dX4_readUnit_57 (by decide) ?_
        refine lv_icmp_le (tgt := 67) hx hb dX4_readUnit_59 (by decide) (fun c_59 => ?_) (fun c_59 => ?_)
        · skip
          exact K_67  σ h0 x2 x3 _ _ _ hS h (lv_sub hl [0, 1, 2, 3] rfl)
        · exact absurd c_59 (by decide)
    · replace h := ez_ifn h c_44
      exact K_47  σ h0 _ _ _ hS h (lv_sub hl [0] rfl)
  have K_17 : ∀ (σ : ez_H) (h0 : Nat) (y0 : Int32) (H : Heap) (locs : List Loc) (ls : Array Slot), ez_S X B s.heap (σ0.length) σ H locs → z_X4_readUnit_k0_17 σ h0 y0 = some z → lv_has ls 4 [(0, .ref (B + h0)), (1, .int 0)] → W p l e R s m args below meth c H locs 0 0 Q (F0 m 17 ls [.int y0]) := by
    intro σ h0 y0 H locs ls hS h hl
    refine lv_istore_n (lv' := [(2, .int y0), (0, .ref (B + h0)), (1, .int 0)]) hx hb dX4_readUnit_17 rfl hl (by decide) rfl (fun ls hl => ?_)
    refine lv_aload_n hx hb dX4_readUnit_18 rfl (lv_at hl 1 rfl) ?_
    refine ez_cVpi (As := []) (rest := []) h (fun _ q => c_X4_unitHere q) hC k_X4_unitHere ql_RX4_241 rfl (by decide) hS (fun _ q => ez_rcv q) rfl hl.1 rfl (Nat.le_of_ble_eq_true rfl) ⟨Nat.zero_le _, Nat.zero_le _⟩ dX4_readUnit_19 (fun t_19 H locs hS h => ?_)
    refine lv_istore_n (lv' := [(3, .int t_19), (2, .int y0), (0, .ref (B + h0)), (1, .int 0)]) hx hb dX4_readUnit_22 rfl hl (by decide) rfl (fun ls hl => ?_)
    refine lv_iload_n hx hb dX4_readUnit_23 rfl (lv_at hl 1 rfl) ?_
    refine lv_if_ne (tgt := 32) hx hb dX4_readUnit_24 (by decide) (fun c_24 => ?_) (fun c_24 => ?_)
    · replace h := ez_ifn h c_24
      exact K_32  σ h0 y0 t_19 _ _ _ hS h (lv_sub hl [2, 3, 1, 0] rfl)
    · replace h := ez_ifp h c_24
      refine lv_iload_n hx hb dX4_readUnit_27 rfl (lv_at hl 0 rfl) ?_
      refine lv_iconst (v := -1) hx hb dX4_readUnit_28 (by decide) ?_
      refine lv_icmp_eq (tgt := 47) hx hb dX4_readUnit_29 (by decide) (fun c_29 => ?_) (fun c_29 => ?_)
      · replace h := ez_ifp h c_29
        exact K_47  σ h0 _ _ _ hS h (lv_sub hl [2] rfl)
      · replace h := ez_ifn h c_29
        exact K_32  σ h0 y0 t_19 _ _ _ hS h (lv_sub hl [2, 3, 1, 0] rfl)
  refine lv_aload_n hx hb dX4_readUnit_0 rfl (lv_at hl 0 rfl) ?_
  refine eg_RX4_30 hC hS h dX4_readUnit_1 (fun t_1 h => ?_)
  refine eg_RX4_49 hC hS h dX4_readUnit_4 (fun t_4 h => ?_)
  refine lv_bipush (v := 40) hx hb dX4_readUnit_7 (by decide) ?_
  refine lv_icmp_ne (tgt := 16) hx hb dX4_readUnit_9 (by decide) (fun c_9 => ?_) (fun c_9 => ?_)
  · replace h := ez_ifn h c_9
    refine lv_iconst (v := 0) hx hb dX4_readUnit_16 (by decide) ?_
    exact K_17  σ h0 (0 : Int32) _ _ _ hS h (lv_sub hl [0, 1] rfl)
  · replace h := ez_ifp h c_9
    refine lv_iconst (v := 1) hx hb dX4_readUnit_12 (by decide) ?_
    refine lv_goto (tgt := 17) hx hb dX4_readUnit_13 (by decide) ?_
    exact K_17  σ h0 (1 : Int32) _ _ _ hS h (lv_sub hl [0, 1] rfl)
set_option maxHeartbeats 4000000 in
set_option maxRecDepth 100000 in
theorem c_X4_readTerm_k0 {l : Launch} {X : ez_X} {B : Nat} {σ : ez_H} {h0 : Nat} {z : Int32 × ez_H} (h : z_X4_readTerm_k0 σ h0 = some z) : ez_M l X B σ yX4_readTerm cX4_readTerm 5 (some .boolean) 48 [.ref (B + h0), .int 0] (some (.int z.1)) z.2 := by
  refine ez_starti (z := z) (by decide) (Nat.le_of_ble_eq_true rfl) (fun p e R s m args below meth c Q hC hret hS ls hl => ?_)
  have hC : ez_C p R s m args c X B RX4 cX4_readTerm 5 48 := hC
  have hx := hC.1.1
  have hb := hC.1.2.1
  have hown := hC.1.2.2.2.1
  have hts := hC.1.2.2.2.2
  have hl : lv_has ls 5 [(0, .ref (B + h0)), (1, .int 0)] := hl
  obtain ⟨σ0, eσ⟩ : ∃ σ0 : ez_H, σ0 = σ := ⟨_, rfl⟩
  rw [← eσ] at hret
  have hS : ez_S X B s.heap σ0.length σ s.heap [] := eσ ▸ hS
  obtain ⟨-, h⟩ := ez_in h
  have K_65 : ∀ (σ : ez_H) (x2 : Int32) (H : Heap) (locs : List Loc) (ls : Array Slot), ez_S X B s.heap (σ0.length) σ H locs → z_X4_readTerm_k0_65 σ x2 = some z → lv_has ls 5 [(2, .int x2)] → W p l e R s m args below meth c H locs 0 0 Q (F0 m 65 ls []) := by
    intro σ x2 H locs ls hS h hl
    refine lv_iload_n hx hb dX4_readTerm_65 rfl (lv_at hl 0 rfl) ?_
    obtain ⟨hn, h⟩ := ez_nr_sp rfl h
    exact hret _ _ _ _ _ _ (Option.some.inj h) hn hS dX4_readTerm_66
  have K_8 : ∀ (k_8 : ez_H → Nat → Int32 → Int32 → Option (Int32 × ez_H)) (hk_8 : ∀ (σ : ez_H) (h0 : Nat) (x2 : Int32) (x3 : Int32) (H : Heap) (locs : List Loc) (ls : Array Slot), ez_S X B s.heap (σ0.length) σ H locs → k_8 σ h0 x2 x3 = some z → lv_has ls 5 [(0, .ref (B + h0)), (1, .int 0), (2, .int x2), (3, .int x3)] → W p l e R s m args below meth c H locs 0 0 Q (F0 m 8 ls [])), ∀ (σ : ez_H) (h0 : Nat) (x2 : Int32) (x3 : Int32) (H : Heap) (locs : List Loc) (ls : Array Slot), ez_S X B s.heap (σ0.length) σ H locs → z_X4_readTerm_k0_8 k_8 σ h0 x2 x3 = some z → lv_has ls 5 [(0, .ref (B + h0)), (1, .int 0), (2, .int x2), (3, .int x3)] → W p l e R s m args below meth c H locs 0 0 Q (F0 m 8 ls []) := by
    intro k_8 hk_8 σ h0 x2 x3 H locs ls hS h hl
    refine lv_iload_n hx hb dX4_readTerm_8 rfl (lv_at hl 3 rfl) ?_
    refine lv_sipush (v := 1600) hx hb dX4_readTerm_9 (by decide) ?_
    refine lv_icmp_ge (tgt := 65) hx hb dX4_readTerm_12 (by decide) (fun c_12 => ?_) (fun c_12 => ?_)
    · replace h := ez_ifp h c_12
      exact K_65  σ x2 _ _ _ hS h (lv_sub hl [2] rfl)
    · replace h := ez_ifn h c_12
      refine lv_iload_n hx hb dX4_readTerm_15 rfl (lv_at hl 2 rfl) ?_
      refine lv_if_eq (tgt := 65) hx hb dX4_readTerm_16 (by decide) (fun c_16 => ?_) (fun c_16 => ?_)
      · replace h := ez_ifp h c_16
        exact K_65  σ x2 _ _ _ hS h (lv_sub hl [2] rfl)
      · replace h := ez_ifn h c_16
        refine lv_aload_n hx hb dX4_readTerm_19 rfl (lv_at hl 0 rfl) ?_
        refine ez_cVpi (As := []) (rest := []) h (fun _ q => c_X4_productHere q) hC k_X4_productHere ql_RX4_238 rfl (by decide) hS (fun _ q => ez_rcv q) rfl hl.1 rfl (Nat.le_of_ble_eq_true rfl) ⟨Nat.zero_le _, Nat.zero_le _⟩ dX4_readTerm_20 (fun t_20 H locs hS h => ?_)
        refine lv_iconst (v := -1) hx hb dX4_readTerm_23 (by decide) ?_
        refine lv_icmp_eq (tgt := 65) hx hb dX4_readTerm_24 (by decide) (fun c_24 => ?_) (fun c_24 => ?_)
        · replace h := ez_ifp h c_24
          exact K_65  σ x2 _ _ _ hS h (lv_sub hl [2] rfl)
        · replace h := ez_ifn h c_24
          refine lv_aload_n hx hb dX4_readTerm_27 rfl (lv_at hl 0 rfl) ?_
          refine ez_cVpi (As := []) (rest := []) h (fun _ q => c_X4_productHere q) hC k_X4_productHere ql_RX4_238 rfl (by decide) hS (fun _ q => ez_rcv q) rfl hl.1 rfl (Nat.le_of_ble_eq_true rfl) ⟨Nat.zero_le _, Nat.zero_le _⟩ dX4_readTerm_28 (fun t_28 H locs hS h => ?_)
          refine lv_istore (lv' := [(4, .int t_28), (0, .ref (B + h0)), (1, .int 0), (2, .int x2), (3, .int x3)]) hx hb dX4_readTerm_31 hl (by decide) rfl (fun ls hl => ?_)
          refine lv_aload_n hx hb dX4_readTerm_33 rfl (lv_at hl 1 rfl) ?_
          refine eg_RX4_30 hC hS h dX4_readTerm_34 (fun t_34 h => ?_)
          refine ez_cVv (As := []) (rest := []) h (fun _ q => c_X9_advance q) hC k_X9_advance ql_RX4_66 rfl (by decide) hS (fun _ q => ez_rcv q) rfl hl.1 rfl (Nat.le_of_ble_eq_true rfl) ⟨Nat.zero_le _, Nat.zero_le _⟩ dX4_readTerm_37 (fun _ σ H locs hS h => ?_)
          refine lv_aload_n hx hb dX4_readTerm_40 rfl (lv_at hl 1 rfl) ?_
          refine lv_iload_n hx hb dX4_readTerm_41 rfl (lv_at hl 2 rfl) ?_
          refine ez_cVi (As := [.int 0]) (rest := []) h (fun _ q => c_X4_readUnit_k0 q) hC k_X4_readUnit ql_RX4_235 rfl (by decide) hS (fun _ q => ez_rcv q) rfl hl.1 rfl (Nat.le_of_ble_eq_true rfl) ⟨Nat.zero_le _, Nat.zero_le _⟩ dX4_readTerm_42 (fun t_42 σ H locs hS h => ?_)
          refine lv_istore_n (lv' := [(2, .int t_42), (4, .int t_28), (0, .ref (B + h0)), (1, .int 0), (3, .int x3)]) hx hb dX4_readTerm_45 rfl hl (by decide) rfl (fun ls hl => ?_)
          refine lv_aload_n hx hb dX4_readTerm_46 rfl (lv_at hl 2 rfl) ?_
          refine eg_RX4_12 hC hS h dX4_readTerm_47 (fun t_47 h => ?_)
          refine eg_RX4_214 hC hS h dX4_readTerm_50 (fun t_50 h => ?_)
          refine lv_iload hx hb dX4_readTerm_53 (lv_at hl 1 rfl) ?_
          refine lv_iconst (v := 0) hx hb dX4_readTerm_55 (by decide) ?_
          refine ez_cVv (As := [.int t_28, .int 0]) (rest := []) h (fun _ q => c_X0_append q) hC k_X0_append ql_RX4_220 rfl (by decide) hS (fun _ q => ez_rcv q) rfl hl.1 rfl (Nat.le_of_ble_eq_true rfl) ⟨Nat.zero_le _, Nat.zero_le _⟩ dX4_readTerm_56 (fun _ σ H locs hS h => ?_)
          obtain ⟨t_59, e_59, h⟩ := ez_let_sp h
          refine lv_iinc (v := t_59) (lv' := [(3, .int t_59), (2, .int t_42), (4, .int t_28), (0, .ref (B + h0)), (1, .int 0)]) hx hb dX4_readTerm_59 hl (k := 4) rfl (by rw [e_59]; rfl) (by decide) rfl (fun ls hl => ?_)
          refine lv_goto (tgt := 8) hx hb dX4_readTerm_62 (by decide) ?_
          exact hk_8 σ h0 t_42 t_59 _ _ _ hS h (lv_sub hl [3, 4, 1, 0] rfl)
  have E_8 : ∀ (σ : ez_H) (h0 : Nat) (x2 : Int32) (x3 : Int32) (H : Heap) (locs : List Loc) (ls : Array Slot), ez_S X B s.heap (σ0.length) σ H locs → (ez_fix (fun _ _ _ _ => none) (z_X4_readTerm_k0_8) ez_N) σ h0 x2 x3 = some z → lv_has ls 5 [(0, .ref (B + h0)), (1, .int 0), (2, .int x2), (3, .int x3)] → W p l e R s m args below meth c H locs 0 0 Q (F0 m 8 ls []) := ez_fix_ind (fun k_8 : ez_H → Nat → Int32 → Int32 → Option (Int32 × ez_H) => ∀ (σ : ez_H) (h0 : Nat) (x2 : Int32) (x3 : Int32) (H : Heap) (locs : List Loc) (ls : Array Slot), ez_S X B s.heap (σ0.length) σ H locs → k_8 σ h0 x2 x3 = some z → lv_has ls 5 [(0, .ref (B + h0)), (1, .int 0), (2, .int x2), (3, .int x3)] → W p l e R s m args below meth c H locs 0 0 Q (F0 m 8 ls [])) (fun _ _ _ _ _ _ _ _ h _ => by cases h) (fun k_8 hk_8 => K_8 k_8 hk_8) ez_N
  refine lv_aload_n hx hb dX4_readTerm_0 rfl (lv_at hl 0 rfl) ?_
  refine lv_iload_n hx hb dX4_readTerm_1 rfl (lv_at hl 1 rfl) ?_
  refine ez_cVi (As := [.int 0]) (rest := []) h (fun _ q => c_X4_readUnit_k0 q) hC k_X4_readUnit ql_RX4_235 rfl (by decide) hS (fun _ q => ez_rcv q) rfl hl.1 rfl (Nat.le_of_ble_eq_true rfl) ⟨Nat.zero_le _, Nat.zero_le _⟩ dX4_readTerm_2 (fun t_2 σ H locs hS h => ?_)
  refine lv_istore_n (lv' := [(2, .int t_2), (0, .ref (B + h0)), (1, .int 0)]) hx hb dX4_readTerm_5 rfl hl (by decide) rfl (fun ls hl => ?_)
  refine lv_iconst (v := 0) hx hb dX4_readTerm_6 (by decide) ?_
  refine lv_istore_n (lv' := [(3, .int 0), (2, .int t_2), (0, .ref (B + h0)), (1, .int 0)]) hx hb dX4_readTerm_7 rfl hl (by decide) rfl (fun ls hl => ?_)
  exact E_8  σ h0 t_2 (0 : Int32) _ _ _ hS h (lv_sub hl [2, 3, 1, 0] rfl)
set_option maxHeartbeats 4000000 in
set_option maxRecDepth 100000 in
theorem c_X4_readSum_k0 {l : Launch} {X : ez_X} {B : Nat} {σ : ez_H} {h0 : Nat} {z : Int32 × ez_H} (h : z_X4_readSum_k0 σ h0 = some z) : ez_M l X B σ yX4_readSum cX4_readSum 5 (some .boolean) 49 [.ref (B + h0), .int 0] (some (.int z.1)) z.2 := by
  refine ez_starti (z := z) (by decide) (Nat.le_of_ble_eq_true rfl) (fun p e R s m args below meth c Q hC hret hS ls hl => ?_)
  have hC : ez_C p R s m args c X B RX4 cX4_readSum 5 49 := hC
  have hx := hC.1.1
  have hb := hC.1.2.1
  have hown := hC.1.2.2.2.1
  have hts := hC.1.2.2.2.2
  have hl : lv_has ls 5 [(0, .ref (B + h0)), (1, .int 0)] := hl
  obtain ⟨σ0, eσ⟩ : ∃ σ0 : ez_H, σ0 = σ := ⟨_, rfl⟩
  rw [← eσ] at hret
  have hS : ez_S X B s.heap σ0.length σ s.heap [] := eσ ▸ hS
  obtain ⟨-, h⟩ := ez_in h
  have K_96 : ∀ (σ : ez_H) (x2 : Int32) (H : Heap) (locs : List Loc) (ls : Array Slot), ez_S X B s.heap (σ0.length) σ H locs → z_X4_readSum_k0_96 σ x2 = some z → lv_has ls 5 [(2, .int x2)] → W p l e R s m args below meth c H locs 0 0 Q (F0 m 96 ls []) := by
    intro σ x2 H locs ls hS h hl
    refine lv_iload_n hx hb dX4_readSum_96 rfl (lv_at hl 0 rfl) ?_
    obtain ⟨hn, h⟩ := ez_nr_sp rfl h
    exact hret _ _ _ _ _ _ (Option.some.inj h) hn hS dX4_readSum_97
  have K_62 : ∀ (k_8 : ez_H → Nat → Int32 → Int32 → Option (Int32 × ez_H)) (hk_8 : ∀ (σ : ez_H) (h0 : Nat) (x2 : Int32) (x3 : Int32) (H : Heap) (locs : List Loc) (ls : Array Slot), ez_S X B s.heap (σ0.length) σ H locs → k_8 σ h0 x2 x3 = some z → lv_has ls 5 [(0, .ref (B + h0)), (1, .int 0), (2, .int x2), (3, .int x3)] → W p l e R s m args below meth c H locs 0 0 Q (F0 m 8 ls [])), ∀ (σ : ez_H) (h0 : Nat) (x3 : Int32) (y0 : Int32) (H : Heap) (locs : List Loc) (ls : Array Slot), ez_S X B s.heap (σ0.length) σ H locs → z_X4_readSum_k0_62 k_8 σ h0 x3 y0 = some z → lv_has ls 5 [(0, .ref (B + h0)), (1, .int 0), (3, .int x3)] → W p l e R s m args below meth c H locs 0 0 Q (F0 m 62 ls [.int y0]) := by
    intro k_8 hk_8 σ h0 x3 y0 H locs ls hS h hl
    refine lv_istore (lv' := [(4, .int y0), (0, .ref (B + h0)), (1, .int 0), (3, .int x3)]) hx hb dX4_readSum_62 hl (by decide) rfl (fun ls hl => ?_)
    refine lv_aload_n hx hb dX4_readSum_64 rfl (lv_at hl 1 rfl) ?_
    refine eg_RX4_30 hC hS h dX4_readSum_65 (fun t_65 h => ?_)
    refine ez_cVv (As := []) (rest := []) h (fun _ q => c_X9_advance q) hC k_X9_advance ql_RX4_66 rfl (by decide) hS (fun _ q => ez_rcv q) rfl hl.1 rfl (Nat.le_of_ble_eq_true rfl) ⟨Nat.zero_le _, Nat.zero_le _⟩ dX4_readSum_68 (fun _ σ H locs hS h => ?_)
    refine lv_aload_n hx hb dX4_readSum_71 rfl (lv_at hl 1 rfl) ?_
    refine lv_iload_n hx hb dX4_readSum_72 rfl (lv_at hl 2 rfl) ?_
    refine ez_cVi (As := [.int 0]) (rest := []) h (fun _ q => c_X4_readTerm_k0 q) hC k_X4_readTerm ql_RX4_232 rfl (by decide) hS (fun _ q => ez_rcv q) rfl hl.1 rfl (Nat.le_of_ble_eq_true rfl) ⟨Nat.zero_le _, Nat.zero_le _⟩ dX4_readSum_73 (fun t_73 σ H locs hS h => ?_)
    refine lv_istore_n (lv' := [(2, .int t_73), (4, .int y0), (0, .ref (B + h0)), (1, .int 0), (3, .int x3)]) hx hb dX4_readSum_76 rfl hl (by decide) rfl (fun ls hl => ?_)
    refine lv_aload_n hx hb dX4_readSum_77 rfl (lv_at hl 2 rfl) ?_
    refine eg_RX4_12 hC hS h dX4_readSum_78 (fun t_78 h => ?_)
    refine eg_RX4_214 hC hS h dX4_readSum_81 (fun t_81 h => ?_)
    refine lv_iload hx hb dX4_readSum_84 (lv_at hl 1 rfl) ?_
    refine lv_iconst (v := 0) hx hb dX4_readSum_86 (by decide) ?_
    refine ez_cVv (As := [.int y0, .int 0]) (rest := []) h (fun _ q => c_X0_append q) hC k_X0_append ql_RX4_220 rfl (by decide) hS (fun _ q => ez_rcv q) rfl hl.1 rfl (Nat.le_of_ble_eq_true rfl) ⟨Nat.zero_le _, Nat.zero_le _⟩ dX4_readSum_87 (fun _ σ H locs hS h => ?_)
    obtain ⟨t_90, e_90, h⟩ := ez_let_sp h
    refine lv_iinc (v := t_90) (lv' := [(3, .int t_90), (2, .int t_73), (4, .int y0), (0, .ref (B + h0)), (1, .int 0)]) hx hb dX4_readSum_90 hl (k := 4) rfl (by rw [e_90]; rfl) (by decide) rfl (fun ls hl => ?_)
    refine lv_goto (tgt := 8) hx hb dX4_readSum_93 (by decide) ?_
    exact hk_8 σ h0 t_73 t_90 _ _ _ hS h (lv_sub hl [3, 4, 1, 0] rfl)
  have K_43 : ∀ (k_8 : ez_H → Nat → Int32 → Int32 → Option (Int32 × ez_H)) (hk_8 : ∀ (σ : ez_H) (h0 : Nat) (x2 : Int32) (x3 : Int32) (H : Heap) (locs : List Loc) (ls : Array Slot), ez_S X B s.heap (σ0.length) σ H locs → k_8 σ h0 x2 x3 = some z → lv_has ls 5 [(0, .ref (B + h0)), (1, .int 0), (2, .int x2), (3, .int x3)] → W p l e R s m args below meth c H locs 0 0 Q (F0 m 8 ls [])), ∀ (σ : ez_H) (h0 : Nat) (x3 : Int32) (H : Heap) (locs : List Loc) (ls : Array Slot), ez_S X B s.heap (σ0.length) σ H locs → z_X4_readSum_k0_43 k_8 σ h0 x3 = some z → lv_has ls 5 [(0, .ref (B + h0)), (1, .int 0), (3, .int x3)] → W p l e R s m args below meth c H locs 0 0 Q (F0 m 43 ls []) := by
    intro k_8 hk_8 σ h0 x3 H locs ls hS h hl
    refine lv_aload_n hx hb dX4_readSum_43 rfl (lv_at hl 0 rfl) ?_
    refine eg_RX4_30 hC hS h dX4_readSum_44 (fun t_44 h => ?_)
    refine eg_RX4_49 hC hS h dX4_readSum_47 (fun t_47 h => ?_)
    refine lv_bipush (v := 43) hx hb dX4_readSum_50 (by decide) ?_
    refine lv_icmp_ne (tgt := 60) hx hb dX4_readSum_52 (by decide) (fun c_52 => ?_) (fun c_52 => ?_)
    · replace h := ez_ifn h c_52
      refine lv_bipush (v := 12) hx hb dX4_readSum_60 (by decide) ?_
      exact K_62 k_8 hk_8 σ h0 x3 (12 : Int32) _ _ _ hS h (lv_sub hl [0, 1, 2] rfl)
    · replace h := ez_ifp h c_52
      refine lv_bipush (v := 11) hx hb dX4_readSum_55 (by decide) ?_
      refine lv_goto (tgt := 62) hx hb dX4_readSum_57 (by decide) ?_
      exact K_62 k_8 hk_8 σ h0 x3 (11 : Int32) _ _ _ hS h (lv_sub hl [0, 1, 2] rfl)
  have K_8 : ∀ (k_8 : ez_H → Nat → Int32 → Int32 → Option (Int32 × ez_H)) (hk_8 : ∀ (σ : ez_H) (h0 : Nat) (x2 : Int32) (x3 : Int32) (H : Heap) (locs : List Loc) (ls : Array Slot), ez_S X B s.heap (σ0.length) σ H locs → k_8 σ h0 x2 x3 = some z → lv_has ls 5 [(0, .ref (B + h0)), (1, .int 0), (2, .int x2), (3, .int x3)] → W p l e R s m args below meth c H locs 0 0 Q (F0 m 8 ls [])), ∀ (σ : ez_H) (h0 : Nat) (x2 : Int32) (x3 : Int32) (H : Heap) (locs : List Loc) (ls : Array Slot), ez_S X B s.heap (σ0.length) σ H locs → z_X4_readSum_k0_8 k_8 σ h0 x2 x3 = some z → lv_has ls 5 [(0, .ref (B + h0)), (1, .int 0), (2, .int x2), (3, .int x3)] → W p l e R s m args below meth c H locs 0 0 Q (F0 m 8 ls []) := by
    intro k_8 hk_8 σ h0 x2 x3 H locs ls hS h hl
    refine lv_iload_n hx hb dX4_readSum_8 rfl (lv_at hl 3 rfl) ?_
    refine lv_sipush (v := 1600) hx hb dX4_readSum_9 (by decide) ?_
    refine lv_icmp_ge (tgt := 96) hx hb dX4_readSum_12 (by decide) (fun c_12 => ?_) (fun c_12 => ?_)
    · replace h := ez_ifp h c_12
      exact K_96  σ x2 _ _ _ hS h (lv_sub hl [2] rfl)
    · replace h := ez_ifn h c_12
      refine lv_iload_n hx hb dX4_readSum_15 rfl (lv_at hl 2 rfl) ?_
      refine lv_if_eq (tgt := 96) hx hb dX4_readSum_16 (by decide) (fun c_16 => ?_) (fun c_16 => ?_)
      · replace h := ez_ifp h c_16
        exact K_96  σ x2 _ _ _ hS h (lv_sub hl [2] rfl)
      · replace h := ez_ifn h c_16
        refine lv_aload_n hx hb dX4_readSum_19 rfl (lv_at hl 0 rfl) ?_
        refine eg_RX4_30 hC hS h dX4_readSum_20 (fun t_20 h => ?_)
        refine eg_RX4_49 hC hS h dX4_readSum_23 (fun t_23 h => ?_)
        refine lv_bipush (v := 43) hx hb dX4_readSum_26 (by decide) ?_
        refine lv_icmp_eq (tgt := 43) hx hb dX4_readSum_28 (by decide) (fun c_28 => ?_) (fun c_28 => ?_)
        · replace h := ez_ifp h c_28
          exact K_43 k_8 hk_8 σ h0 x3 _ _ _ hS h (lv_sub hl [0, 1, 3] rfl)
        · replace h := ez_ifn h c_28
          refine lv_aload_n hx hb dX4_readSum_31 rfl (lv_at hl 0 rfl) ?_
          refine eg_RX4_30 hC hS h dX4_readSum_32 (fun t_32 h => ?_)
          refine eg_RX4_49 hC hS h dX4_readSum_35 (fun t_35 h => ?_)
          refine lv_bipush (v := 45) hx hb dX4_readSum_38 (by decide) ?_
          refine lv_icmp_ne (tgt := 96) hx hb dX4_readSum_40 (by decide) (fun c_40 => ?_) (fun c_40 => ?_)
          · replace h := ez_ifn h c_40
            exact K_96  σ x2 _ _ _ hS h (lv_sub hl [2] rfl)
          · replace h := ez_ifp h c_40
            exact K_43 k_8 hk_8 σ h0 x3 _ _ _ hS h (lv_sub hl [0, 1, 3] rfl)
  have E_8 : ∀ (σ : ez_H) (h0 : Nat) (x2 : Int32) (x3 : Int32) (H : Heap) (locs : List Loc) (ls : Array Slot), ez_S X B s.heap (σ0.length) σ H locs → (ez_fix (fun _ _ _ _ => none) (z_X4_readSum_k0_8) ez_N) σ h0 x2 x3 = some z → lv_has ls 5 [(0, .ref (B + h0)), (1, .int 0), (2, .int x2), (3, .int x3)] → W p l e R s m args below meth c H locs 0 0 Q (F0 m 8 ls []) := ez_fix_ind (fun k_8 : ez_H → Nat → Int32 → Int32 → Option (Int32 × ez_H) => ∀ (σ : ez_H) (h0 : Nat) (x2 : Int32) (x3 : Int32) (H : Heap) (locs : List Loc) (ls : Array Slot), ez_S X B s.heap (σ0.length) σ H locs → k_8 σ h0 x2 x3 = some z → lv_has ls 5 [(0, .ref (B + h0)), (1, .int 0), (2, .int x2), (3, .int x3)] → W p l e R s m args below meth c H locs 0 0 Q (F0 m 8 ls [])) (fun _ _ _ _ _ _ _ _ h _ => by cases h) (fun k_8 hk_8 => K_8 k_8 hk_8) ez_N
  refine lv_aload_n hx hb dX4_readSum_0 rfl (lv_at hl 0 rfl) ?_
  refine lv_iload_n hx hb dX4_readSum_1 rfl (lv_at hl 1 rfl) ?_
  refine ez_cVi (As := [.int 0]) (rest := []) h (fun _ q => c_X4_readTerm_k0 q) hC k_X4_readTerm ql_RX4_232 rfl (by decide) hS (fun _ q => ez_rcv q) rfl hl.1 rfl (Nat.le_of_ble_eq_true rfl) ⟨Nat.zero_le _, Nat.zero_le _⟩ dX4_readSum_2 (fun t_2 σ H locs hS h => ?_)
  refine lv_istore_n (lv' := [(2, .int t_2), (0, .ref (B + h0)), (1, .int 0)]) hx hb dX4_readSum_5 rfl hl (by decide) rfl (fun ls hl => ?_)
  refine lv_iconst (v := 0) hx hb dX4_readSum_6 (by decide) ?_
  refine lv_istore_n (lv' := [(3, .int 0), (2, .int t_2), (0, .ref (B + h0)), (1, .int 0)]) hx hb dX4_readSum_7 rfl hl (by decide) rfl (fun ls hl => ?_)
  exact E_8  σ h0 t_2 (0 : Int32) _ _ _ hS h (lv_sub hl [2, 3, 1, 0] rfl)
set_option maxHeartbeats 4000000 in
set_option maxRecDepth 100000 in
theorem c_X4_readOne_k0 {l : Launch} {X : ez_X} {B : Nat} {σ : ez_H} {h0 : Nat} {z : Int32 × ez_H} (h : z_X4_readOne_k0 σ h0 = some z) : ez_M l X B σ yX4_readOne cX4_readOne 4 (some .boolean) 50 [.ref (B + h0), .int 0] (some (.int z.1)) z.2 := by
  refine ez_starti (z := z) (by decide) (Nat.le_of_ble_eq_true rfl) (fun p e R s m args below meth c Q hC hret hS ls hl => ?_)
  have hC : ez_C p R s m args c X B RX4 cX4_readOne 4 50 := hC
  have hx := hC.1.1
  have hb := hC.1.2.1
  have hown := hC.1.2.2.2.1
  have hts := hC.1.2.2.2.2
  have hl : lv_has ls 4 [(0, .ref (B + h0)), (1, .int 0)] := hl
  obtain ⟨σ0, eσ⟩ : ∃ σ0 : ez_H, σ0 = σ := ⟨_, rfl⟩
  rw [← eσ] at hret
  have hS : ez_S X B s.heap σ0.length σ s.heap [] := eσ ▸ hS
  obtain ⟨-, h⟩ := ez_in h
  have K_97 : ∀ (σ : ez_H) (x2 : Int32) (H : Heap) (locs : List Loc) (ls : Array Slot), ez_S X B s.heap (σ0.length) σ H locs → z_X4_readOne_k0_97 σ x2 = some z → lv_has ls 4 [(2, .int x2)] → W p l e R s m args below meth c H locs 0 0 Q (F0 m 97 ls []) := by
    intro σ x2 H locs ls hS h hl
    refine lv_iload_n hx hb dX4_readOne_97 rfl (lv_at hl 0 rfl) ?_
    obtain ⟨hn, h⟩ := ez_nr_sp rfl h
    exact hret _ _ _ _ _ _ (Option.some.inj h) hn hS dX4_readOne_98
  refine lv_aload_n hx hb dX4_readOne_0 rfl (lv_at hl 0 rfl) ?_
  refine eg_RX4_30 hC hS h dX4_readOne_1 (fun t_1 h => ?_)
  refine eg_RX4_49 hC hS h dX4_readOne_4 (fun t_4 h => ?_)
  refine lv_bipush (v := 18) hx hb dX4_readOne_7 (by decide) ?_
  refine lv_icmp_ne (tgt := 52) hx hb dX4_readOne_9 (by decide) (fun c_9 => ?_) (fun c_9 => ?_)
  · replace h := ez_ifn h c_9
    refine lv_aload_n hx hb dX4_readOne_52 rfl (lv_at hl 0 rfl) ?_
    refine lv_iload_n hx hb dX4_readOne_53 rfl (lv_at hl 1 rfl) ?_
    refine ez_cVi (As := [.int 0]) (rest := []) h (fun _ q => c_X4_readSum_k0 q) hC k_X4_readSum ql_RX4_226 rfl (by decide) hS (fun _ q => ez_rcv q) rfl hl.1 rfl (Nat.le_of_ble_eq_true rfl) ⟨Nat.zero_le _, Nat.zero_le _⟩ dX4_readOne_54 (fun t_54 σ H locs hS h => ?_)
    refine lv_istore_n (lv' := [(2, .int t_54), (0, .ref (B + h0)), (1, .int 0)]) hx hb dX4_readOne_57 rfl hl (by decide) rfl (fun ls hl => ?_)
    refine lv_aload_n hx hb dX4_readOne_58 rfl (lv_at hl 1 rfl) ?_
    refine ez_cVpi (As := []) (rest := []) h (fun _ q => c_X4_relationHere q) hC k_X4_relationHere ql_RX4_229 rfl (by decide) hS (fun _ q => ez_rcv q) rfl hl.1 rfl (Nat.le_of_ble_eq_true rfl) ⟨Nat.zero_le _, Nat.zero_le _⟩ dX4_readOne_59 (fun t_59 H locs hS h => ?_)
    refine lv_istore_n (lv' := [(3, .int t_59), (2, .int t_54), (0, .ref (B + h0)), (1, .int 0)]) hx hb dX4_readOne_62 rfl hl (by decide) rfl (fun ls hl => ?_)
    refine lv_iload_n hx hb dX4_readOne_63 rfl (lv_at hl 1 rfl) ?_
    refine lv_if_eq (tgt := 97) hx hb dX4_readOne_64 (by decide) (fun c_64 => ?_) (fun c_64 => ?_)
    · replace h := ez_ifp h c_64
      exact K_97  σ t_54 _ _ _ hS h (lv_sub hl [1] rfl)
    · replace h := ez_ifn h c_64
      refine lv_iload_n hx hb dX4_readOne_67 rfl (lv_at hl 0 rfl) ?_
      refine lv_iconst (v := -1) hx hb dX4_readOne_68 (by decide) ?_
      refine lv_icmp_eq (tgt := 97) hx hb dX4_readOne_69 (by decide) (fun c_69 => ?_) (fun c_69 => ?_)
      · replace h := ez_ifp h c_69
        exact K_97  σ t_54 _ _ _ hS h (lv_sub hl [1] rfl)
      · replace h := ez_ifn h c_69
        refine lv_aload_n hx hb dX4_readOne_72 rfl (lv_at hl 2 rfl) ?_
        refine eg_RX4_30 hC hS h dX4_readOne_73 (fun t_73 h => ?_)
        refine ez_cVv (As := []) (rest := []) h (fun _ q => c_X9_advance q) hC k_X9_advance ql_RX4_66 rfl (by decide) hS (fun _ q => ez_rcv q) rfl hl.1 rfl (Nat.le_of_ble_eq_true rfl) ⟨Nat.zero_le _, Nat.zero_le _⟩ dX4_readOne_76 (fun _ σ H locs hS h => ?_)
        refine lv_aload_n hx hb dX4_readOne_79 rfl (lv_at hl 2 rfl) ?_
        refine lv_iload_n hx hb dX4_readOne_80 rfl (lv_at hl 3 rfl) ?_
        refine ez_cVi (As := [.int 0]) (rest := []) h (fun _ q => c_X4_readSum_k0 q) hC k_X4_readSum ql_RX4_226 rfl (by decide) hS (fun _ q => ez_rcv q) rfl hl.1 rfl (Nat.le_of_ble_eq_true rfl) ⟨Nat.zero_le _, Nat.zero_le _⟩ dX4_readOne_81 (fun t_81 σ H locs hS h => ?_)
        refine lv_istore_n (lv' := [(2, .int t_81), (3, .int t_59), (0, .ref (B + h0)), (1, .int 0)]) hx hb dX4_readOne_84 rfl hl (by decide) rfl (fun ls hl => ?_)
        refine lv_aload_n hx hb dX4_readOne_85 rfl (lv_at hl 2 rfl) ?_
        refine eg_RX4_12 hC hS h dX4_readOne_86 (fun t_86 h => ?_)
        refine eg_RX4_214 hC hS h dX4_readOne_89 (fun t_89 h => ?_)
        refine lv_iload_n hx hb dX4_readOne_92 rfl (lv_at hl 1 rfl) ?_
        refine lv_iconst (v := 0) hx hb dX4_readOne_93 (by decide) ?_
        refine ez_cVv (As := [.int t_59, .int 0]) (rest := []) h (fun _ q => c_X0_append q) hC k_X0_append ql_RX4_220 rfl (by decide) hS (fun _ q => ez_rcv q) rfl hl.1 rfl (Nat.le_of_ble_eq_true rfl) ⟨Nat.zero_le _, Nat.zero_le _⟩ dX4_readOne_94 (fun _ σ H locs hS h => ?_)
        exact K_97  σ t_81 _ _ _ hS h (lv_sub hl [0] rfl)
  · replace h := ez_ifp h c_9
    refine lv_iload_n hx hb dX4_readOne_12 rfl (lv_at hl 1 rfl) ?_
    refine lv_bipush (v := 6) hx hb dX4_readOne_13 (by decide) ?_
    refine lv_icmp_le (tgt := 23) hx hb dX4_readOne_15 (by decide) (fun c_15 => ?_) (fun c_15 => ?_)
    · skip
      refine lv_aload_n hx hb dX4_readOne_23 rfl (lv_at hl 0 rfl) ?_
      refine eg_RX4_30 hC hS h dX4_readOne_24 (fun t_24 h => ?_)
      refine ez_cVv (As := []) (rest := []) h (fun _ q => c_X9_advance q) hC k_X9_advance ql_RX4_66 rfl (by decide) hS (fun _ q => ez_rcv q) rfl hl.1 rfl (Nat.le_of_ble_eq_true rfl) ⟨Nat.zero_le _, Nat.zero_le _⟩ dX4_readOne_27 (fun _ σ H locs hS h => ?_)
      refine lv_aload_n hx hb dX4_readOne_30 rfl (lv_at hl 0 rfl) ?_
      refine lv_iload_n hx hb dX4_readOne_31 rfl (lv_at hl 1 rfl) ?_
      refine lv_iconst (v := 1) hx hb dX4_readOne_32 (by decide) ?_
      refine lv_iadd hx hb dX4_readOne_33 ?_
      rw [show (0 : Int32) + (1 : Int32) = 1 from by decide]
      refine ez_cVi (As := [.int 1]) (rest := []) h (fun _ q => c_X4_readOne_k1 q) hC k_X4_readOne ql_RX4_223 rfl (by decide) hS (fun _ q => ez_rcv q) rfl hl.1 rfl (Nat.le_of_ble_eq_true rfl) ⟨Nat.zero_le _, Nat.zero_le _⟩ dX4_readOne_34 (fun t_34 σ H locs hS h => ?_)
      refine lv_istore_n (lv' := [(2, .int t_34), (0, .ref (B + h0)), (1, .int 0)]) hx hb dX4_readOne_37 rfl hl (by decide) rfl (fun ls hl => ?_)
      refine lv_aload_n hx hb dX4_readOne_38 rfl (lv_at hl 1 rfl) ?_
      refine eg_RX4_12 hC hS h dX4_readOne_39 (fun t_39 h => ?_)
      refine eg_RX4_214 hC hS h dX4_readOne_42 (fun t_42 h => ?_)
      refine lv_iconst (v := 5) hx hb dX4_readOne_45 (by decide) ?_
      refine lv_iconst (v := 0) hx hb dX4_readOne_46 (by decide) ?_
      refine ez_cVv (As := [.int 5, .int 0]) (rest := []) h (fun _ q => c_X0_append q) hC k_X0_append ql_RX4_220 rfl (by decide) hS (fun _ q => ez_rcv q) rfl hl.1 rfl (Nat.le_of_ble_eq_true rfl) ⟨Nat.zero_le _, Nat.zero_le _⟩ dX4_readOne_47 (fun _ σ H locs hS h => ?_)
      refine lv_iload_n hx hb dX4_readOne_50 rfl (lv_at hl 0 rfl) ?_
      obtain ⟨hn, h⟩ := ez_nr_sp rfl h
      exact hret _ _ _ _ _ _ (Option.some.inj h) hn hS dX4_readOne_51
    · exact absurd c_15 (by decide)
set_option maxHeartbeats 4000000 in
set_option maxRecDepth 100000 in
theorem c_X4_readBoth_k0 {l : Launch} {X : ez_X} {B : Nat} {σ : ez_H} {h0 : Nat} {z : Int32 × ez_H} (h : z_X4_readBoth_k0 σ h0 = some z) : ez_M l X B σ yX4_readBoth cX4_readBoth 4 (some .boolean) 51 [.ref (B + h0), .int 0] (some (.int z.1)) z.2 := by
  refine ez_starti (z := z) (by decide) (Nat.le_of_ble_eq_true rfl) (fun p e R s m args below meth c Q hC hret hS ls hl => ?_)
  have hC : ez_C p R s m args c X B RX4 cX4_readBoth 4 51 := hC
  have hx := hC.1.1
  have hb := hC.1.2.1
  have hown := hC.1.2.2.2.1
  have hts := hC.1.2.2.2.2
  have hl : lv_has ls 4 [(0, .ref (B + h0)), (1, .int 0)] := hl
  obtain ⟨σ0, eσ⟩ : ∃ σ0 : ez_H, σ0 = σ := ⟨_, rfl⟩
  rw [← eσ] at hret
  have hS : ez_S X B s.heap σ0.length σ s.heap [] := eσ ▸ hS
  obtain ⟨-, h⟩ := ez_in h
  have K_63 : ∀ (σ : ez_H) (x2 : Int32) (H : Heap) (locs : List Loc) (ls : Array Slot), ez_S X B s.heap (σ0.length) σ H locs → z_X4_readBoth_k0_63 σ x2 = some z → lv_has ls 4 [(2, .int x2)] → W p l e R s m args below meth c H locs 0 0 Q (F0 m 63 ls []) := by
    intro σ x2 H locs ls hS h hl
    refine lv_iload_n hx hb dX4_readBoth_63 rfl (lv_at hl 0 rfl) ?_
    obtain ⟨hn, h⟩ := ez_nr_sp rfl h
    exact hret _ _ _ _ _ _ (Option.some.inj h) hn hS dX4_readBoth_64
  have K_8 : ∀ (k_8 : ez_H → Nat → Int32 → Int32 → Option (Int32 × ez_H)) (hk_8 : ∀ (σ : ez_H) (h0 : Nat) (x2 : Int32) (x3 : Int32) (H : Heap) (locs : List Loc) (ls : Array Slot), ez_S X B s.heap (σ0.length) σ H locs → k_8 σ h0 x2 x3 = some z → lv_has ls 4 [(0, .ref (B + h0)), (1, .int 0), (2, .int x2), (3, .int x3)] → W p l e R s m args below meth c H locs 0 0 Q (F0 m 8 ls [])), ∀ (σ : ez_H) (h0 : Nat) (x2 : Int32) (x3 : Int32) (H : Heap) (locs : List Loc) (ls : Array Slot), ez_S X B s.heap (σ0.length) σ H locs → z_X4_readBoth_k0_8 k_8 σ h0 x2 x3 = some z → lv_has ls 4 [(0, .ref (B + h0)), (1, .int 0), (2, .int x2), (3, .int x3)] → W p l e R s m args below meth c H locs 0 0 Q (F0 m 8 ls []) := by
    intro k_8 hk_8 σ h0 x2 x3 H locs ls hS h hl
    refine lv_iload_n hx hb dX4_readBoth_8 rfl (lv_at hl 3 rfl) ?_
    refine lv_sipush (v := 1600) hx hb dX4_readBoth_9 (by decide) ?_
    refine lv_icmp_ge (tgt := 63) hx hb dX4_readBoth_12 (by decide) (fun c_12 => ?_) (fun c_12 => ?_)
    · replace h := ez_ifp h c_12
      exact K_63  σ x2 _ _ _ hS h (lv_sub hl [2] rfl)
    · replace h := ez_ifn h c_12
      refine lv_iload_n hx hb dX4_readBoth_15 rfl (lv_at hl 2 rfl) ?_
      refine lv_if_eq (tgt := 63) hx hb dX4_readBoth_16 (by decide) (fun c_16 => ?_) (fun c_16 => ?_)
      · replace h := ez_ifp h c_16
        exact K_63  σ x2 _ _ _ hS h (lv_sub hl [2] rfl)
      · replace h := ez_ifn h c_16
        refine lv_aload_n hx hb dX4_readBoth_19 rfl (lv_at hl 0 rfl) ?_
        refine eg_RX4_30 hC hS h dX4_readBoth_20 (fun t_20 h => ?_)
        refine eg_RX4_49 hC hS h dX4_readBoth_23 (fun t_23 h => ?_)
        refine lv_bipush (v := 17) hx hb dX4_readBoth_26 (by decide) ?_
        refine lv_icmp_ne (tgt := 63) hx hb dX4_readBoth_28 (by decide) (fun c_28 => ?_) (fun c_28 => ?_)
        · replace h := ez_ifn h c_28
          exact K_63  σ x2 _ _ _ hS h (lv_sub hl [2] rfl)
        · replace h := ez_ifp h c_28
          refine lv_aload_n hx hb dX4_readBoth_31 rfl (lv_at hl 0 rfl) ?_
          refine eg_RX4_30 hC hS h dX4_readBoth_32 (fun t_32 h => ?_)
          refine ez_cVv (As := []) (rest := []) h (fun _ q => c_X9_advance q) hC k_X9_advance ql_RX4_66 rfl (by decide) hS (fun _ q => ez_rcv q) rfl hl.1 rfl (Nat.le_of_ble_eq_true rfl) ⟨Nat.zero_le _, Nat.zero_le _⟩ dX4_readBoth_35 (fun _ σ H locs hS h => ?_)
          refine lv_aload_n hx hb dX4_readBoth_38 rfl (lv_at hl 0 rfl) ?_
          refine lv_iload_n hx hb dX4_readBoth_39 rfl (lv_at hl 1 rfl) ?_
          refine ez_cVi (As := [.int 0]) (rest := []) h (fun _ q => c_X4_readOne_k0 q) hC k_X4_readOne ql_RX4_223 rfl (by decide) hS (fun _ q => ez_rcv q) rfl hl.1 rfl (Nat.le_of_ble_eq_true rfl) ⟨Nat.zero_le _, Nat.zero_le _⟩ dX4_readBoth_40 (fun t_40 σ H locs hS h => ?_)
          refine lv_istore_n (lv' := [(2, .int t_40), (0, .ref (B + h0)), (1, .int 0), (3, .int x3)]) hx hb dX4_readBoth_43 rfl hl (by decide) rfl (fun ls hl => ?_)
          refine lv_aload_n hx hb dX4_readBoth_44 rfl (lv_at hl 1 rfl) ?_
          refine eg_RX4_12 hC hS h dX4_readBoth_45 (fun t_45 h => ?_)
          refine eg_RX4_214 hC hS h dX4_readBoth_48 (fun t_48 h => ?_)
          refine lv_bipush (v := 7) hx hb dX4_readBoth_51 (by decide) ?_
          refine lv_iconst (v := 0) hx hb dX4_readBoth_53 (by decide) ?_
          refine ez_cVv (As := [.int 7, .int 0]) (rest := []) h (fun _ q => c_X0_append q) hC k_X0_append ql_RX4_220 rfl (by decide) hS (fun _ q => ez_rcv q) rfl hl.1 rfl (Nat.le_of_ble_eq_true rfl) ⟨Nat.zero_le _, Nat.zero_le _⟩ dX4_readBoth_54 (fun _ σ H locs hS h => ?_)
          obtain ⟨t_57, e_57, h⟩ := ez_let_sp h
          refine lv_iinc (v := t_57) (lv' := [(3, .int t_57), (2, .int t_40), (0, .ref (B + h0)), (1, .int 0)]) hx hb dX4_readBoth_57 hl (k := 3) rfl (by rw [e_57]; rfl) (by decide) rfl (fun ls hl => ?_)
          refine lv_goto (tgt := 8) hx hb dX4_readBoth_60 (by decide) ?_
          exact hk_8 σ h0 t_40 t_57 _ _ _ hS h (lv_sub hl [2, 3, 1, 0] rfl)
  have E_8 : ∀ (σ : ez_H) (h0 : Nat) (x2 : Int32) (x3 : Int32) (H : Heap) (locs : List Loc) (ls : Array Slot), ez_S X B s.heap (σ0.length) σ H locs → (ez_fix (fun _ _ _ _ => none) (z_X4_readBoth_k0_8) ez_N) σ h0 x2 x3 = some z → lv_has ls 4 [(0, .ref (B + h0)), (1, .int 0), (2, .int x2), (3, .int x3)] → W p l e R s m args below meth c H locs 0 0 Q (F0 m 8 ls []) := ez_fix_ind (fun k_8 : ez_H → Nat → Int32 → Int32 → Option (Int32 × ez_H) => ∀ (σ : ez_H) (h0 : Nat) (x2 : Int32) (x3 : Int32) (H : Heap) (locs : List Loc) (ls : Array Slot), ez_S X B s.heap (σ0.length) σ H locs → k_8 σ h0 x2 x3 = some z → lv_has ls 4 [(0, .ref (B + h0)), (1, .int 0), (2, .int x2), (3, .int x3)] → W p l e R s m args below meth c H locs 0 0 Q (F0 m 8 ls [])) (fun _ _ _ _ _ _ _ _ h _ => by cases h) (fun k_8 hk_8 => K_8 k_8 hk_8) ez_N
  refine lv_aload_n hx hb dX4_readBoth_0 rfl (lv_at hl 0 rfl) ?_
  refine lv_iload_n hx hb dX4_readBoth_1 rfl (lv_at hl 1 rfl) ?_
  refine ez_cVi (As := [.int 0]) (rest := []) h (fun _ q => c_X4_readOne_k0 q) hC k_X4_readOne ql_RX4_223 rfl (by decide) hS (fun _ q => ez_rcv q) rfl hl.1 rfl (Nat.le_of_ble_eq_true rfl) ⟨Nat.zero_le _, Nat.zero_le _⟩ dX4_readBoth_2 (fun t_2 σ H locs hS h => ?_)
  refine lv_istore_n (lv' := [(2, .int t_2), (0, .ref (B + h0)), (1, .int 0)]) hx hb dX4_readBoth_5 rfl hl (by decide) rfl (fun ls hl => ?_)
  refine lv_iconst (v := 0) hx hb dX4_readBoth_6 (by decide) ?_
  refine lv_istore_n (lv' := [(3, .int 0), (2, .int t_2), (0, .ref (B + h0)), (1, .int 0)]) hx hb dX4_readBoth_7 rfl hl (by decide) rfl (fun ls hl => ?_)
  exact E_8  σ h0 t_2 (0 : Int32) _ _ _ hS h (lv_sub hl [2, 3, 1, 0] rfl)
set_option maxHeartbeats 4000000 in
set_option maxRecDepth 100000 in
theorem c_X4_readEither_k0 {l : Launch} {X : ez_X} {B : Nat} {σ : ez_H} {h0 : Nat} {z : Int32 × ez_H} (h : z_X4_readEither_k0 σ h0 = some z) : ez_M l X B σ yX4_readEither cX4_readEither 4 (some .boolean) 52 [.ref (B + h0), .int 0] (some (.int z.1)) z.2 := by
  refine ez_starti (z := z) (by decide) (Nat.le_of_ble_eq_true rfl) (fun p e R s m args below meth c Q hC hret hS ls hl => ?_)
  have hC : ez_C p R s m args c X B RX4 cX4_readEither 4 52 := hC
  have hx := hC.1.1
  have hb := hC.1.2.1
  have hown := hC.1.2.2.2.1
  have hts := hC.1.2.2.2.2
  have hl : lv_has ls 4 [(0, .ref (B + h0)), (1, .int 0)] := hl
  obtain ⟨σ0, eσ⟩ : ∃ σ0 : ez_H, σ0 = σ := ⟨_, rfl⟩
  rw [← eσ] at hret
  have hS : ez_S X B s.heap σ0.length σ s.heap [] := eσ ▸ hS
  obtain ⟨-, h⟩ := ez_in h
  have K_63 : ∀ (σ : ez_H) (x2 : Int32) (H : Heap) (locs : List Loc) (ls : Array Slot), ez_S X B s.heap (σ0.length) σ H locs → z_X4_readEither_k0_63 σ x2 = some z → lv_has ls 4 [(2, .int x2)] → W p l e R s m args below meth c H locs 0 0 Q (F0 m 63 ls []) := by
    intro σ x2 H locs ls hS h hl
    refine lv_iload_n hx hb dX4_readEither_63 rfl (lv_at hl 0 rfl) ?_
    obtain ⟨hn, h⟩ := ez_nr_sp rfl h
    exact hret _ _ _ _ _ _ (Option.some.inj h) hn hS dX4_readEither_64
  have K_8 : ∀ (k_8 : ez_H → Nat → Int32 → Int32 → Option (Int32 × ez_H)) (hk_8 : ∀ (σ : ez_H) (h0 : Nat) (x2 : Int32) (x3 : Int32) (H : Heap) (locs : List Loc) (ls : Array Slot), ez_S X B s.heap (σ0.length) σ H locs → k_8 σ h0 x2 x3 = some z → lv_has ls 4 [(0, .ref (B + h0)), (1, .int 0), (2, .int x2), (3, .int x3)] → W p l e R s m args below meth c H locs 0 0 Q (F0 m 8 ls [])), ∀ (σ : ez_H) (h0 : Nat) (x2 : Int32) (x3 : Int32) (H : Heap) (locs : List Loc) (ls : Array Slot), ez_S X B s.heap (σ0.length) σ H locs → z_X4_readEither_k0_8 k_8 σ h0 x2 x3 = some z → lv_has ls 4 [(0, .ref (B + h0)), (1, .int 0), (2, .int x2), (3, .int x3)] → W p l e R s m args below meth c H locs 0 0 Q (F0 m 8 ls []) := by
    intro k_8 hk_8 σ h0 x2 x3 H locs ls hS h hl
    refine lv_iload_n hx hb dX4_readEither_8 rfl (lv_at hl 3 rfl) ?_
    refine lv_sipush (v := 1600) hx hb dX4_readEither_9 (by decide) ?_
    refine lv_icmp_ge (tgt := 63) hx hb dX4_readEither_12 (by decide) (fun c_12 => ?_) (fun c_12 => ?_)
    · replace h := ez_ifp h c_12
      exact K_63  σ x2 _ _ _ hS h (lv_sub hl [2] rfl)
    · replace h := ez_ifn h c_12
      refine lv_iload_n hx hb dX4_readEither_15 rfl (lv_at hl 2 rfl) ?_
      refine lv_if_eq (tgt := 63) hx hb dX4_readEither_16 (by decide) (fun c_16 => ?_) (fun c_16 => ?_)
      · replace h := ez_ifp h c_16
        exact K_63  σ x2 _ _ _ hS h (lv_sub hl [2] rfl)
      · replace h := ez_ifn h c_16
        refine lv_aload_n hx hb dX4_readEither_19 rfl (lv_at hl 0 rfl) ?_
        refine eg_RX4_30 hC hS h dX4_readEither_20 (fun t_20 h => ?_)
        refine eg_RX4_49 hC hS h dX4_readEither_23 (fun t_23 h => ?_)
        refine lv_bipush (v := 16) hx hb dX4_readEither_26 (by decide) ?_
        refine lv_icmp_ne (tgt := 63) hx hb dX4_readEither_28 (by decide) (fun c_28 => ?_) (fun c_28 => ?_)
        · replace h := ez_ifn h c_28
          exact K_63  σ x2 _ _ _ hS h (lv_sub hl [2] rfl)
        · replace h := ez_ifp h c_28
          refine lv_aload_n hx hb dX4_readEither_31 rfl (lv_at hl 0 rfl) ?_
          refine eg_RX4_30 hC hS h dX4_readEither_32 (fun t_32 h => ?_)
          refine ez_cVv (As := []) (rest := []) h (fun _ q => c_X9_advance q) hC k_X9_advance ql_RX4_66 rfl (by decide) hS (fun _ q => ez_rcv q) rfl hl.1 rfl (Nat.le_of_ble_eq_true rfl) ⟨Nat.zero_le _, Nat.zero_le _⟩ dX4_readEither_35 (fun _ σ H locs hS h => ?_)
          refine lv_aload_n hx hb dX4_readEither_38 rfl (lv_at hl 0 rfl) ?_
          refine lv_iload_n hx hb dX4_readEither_39 rfl (lv_at hl 1 rfl) ?_
          refine ez_cVi (As := [.int 0]) (rest := []) h (fun _ q => c_X4_readBoth_k0 q) hC k_X4_readBoth ql_RX4_211 rfl (by decide) hS (fun _ q => ez_rcv q) rfl hl.1 rfl (Nat.le_of_ble_eq_true rfl) ⟨Nat.zero_le _, Nat.zero_le _⟩ dX4_readEither_40 (fun t_40 σ H locs hS h => ?_)
          refine lv_istore_n (lv' := [(2, .int t_40), (0, .ref (B + h0)), (1, .int 0), (3, .int x3)]) hx hb dX4_readEither_43 rfl hl (by decide) rfl (fun ls hl => ?_)
          refine lv_aload_n hx hb dX4_readEither_44 rfl (lv_at hl 1 rfl) ?_
          refine eg_RX4_12 hC hS h dX4_readEither_45 (fun t_45 h => ?_)
          refine eg_RX4_214 hC hS h dX4_readEither_48 (fun t_48 h => ?_)
          refine lv_bipush (v := 6) hx hb dX4_readEither_51 (by decide) ?_
          refine lv_iconst (v := 0) hx hb dX4_readEither_53 (by decide) ?_
          refine ez_cVv (As := [.int 6, .int 0]) (rest := []) h (fun _ q => c_X0_append q) hC k_X0_append ql_RX4_220 rfl (by decide) hS (fun _ q => ez_rcv q) rfl hl.1 rfl (Nat.le_of_ble_eq_true rfl) ⟨Nat.zero_le _, Nat.zero_le _⟩ dX4_readEither_54 (fun _ σ H locs hS h => ?_)
          obtain ⟨t_57, e_57, h⟩ := ez_let_sp h
          refine lv_iinc (v := t_57) (lv' := [(3, .int t_57), (2, .int t_40), (0, .ref (B + h0)), (1, .int 0)]) hx hb dX4_readEither_57 hl (k := 3) rfl (by rw [e_57]; rfl) (by decide) rfl (fun ls hl => ?_)
          refine lv_goto (tgt := 8) hx hb dX4_readEither_60 (by decide) ?_
          exact hk_8 σ h0 t_40 t_57 _ _ _ hS h (lv_sub hl [2, 3, 1, 0] rfl)
  have E_8 : ∀ (σ : ez_H) (h0 : Nat) (x2 : Int32) (x3 : Int32) (H : Heap) (locs : List Loc) (ls : Array Slot), ez_S X B s.heap (σ0.length) σ H locs → (ez_fix (fun _ _ _ _ => none) (z_X4_readEither_k0_8) ez_N) σ h0 x2 x3 = some z → lv_has ls 4 [(0, .ref (B + h0)), (1, .int 0), (2, .int x2), (3, .int x3)] → W p l e R s m args below meth c H locs 0 0 Q (F0 m 8 ls []) := ez_fix_ind (fun k_8 : ez_H → Nat → Int32 → Int32 → Option (Int32 × ez_H) => ∀ (σ : ez_H) (h0 : Nat) (x2 : Int32) (x3 : Int32) (H : Heap) (locs : List Loc) (ls : Array Slot), ez_S X B s.heap (σ0.length) σ H locs → k_8 σ h0 x2 x3 = some z → lv_has ls 4 [(0, .ref (B + h0)), (1, .int 0), (2, .int x2), (3, .int x3)] → W p l e R s m args below meth c H locs 0 0 Q (F0 m 8 ls [])) (fun _ _ _ _ _ _ _ _ h _ => by cases h) (fun k_8 hk_8 => K_8 k_8 hk_8) ez_N
  refine lv_aload_n hx hb dX4_readEither_0 rfl (lv_at hl 0 rfl) ?_
  refine lv_iload_n hx hb dX4_readEither_1 rfl (lv_at hl 1 rfl) ?_
  refine ez_cVi (As := [.int 0]) (rest := []) h (fun _ q => c_X4_readBoth_k0 q) hC k_X4_readBoth ql_RX4_211 rfl (by decide) hS (fun _ q => ez_rcv q) rfl hl.1 rfl (Nat.le_of_ble_eq_true rfl) ⟨Nat.zero_le _, Nat.zero_le _⟩ dX4_readEither_2 (fun t_2 σ H locs hS h => ?_)
  refine lv_istore_n (lv' := [(2, .int t_2), (0, .ref (B + h0)), (1, .int 0)]) hx hb dX4_readEither_5 rfl hl (by decide) rfl (fun ls hl => ?_)
  refine lv_iconst (v := 0) hx hb dX4_readEither_6 (by decide) ?_
  refine lv_istore_n (lv' := [(3, .int 0), (2, .int t_2), (0, .ref (B + h0)), (1, .int 0)]) hx hb dX4_readEither_7 rfl hl (by decide) rfl (fun ls hl => ?_)
  exact E_8  σ h0 t_2 (0 : Int32) _ _ _ hS h (lv_sub hl [2, 3, 1, 0] rfl)
set_option maxHeartbeats 4000000 in
set_option maxRecDepth 100000 in
theorem c_X4_named {l : Launch} {X : ez_X} {B : Nat} {σ : ez_H} {h0 : Nat} {x1 : Int32} {x2 : Int32} {z : Int32} (h : z_X4_named σ h0 x1 x2 = some z) : ez_M l X B σ yX4_named cX4_named 4 (some .int) 0 [.ref (B + h0), .int x1, .int x2] (some (.int z)) σ := by
  refine ez_startip (z := z) (by decide) (Nat.le_of_ble_eq_true rfl) (fun p e R s m args below meth c Q hC hret hS ls hl => ?_)
  have hC : ez_C p R s m args c X B RX4 cX4_named 4 0 := hC
  have hx := hC.1.1
  have hb := hC.1.2.1
  have hown := hC.1.2.2.2.1
  have hts := hC.1.2.2.2.2
  have hl : lv_has ls 4 [(0, .ref (B + h0)), (1, .int x1), (2, .int x2)] := hl
  obtain ⟨n0, e0⟩ : ∃ n0 : Nat, n0 = σ.length := ⟨_, rfl⟩
  rw [← e0] at hret hS
  obtain ⟨-, h⟩ := ez_in h
  have K_9 : ∀ (H : Heap) (locs : List Loc) (ls : Array Slot), ez_S X B s.heap (n0) σ H locs → z_X4_named_9 σ = some z → lv_has ls 4 [] → W p l e R s m args below meth c H locs 0 0 Q (F0 m 9 ls []) := by
    intro  H locs ls hS h hl
    refine lv_iconst (v := -1) hx hb dX4_named_9 (by decide) ?_
    exact hret _ _ _ _ _ (Option.some.inj h) rfl hS dX4_named_10
  have K_51 : ∀ (H : Heap) (locs : List Loc) (ls : Array Slot), ez_S X B s.heap (n0) σ H locs → z_X4_named_51 σ = some z → lv_has ls 4 [] → W p l e R s m args below meth c H locs 0 0 Q (F0 m 51 ls []) := by
    intro  H locs ls hS h hl
    refine lv_iconst (v := -1) hx hb dX4_named_51 (by decide) ?_
    exact hret _ _ _ _ _ (Option.some.inj h) rfl hS dX4_named_52
  have K_13 : ∀ (k_13 : Nat → Int32 → Int32 → Int32 → Option (Int32)) (hk_13 : ∀ (h0 : Nat) (x1 : Int32) (x2 : Int32) (x3 : Int32) (H : Heap) (locs : List Loc) (ls : Array Slot), ez_S X B s.heap (n0) σ H locs → k_13 h0 x1 x2 x3 = some z → lv_has ls 4 [(0, .ref (B + h0)), (1, .int x1), (2, .int x2), (3, .int x3)] → W p l e R s m args below meth c H locs 0 0 Q (F0 m 13 ls [])), ∀ (h0 : Nat) (x1 : Int32) (x2 : Int32) (x3 : Int32) (H : Heap) (locs : List Loc) (ls : Array Slot), ez_S X B s.heap (n0) σ H locs → z_X4_named_13 σ k_13 h0 x1 x2 x3 = some z → lv_has ls 4 [(0, .ref (B + h0)), (1, .int x1), (2, .int x2), (3, .int x3)] → W p l e R s m args below meth c H locs 0 0 Q (F0 m 13 ls []) := by
    intro k_13 hk_13 h0 x1 x2 x3 H locs ls hS h hl
    refine lv_iload_n hx hb dX4_named_13 rfl (lv_at hl 3 rfl) ?_
    refine lv_iload_n hx hb dX4_named_14 rfl (lv_at hl 2 rfl) ?_
    refine lv_icmp_ge (tgt := 51) hx hb dX4_named_15 (by decide) (fun c_15 => ?_) (fun c_15 => ?_)
    · replace h := ez_ifp h c_15
      exact K_51   _ _ _ hS h (lv_sub hl [] rfl)
    · replace h := ez_ifn h c_15
      refine lv_iload_n hx hb dX4_named_18 rfl (lv_at hl 3 rfl) ?_
      refine lv_bipush (v := 8) hx hb dX4_named_19 (by decide) ?_
      refine lv_icmp_ge (tgt := 51) hx hb dX4_named_21 (by decide) (fun c_21 => ?_) (fun c_21 => ?_)
      · replace h := ez_ifp h c_21
        exact K_51   _ _ _ hS h (lv_sub hl [] rfl)
      · replace h := ez_ifn h c_21
        refine lv_aload_n hx hb dX4_named_24 rfl (lv_at hl 0 rfl) ?_
        refine eg_RX4_36 hC hS h dX4_named_25 (fun t_25 h => ?_)
        refine lv_iload_n hx hb dX4_named_28 rfl (lv_at hl 1 rfl) ?_
        refine ez_aal hC hS h dX4_named_29 (fun t_29 h => ?_)
        refine lv_iload_n hx hb dX4_named_30 rfl (lv_at hl 3 rfl) ?_
        refine ez_lal hC hS h dX4_named_31 (fun t_31 h => ?_)
        refine lv_aload_n hx hb dX4_named_32 rfl (lv_at hl 0 rfl) ?_
        refine eg_RX4_30 hC hS h dX4_named_33 (fun t_33 h => ?_)
        refine eg_RX4_133 hC hS h dX4_named_36 (fun t_36 h => ?_)
        refine W.lcmp hx hb dX4_named_39 ?_
        refine ez_top h (fun t_39 h => ?_)
        refine lv_if_ne (tgt := 45) hx hb dX4_named_40 (by decide) (fun c_40 => ?_) (fun c_40 => ?_)
        · replace h := ez_ifn h c_40
          obtain ⟨t_45, e_45, h⟩ := ez_let_sp h
          refine lv_iinc (v := t_45) (lv' := [(3, .int t_45), (0, .ref (B + h0)), (1, .int x1), (2, .int x2)]) hx hb dX4_named_45 hl (k := 3) rfl (by rw [e_45]; rfl) (by decide) rfl (fun ls hl => ?_)
          refine lv_goto (tgt := 13) hx hb dX4_named_48 (by decide) ?_
          exact hk_13 h0 x1 x2 t_45 _ _ _ hS h (lv_sub hl [1, 2, 3, 0] rfl)
        · replace h := ez_ifp h c_40
          refine lv_iload_n hx hb dX4_named_43 rfl (lv_at hl 3 rfl) ?_
          exact hret _ _ _ _ _ (Option.some.inj h) rfl hS dX4_named_44
  have E_13 : ∀ (h0 : Nat) (x1 : Int32) (x2 : Int32) (x3 : Int32) (H : Heap) (locs : List Loc) (ls : Array Slot), ez_S X B s.heap (n0) σ H locs → (ez_fix (fun _ _ _ _ => none) (z_X4_named_13 σ) ez_N) h0 x1 x2 x3 = some z → lv_has ls 4 [(0, .ref (B + h0)), (1, .int x1), (2, .int x2), (3, .int x3)] → W p l e R s m args below meth c H locs 0 0 Q (F0 m 13 ls []) := ez_fix_ind (fun k_13 : Nat → Int32 → Int32 → Int32 → Option (Int32) => ∀ (h0 : Nat) (x1 : Int32) (x2 : Int32) (x3 : Int32) (H : Heap) (locs : List Loc) (ls : Array Slot), ez_S X B s.heap (n0) σ H locs → k_13 h0 x1 x2 x3 = some z → lv_has ls 4 [(0, .ref (B + h0)), (1, .int x1), (2, .int x2), (3, .int x3)] → W p l e R s m args below meth c H locs 0 0 Q (F0 m 13 ls [])) (fun _ _ _ _ _ _ _ _ h _ => by cases h) (fun k_13 hk_13 => K_13 k_13 hk_13) ez_N
  refine lv_iload_n hx hb dX4_named_0 rfl (lv_at hl 1 rfl) ?_
  refine lv_if_lt (tgt := 9) hx hb dX4_named_1 (by decide) (fun c_1 => ?_) (fun c_1 => ?_)
  · replace h := ez_ifp h c_1
    exact K_9   _ _ _ hS h (lv_sub hl [] rfl)
  · replace h := ez_ifn h c_1
    refine lv_iload_n hx hb dX4_named_4 rfl (lv_at hl 1 rfl) ?_
    refine lv_iconst (v := 5) hx hb dX4_named_5 (by decide) ?_
    refine lv_icmp_lt (tgt := 11) hx hb dX4_named_6 (by decide) (fun c_6 => ?_) (fun c_6 => ?_)
    · replace h := ez_ifp h c_6
      refine lv_iconst (v := 0) hx hb dX4_named_11 (by decide) ?_
      refine lv_istore_n (lv' := [(3, .int 0), (0, .ref (B + h0)), (1, .int x1), (2, .int x2)]) hx hb dX4_named_12 rfl hl (by decide) rfl (fun ls hl => ?_)
      exact E_13  h0 x1 x2 (0 : Int32) _ _ _ hS h (lv_sub hl [1, 2, 3, 0] rfl)
    · replace h := ez_ifn h c_6
      exact K_9   _ _ _ hS h (lv_sub hl [] rfl)
set_option maxHeartbeats 4000000 in
set_option maxRecDepth 100000 in
theorem c_X4_knownName {l : Launch} {X : ez_X} {B : Nat} {σ : ez_H} {h0 : Nat} {x1 : Int32} {x2 : Int32} {z : Int32 × ez_H} (h : z_X4_knownName σ h0 x1 x2 = some z) : ez_M l X B σ yX4_knownName cX4_knownName 4 (some .int) 2 [.ref (B + h0), .int x1, .int x2] (some (.int z.1)) z.2 := by
  refine ez_starti (z := z) (by decide) (Nat.le_of_ble_eq_true rfl) (fun p e R s m args below meth c Q hC hret hS ls hl => ?_)
  have hC : ez_C p R s m args c X B RX4 cX4_knownName 4 2 := hC
  have hx := hC.1.1
  have hb := hC.1.2.1
  have hown := hC.1.2.2.2.1
  have hts := hC.1.2.2.2.2
  have hl : lv_has ls 4 [(0, .ref (B + h0)), (1, .int x1), (2, .int x2)] := hl
  obtain ⟨σ0, eσ⟩ : ∃ σ0 : ez_H, σ0 = σ := ⟨_, rfl⟩
  rw [← eσ] at hret
  have hS : ez_S X B s.heap σ0.length σ s.heap [] := eσ ▸ hS
  obtain ⟨-, h⟩ := ez_in h
  have K_37 : ∀ (σ : ez_H) (x3 : Int32) (H : Heap) (locs : List Loc) (ls : Array Slot), ez_S X B s.heap (σ0.length) σ H locs → z_X4_knownName_37 σ x3 = some z → lv_has ls 4 [(3, .int x3)] → W p l e R s m args below meth c H locs 0 0 Q (F0 m 37 ls []) := by
    intro σ x3 H locs ls hS h hl
    refine lv_iload_n hx hb dX4_knownName_37 rfl (lv_at hl 0 rfl) ?_
    exact hret _ _ _ _ _ _ (Option.some.inj h) rfl hS dX4_knownName_38
  refine lv_aload_n hx hb dX4_knownName_0 rfl (lv_at hl 0 rfl) ?_
  refine eg_RX4_30 hC hS h dX4_knownName_1 (fun t_1 h => ?_)
  refine eg_RX4_49 hC hS h dX4_knownName_4 (fun t_4 h => ?_)
  refine lv_bipush (v := 23) hx hb dX4_knownName_7 (by decide) ?_
  refine lv_icmp_eq (tgt := 19) hx hb dX4_knownName_9 (by decide) (fun c_9 => ?_) (fun c_9 => ?_)
  · replace h := ez_ifp h c_9
    refine lv_aload_n hx hb dX4_knownName_19 rfl (lv_at hl 0 rfl) ?_
    refine lv_iload_n hx hb dX4_knownName_20 rfl (lv_at hl 1 rfl) ?_
    refine lv_iload_n hx hb dX4_knownName_21 rfl (lv_at hl 2 rfl) ?_
    refine ez_cVpi (As := [.int x1, .int x2]) (rest := []) h (fun _ q => c_X4_named q) hC k_X4_named ql_RX4_137 rfl (by decide) hS (fun _ q => ez_rcv q) rfl hl.1 rfl (Nat.le_of_ble_eq_true rfl) ⟨Nat.zero_le _, Nat.zero_le _⟩ dX4_knownName_22 (fun t_22 H locs hS h => ?_)
    refine lv_istore_n (lv' := [(3, .int t_22), (0, .ref (B + h0)), (1, .int x1), (2, .int x2)]) hx hb dX4_knownName_25 rfl hl (by decide) rfl (fun ls hl => ?_)
    refine lv_iload_n hx hb dX4_knownName_26 rfl (lv_at hl 0 rfl) ?_
    refine lv_iconst (v := -1) hx hb dX4_knownName_27 (by decide) ?_
    refine lv_icmp_ne (tgt := 37) hx hb dX4_knownName_28 (by decide) (fun c_28 => ?_) (fun c_28 => ?_)
    · replace h := ez_ifn h c_28
      exact K_37  σ t_22 _ _ _ hS h (lv_sub hl [0] rfl)
    · replace h := ez_ifp h c_28
      refine lv_aload_n hx hb dX4_knownName_31 rfl (lv_at hl 1 rfl) ?_
      refine lv_iconst (v := 5) hx hb dX4_knownName_32 (by decide) ?_
      refine ez_cVi (As := [.int 5]) (rest := []) h (fun _ q => c_X4_blame q) hC k_X4_blame ql_RX4_59 rfl (by decide) hS (fun _ q => ez_rcv q) rfl hl.1 rfl (Nat.le_of_ble_eq_true rfl) ⟨Nat.zero_le _, Nat.zero_le _⟩ dX4_knownName_33 (fun t_33 σ H locs hS h => ?_)
      refine lv_pop hx hb dX4_knownName_36 rfl ?_
      exact K_37  σ t_22 _ _ _ hS h (lv_sub hl [0] rfl)
  · replace h := ez_ifn h c_9
    refine lv_aload_n hx hb dX4_knownName_12 rfl (lv_at hl 0 rfl) ?_
    refine ez_cVi (As := []) (rest := []) h (fun _ q => c_X4_refuse q) hC k_X4_refuse ql_RX4_63 rfl (by decide) hS (fun _ q => ez_rcv q) rfl hl.1 rfl (Nat.le_of_ble_eq_true rfl) ⟨Nat.zero_le _, Nat.zero_le _⟩ dX4_knownName_13 (fun t_13 σ H locs hS h => ?_)
    refine lv_pop hx hb dX4_knownName_16 rfl ?_
    refine lv_iconst (v := -1) hx hb dX4_knownName_17 (by decide) ?_
    exact hret _ _ _ _ _ _ (Option.some.inj h) rfl hS dX4_knownName_18
set_option maxHeartbeats 4000000 in
set_option maxRecDepth 100000 in
theorem c_X3_addMust {l : Launch} {X : ez_X} {B : Nat} {σ : ez_H} {h0 : Nat} {x1 : Int32} {x2 : Int32} {z : Unit × ez_H} (h : z_X3_addMust σ h0 x1 x2 = some z) : ez_M l X B σ yX3_addMust cX3_addMust 3 (none) 0 [.ref (B + h0), .int x1, .int x2] (none) z.2 := by
  refine ez_startv (z := z) (by decide) (Nat.le_of_ble_eq_true rfl) (fun p e R s m args below meth c Q hC hret hS ls hl => ?_)
  have hC : ez_C p R s m args c X B RX3 cX3_addMust 3 0 := hC
  have hx := hC.1.1
  have hb := hC.1.2.1
  have hown := hC.1.2.2.2.1
  have hts := hC.1.2.2.2.2
  have hl : lv_has ls 3 [(0, .ref (B + h0)), (1, .int x1), (2, .int x2)] := hl
  obtain ⟨σ0, eσ⟩ : ∃ σ0 : ez_H, σ0 = σ := ⟨_, rfl⟩
  rw [← eσ] at hret
  have hS : ez_S X B s.heap σ0.length σ s.heap [] := eσ ▸ hS
  obtain ⟨-, h⟩ := ez_in h
  have K_22 : ∀ (σ : ez_H) (H : Heap) (locs : List Loc) (ls : Array Slot), ez_S X B s.heap (σ0.length) σ H locs → z_X3_addMust_22 σ = some z → lv_has ls 3 [] → W p l e R s m args below meth c H locs 0 0 Q (F0 m 22 ls []) := by
    intro σ H locs ls hS h hl
    exact hret _ _ _ _ _ _ (Option.some.inj h) hS dX3_addMust_22
  refine lv_iload_n hx hb dX3_addMust_0 rfl (lv_at hl 2 rfl) ?_
  refine lv_if_lt (tgt := 22) hx hb dX3_addMust_1 (by decide) (fun c_1 => ?_) (fun c_1 => ?_)
  · replace h := ez_ifp h c_1
    exact K_22  σ _ _ _ hS h (lv_sub hl [] rfl)
  · replace h := ez_ifn h c_1
    refine lv_iload_n hx hb dX3_addMust_4 rfl (lv_at hl 2 rfl) ?_
    refine lv_bipush (v := 6) hx hb dX3_addMust_5 (by decide) ?_
    refine lv_icmp_ge (tgt := 22) hx hb dX3_addMust_7 (by decide) (fun c_7 => ?_) (fun c_7 => ?_)
    · replace h := ez_ifp h c_7
      exact K_22  σ _ _ _ hS h (lv_sub hl [] rfl)
    · replace h := ez_ifn h c_7
      refine lv_aload_n hx hb dX3_addMust_10 rfl (lv_at hl 0 rfl) ?_
      refine eg_RX3_42 hC hS h dX3_addMust_11 (fun t_11 h => ?_)
      refine lv_iload_n hx hb dX3_addMust_14 rfl (lv_at hl 2 rfl) ?_
      refine lv_dup2_11 hx hb dX3_addMust_15 rfl rfl ?_
      refine ez_ial hC hS h dX3_addMust_16 (fun t_16 h => ?_)
      refine lv_iconst (v := 1) hx hb dX3_addMust_17 (by decide) ?_
      refine lv_iload_n hx hb dX3_addMust_18 rfl (lv_at hl 1 rfl) ?_
      refine lv_ishl hx hb dX3_addMust_19 ?_
      refine ez_top h (fun t_19 h => ?_)
      refine lv_ior hx hb dX3_addMust_20 ?_
      refine ez_top h (fun t_20 h => ?_)
      refine ez_ias hC hS h dX3_addMust_21 (fun σ H locs hS h => ?_)
      exact K_22  σ _ _ _ hS h (lv_sub hl [] rfl)
set_option maxHeartbeats 4000000 in
set_option maxRecDepth 100000 in
theorem c_X3_addNever {l : Launch} {X : ez_X} {B : Nat} {σ : ez_H} {h0 : Nat} {x1 : Int32} {x2 : Int32} {z : Unit × ez_H} (h : z_X3_addNever σ h0 x1 x2 = some z) : ez_M l X B σ yX3_addNever cX3_addNever 3 (none) 0 [.ref (B + h0), .int x1, .int x2] (none) z.2 := by
  refine ez_startv (z := z) (by decide) (Nat.le_of_ble_eq_true rfl) (fun p e R s m args below meth c Q hC hret hS ls hl => ?_)
  have hC : ez_C p R s m args c X B RX3 cX3_addNever 3 0 := hC
  have hx := hC.1.1
  have hb := hC.1.2.1
  have hown := hC.1.2.2.2.1
  have hts := hC.1.2.2.2.2
  have hl : lv_has ls 3 [(0, .ref (B + h0)), (1, .int x1), (2, .int x2)] := hl
  obtain ⟨σ0, eσ⟩ : ∃ σ0 : ez_H, σ0 = σ := ⟨_, rfl⟩
  rw [← eσ] at hret
  have hS : ez_S X B s.heap σ0.length σ s.heap [] := eσ ▸ hS
  obtain ⟨-, h⟩ := ez_in h
  have K_22 : ∀ (σ : ez_H) (H : Heap) (locs : List Loc) (ls : Array Slot), ez_S X B s.heap (σ0.length) σ H locs → z_X3_addNever_22 σ = some z → lv_has ls 3 [] → W p l e R s m args below meth c H locs 0 0 Q (F0 m 22 ls []) := by
    intro σ H locs ls hS h hl
    exact hret _ _ _ _ _ _ (Option.some.inj h) hS dX3_addNever_22
  refine lv_iload_n hx hb dX3_addNever_0 rfl (lv_at hl 2 rfl) ?_
  refine lv_if_lt (tgt := 22) hx hb dX3_addNever_1 (by decide) (fun c_1 => ?_) (fun c_1 => ?_)
  · replace h := ez_ifp h c_1
    exact K_22  σ _ _ _ hS h (lv_sub hl [] rfl)
  · replace h := ez_ifn h c_1
    refine lv_iload_n hx hb dX3_addNever_4 rfl (lv_at hl 2 rfl) ?_
    refine lv_bipush (v := 6) hx hb dX3_addNever_5 (by decide) ?_
    refine lv_icmp_ge (tgt := 22) hx hb dX3_addNever_7 (by decide) (fun c_7 => ?_) (fun c_7 => ?_)
    · replace h := ez_ifp h c_7
      exact K_22  σ _ _ _ hS h (lv_sub hl [] rfl)
    · replace h := ez_ifn h c_7
      refine lv_aload_n hx hb dX3_addNever_10 rfl (lv_at hl 0 rfl) ?_
      refine eg_RX3_45 hC hS h dX3_addNever_11 (fun t_11 h => ?_)
      refine lv_iload_n hx hb dX3_addNever_14 rfl (lv_at hl 2 rfl) ?_
      refine lv_dup2_11 hx hb dX3_addNever_15 rfl rfl ?_
      refine ez_ial hC hS h dX3_addNever_16 (fun t_16 h => ?_)
      refine lv_iconst (v := 1) hx hb dX3_addNever_17 (by decide) ?_
      refine lv_iload_n hx hb dX3_addNever_18 rfl (lv_at hl 1 rfl) ?_
      refine lv_ishl hx hb dX3_addNever_19 ?_
      refine ez_top h (fun t_19 h => ?_)
      refine lv_ior hx hb dX3_addNever_20 ?_
      refine ez_top h (fun t_20 h => ?_)
      refine ez_ias hC hS h dX3_addNever_21 (fun σ H locs hS h => ?_)
      exact K_22  σ _ _ _ hS h (lv_sub hl [] rfl)
set_option maxHeartbeats 4000000 in
set_option maxRecDepth 100000 in
theorem c_X4_readRule {l : Launch} {X : ez_X} {B : Nat} {σ : ez_H} {h0 : Nat} {z : Int32 × ez_H} (h : z_X4_readRule σ h0 = some z) : ez_M l X B σ yX4_readRule cX4_readRule 4 (some .boolean) 6 [.ref (B + h0)] (some (.int z.1)) z.2 := by
  refine ez_starti (z := z) (by decide) (Nat.le_of_ble_eq_true rfl) (fun p e R s m args below meth c Q hC hret hS ls hl => ?_)
  have hC : ez_C p R s m args c X B RX4 cX4_readRule 4 6 := hC
  have hx := hC.1.1
  have hb := hC.1.2.1
  have hown := hC.1.2.2.2.1
  have hts := hC.1.2.2.2.2
  have hl : lv_has ls 4 [(0, .ref (B + h0))] := hl
  obtain ⟨σ0, eσ⟩ : ∃ σ0 : ez_H, σ0 = σ := ⟨_, rfl⟩
  rw [← eσ] at hret
  have hS : ez_S X B s.heap σ0.length σ s.heap [] := eσ ▸ hS
  obtain ⟨-, h⟩ := ez_in h
  have K_127 : ∀ (σ : ez_H) (h0 : Nat) (H : Heap) (locs : List Loc) (ls : Array Slot), ez_S X B s.heap (σ0.length) σ H locs → z_X4_readRule_127 σ h0 = some z → lv_has ls 4 [(0, .ref (B + h0))] → W p l e R s m args below meth c H locs 0 0 Q (F0 m 127 ls []) := by
    intro σ h0 H locs ls hS h hl
    refine lv_aload_n hx hb dX4_readRule_127 rfl (lv_at hl 0 rfl) ?_
    refine eg_RX4_30 hC hS h dX4_readRule_128 (fun t_128 h => ?_)
    refine ez_cVv (As := []) (rest := []) h (fun _ q => c_X9_advance q) hC k_X9_advance ql_RX4_66 rfl (by decide) hS (fun _ q => ez_rcv q) rfl hl.1 rfl (Nat.le_of_ble_eq_true rfl) ⟨Nat.zero_le _, Nat.zero_le _⟩ dX4_readRule_131 (fun _ σ H locs hS h => ?_)
    refine lv_aload_n hx hb dX4_readRule_134 rfl (lv_at hl 0 rfl) ?_
    refine lv_bipush (v := 59) hx hb dX4_readRule_135 (by decide) ?_
    refine ez_cVi (As := [.int 59]) (rest := []) h (fun _ q => c_X4_expect q) hC k_X4_expect ql_RX4_97 rfl (by decide) hS (fun _ q => ez_rcv q) rfl hl.1 rfl (Nat.le_of_ble_eq_true rfl) ⟨Nat.zero_le _, Nat.zero_le _⟩ dX4_readRule_137 (fun t_137 σ H locs hS h => ?_)
    obtain ⟨hn, h⟩ := ez_nr_sp rfl h
    exact hret _ _ _ _ _ _ (Option.some.inj h) hn hS dX4_readRule_140
  have K_17 : ∀ (σ : ez_H) (h0 : Nat) (y0 : Int32) (H : Heap) (locs : List Loc) (ls : Array Slot), ez_S X B s.heap (σ0.length) σ H locs → z_X4_readRule_17 σ h0 y0 = some z → lv_has ls 4 [(0, .ref (B + h0))] → W p l e R s m args below meth c H locs 0 0 Q (F0 m 17 ls [.int y0]) := by
    intro σ h0 y0 H locs ls hS h hl
    refine lv_istore_n (lv' := [(1, .int y0), (0, .ref (B + h0))]) hx hb dX4_readRule_17 rfl hl (by decide) rfl (fun ls hl => ?_)
    refine lv_aload_n hx hb dX4_readRule_18 rfl (lv_at hl 1 rfl) ?_
    refine eg_RX4_30 hC hS h dX4_readRule_19 (fun t_19 h => ?_)
    refine ez_cVv (As := []) (rest := []) h (fun _ q => c_X9_advance q) hC k_X9_advance ql_RX4_66 rfl (by decide) hS (fun _ q => ez_rcv q) rfl hl.1 rfl (Nat.le_of_ble_eq_true rfl) ⟨Nat.zero_le _, Nat.zero_le _⟩ dX4_readRule_22 (fun _ σ H locs hS h => ?_)
    refine lv_aload_n hx hb dX4_readRule_25 rfl (lv_at hl 1 rfl) ?_
    refine lv_iconst (v := 0) hx hb dX4_readRule_26 (by decide) ?_
    refine lv_aload_n hx hb dX4_readRule_27 rfl (lv_at hl 1 rfl) ?_
    refine eg_RX4_12 hC hS h dX4_readRule_28 (fun t_28 h => ?_)
    refine eg_RX4_100 hC hS h dX4_readRule_31 (fun t_31 h => ?_)
    refine ez_cVi (As := [.int 0, .int t_31]) (rest := []) h (fun _ q => c_X4_knownName q) hC k_X4_knownName ql_RX4_180 rfl (by decide) hS (fun _ q => ez_rcv q) rfl hl.1 rfl (Nat.le_of_ble_eq_true rfl) ⟨Nat.zero_le _, Nat.zero_le _⟩ dX4_readRule_34 (fun t_34 σ H locs hS h => ?_)
    refine lv_istore_n (lv' := [(2, .int t_34), (1, .int y0), (0, .ref (B + h0))]) hx hb dX4_readRule_37 rfl hl (by decide) rfl (fun ls hl => ?_)
    refine lv_iload_n hx hb dX4_readRule_38 rfl (lv_at hl 0 rfl) ?_
    refine lv_iconst (v := -1) hx hb dX4_readRule_39 (by decide) ?_
    refine lv_icmp_ne (tgt := 45) hx hb dX4_readRule_40 (by decide) (fun c_40 => ?_) (fun c_40 => ?_)
    · replace h := ez_ifn h c_40
      refine lv_aload_n hx hb dX4_readRule_45 rfl (lv_at hl 2 rfl) ?_
      refine eg_RX4_30 hC hS h dX4_readRule_46 (fun t_46 h => ?_)
      refine ez_cVv (As := []) (rest := []) h (fun _ q => c_X9_advance q) hC k_X9_advance ql_RX4_66 rfl (by decide) hS (fun _ q => ez_rcv q) rfl hl.1 rfl (Nat.le_of_ble_eq_true rfl) ⟨Nat.zero_le _, Nat.zero_le _⟩ dX4_readRule_49 (fun _ σ H locs hS h => ?_)
      refine lv_aload_n hx hb dX4_readRule_52 rfl (lv_at hl 2 rfl) ?_
      refine lv_iconst (v := 1) hx hb dX4_readRule_53 (by decide) ?_
      refine lv_aload_n hx hb dX4_readRule_54 rfl (lv_at hl 2 rfl) ?_
      refine eg_RX4_12 hC hS h dX4_readRule_55 (fun t_55 h => ?_)
      refine eg_RX4_103 hC hS h dX4_readRule_58 (fun t_58 h => ?_)
      refine ez_cVi (As := [.int 1, .int t_58]) (rest := []) h (fun _ q => c_X4_knownName q) hC k_X4_knownName ql_RX4_180 rfl (by decide) hS (fun _ q => ez_rcv q) rfl hl.1 rfl (Nat.le_of_ble_eq_true rfl) ⟨Nat.zero_le _, Nat.zero_le _⟩ dX4_readRule_61 (fun t_61 σ H locs hS h => ?_)
      refine lv_istore_n (lv' := [(3, .int t_61), (2, .int t_34), (1, .int y0), (0, .ref (B + h0))]) hx hb dX4_readRule_64 rfl hl (by decide) rfl (fun ls hl => ?_)
      refine lv_iload_n hx hb dX4_readRule_65 rfl (lv_at hl 0 rfl) ?_
      refine lv_iconst (v := -1) hx hb dX4_readRule_66 (by decide) ?_
      refine lv_icmp_ne (tgt := 72) hx hb dX4_readRule_67 (by decide) (fun c_67 => ?_) (fun c_67 => ?_)
      · replace h := ez_ifn h c_67
        refine lv_aload_n hx hb dX4_readRule_72 rfl (lv_at hl 3 rfl) ?_
        refine eg_RX4_12 hC hS h dX4_readRule_73 (fun t_73 h => ?_)
        refine lv_iload_n hx hb dX4_readRule_76 rfl (lv_at hl 0 rfl) ?_
        refine ez_cVpi (As := [.int t_61]) (rest := []) h (fun _ q => c_X3_mustOf q) hC k_X3_mustOf ql_RX4_199 rfl (by decide) hS (fun _ q => ez_rcv q) rfl hl.1 rfl (Nat.le_of_ble_eq_true rfl) ⟨Nat.zero_le _, Nat.zero_le _⟩ dX4_readRule_77 (fun t_77 H locs hS h => ?_)
        refine lv_aload_n hx hb dX4_readRule_80 rfl (lv_at hl 3 rfl) ?_
        refine eg_RX4_12 hC hS h dX4_readRule_81 (fun t_81 h => ?_)
        refine lv_iload_n hx hb dX4_readRule_84 rfl (lv_at hl 0 rfl) ?_
        refine ez_cVpi (As := [.int t_61]) (rest := [.int t_77]) h (fun _ q => c_X3_neverOf q) hC k_X3_neverOf ql_RX4_202 rfl (by decide) hS (fun _ q => ez_rcv q) rfl hl.1 rfl (Nat.le_of_ble_eq_true rfl) ⟨Nat.zero_le _, Nat.zero_le _⟩ dX4_readRule_85 (fun t_85 H locs hS h => ?_)
        refine lv_ior hx hb dX4_readRule_88 ?_
        refine ez_top h (fun t_88 h => ?_)
        refine lv_iload_n hx hb dX4_readRule_89 rfl (lv_at hl 1 rfl) ?_
        refine lv_ishr hx hb dX4_readRule_90 ?_
        refine ez_top h (fun t_90 h => ?_)
        refine lv_iconst (v := 1) hx hb dX4_readRule_91 (by decide) ?_
        refine lv_iand hx hb dX4_readRule_92 ?_
        refine ez_top h (fun t_92 h => ?_)
        refine lv_if_eq (tgt := 102) hx hb dX4_readRule_93 (by decide) (fun c_93 => ?_) (fun c_93 => ?_)
        · replace h := ez_ifp h c_93
          refine lv_iload_n hx hb dX4_readRule_102 rfl (lv_at hl 2 rfl) ?_
          refine lv_if_eq (tgt := 118) hx hb dX4_readRule_103 (by decide) (fun c_103 => ?_) (fun c_103 => ?_)
          · replace h := ez_ifp h c_103
            refine lv_aload_n hx hb dX4_readRule_118 rfl (lv_at hl 3 rfl) ?_
            refine eg_RX4_12 hC hS h dX4_readRule_119 (fun t_119 h => ?_)
            refine lv_iload_n hx hb dX4_readRule_122 rfl (lv_at hl 1 rfl) ?_
            refine lv_iload_n hx hb dX4_readRule_123 rfl (lv_at hl 0 rfl) ?_
            refine ez_cVv (As := [.int t_34, .int t_61]) (rest := []) h (fun _ q => c_X3_addNever q) hC k_X3_addNever ql_RX4_208 rfl (by decide) hS (fun _ q => ez_rcv q) rfl hl.1 rfl (Nat.le_of_ble_eq_true rfl) ⟨Nat.zero_le _, Nat.zero_le _⟩ dX4_readRule_124 (fun _ σ H locs hS h => ?_)
            exact K_127  σ h0 _ _ _ hS h (lv_sub hl [3] rfl)
          · replace h := ez_ifn h c_103
            refine lv_aload_n hx hb dX4_readRule_106 rfl (lv_at hl 3 rfl) ?_
            refine eg_RX4_12 hC hS h dX4_readRule_107 (fun t_107 h => ?_)
            refine lv_iload_n hx hb dX4_readRule_110 rfl (lv_at hl 1 rfl) ?_
            refine lv_iload_n hx hb dX4_readRule_111 rfl (lv_at hl 0 rfl) ?_
            refine ez_cVv (As := [.int t_34, .int t_61]) (rest := []) h (fun _ q => c_X3_addMust q) hC k_X3_addMust ql_RX4_205 rfl (by decide) hS (fun _ q => ez_rcv q) rfl hl.1 rfl (Nat.le_of_ble_eq_true rfl) ⟨Nat.zero_le _, Nat.zero_le _⟩ dX4_readRule_112 (fun _ σ H locs hS h => ?_)
            refine lv_goto (tgt := 127) hx hb dX4_readRule_115 (by decide) ?_
            exact K_127  σ h0 _ _ _ hS h (lv_sub hl [3] rfl)
        · replace h := ez_ifn h c_93
          refine lv_aload_n hx hb dX4_readRule_96 rfl (lv_at hl 3 rfl) ?_
          refine lv_iconst (v := 3) hx hb dX4_readRule_97 (by decide) ?_
          refine ez_cVi (As := [.int 3]) (rest := []) h (fun _ q => c_X4_blame q) hC k_X4_blame ql_RX4_59 rfl (by decide) hS (fun _ q => ez_rcv q) rfl hl.1 rfl (Nat.le_of_ble_eq_true rfl) ⟨Nat.zero_le _, Nat.zero_le _⟩ dX4_readRule_98 (fun t_98 σ H locs hS h => ?_)
          obtain ⟨hn, h⟩ := ez_nr_sp rfl h
          exact hret _ _ _ _ _ _ (Option.some.inj h) hn hS dX4_readRule_101
      · replace h := ez_ifp h c_67
        refine lv_iconst (v := 0) hx hb dX4_readRule_70 (by decide) ?_
        have hn : narrow .boolean (.int 0) = .int 0 := by decide
        exact hret _ _ _ _ _ _ (Option.some.inj h) hn hS dX4_readRule_71
    · replace h := ez_ifp h c_40
      refine lv_iconst (v := 0) hx hb dX4_readRule_43 (by decide) ?_
      have hn : narrow .boolean (.int 0) = .int 0 := by decide
      exact hret _ _ _ _ _ _ (Option.some.inj h) hn hS dX4_readRule_44
  refine lv_aload_n hx hb dX4_readRule_0 rfl (lv_at hl 0 rfl) ?_
  refine eg_RX4_30 hC hS h dX4_readRule_1 (fun t_1 h => ?_)
  refine eg_RX4_49 hC hS h dX4_readRule_4 (fun t_4 h => ?_)
  refine lv_bipush (v := 8) hx hb dX4_readRule_7 (by decide) ?_
  refine lv_icmp_ne (tgt := 16) hx hb dX4_readRule_9 (by decide) (fun c_9 => ?_) (fun c_9 => ?_)
  · replace h := ez_ifn h c_9
    refine lv_iconst (v := 0) hx hb dX4_readRule_16 (by decide) ?_
    exact K_17  σ h0 (0 : Int32) _ _ _ hS h (lv_sub hl [0] rfl)
  · replace h := ez_ifp h c_9
    refine lv_iconst (v := 1) hx hb dX4_readRule_12 (by decide) ?_
    refine lv_goto (tgt := 17) hx hb dX4_readRule_13 (by decide) ?_
    exact K_17  σ h0 (1 : Int32) _ _ _ hS h (lv_sub hl [0] rfl)
set_option maxHeartbeats 4000000 in
set_option maxRecDepth 100000 in
theorem c_X4_readNewName {l : Launch} {X : ez_X} {B : Nat} {σ : ez_H} {h0 : Nat} {x1 : Int32} {x2 : Int32} {x3 : Int32} {z : Int32 × ez_H} (h : z_X4_readNewName σ h0 x1 x2 x3 = some z) : ez_M l X B σ yX4_readNewName cX4_readNewName 4 (some .boolean) 5 [.ref (B + h0), .int x1, .int x2, .int x3] (some (.int z.1)) z.2 := by
  refine ez_starti (z := z) (by decide) (Nat.le_of_ble_eq_true rfl) (fun p e R s m args below meth c Q hC hret hS ls hl => ?_)
  have hC : ez_C p R s m args c X B RX4 cX4_readNewName 4 5 := hC
  have hx := hC.1.1
  have hb := hC.1.2.1
  have hown := hC.1.2.2.2.1
  have hts := hC.1.2.2.2.2
  have hl : lv_has ls 4 [(0, .ref (B + h0)), (1, .int x1), (2, .int x2), (3, .int x3)] := hl
  obtain ⟨σ0, eσ⟩ : ∃ σ0 : ez_H, σ0 = σ := ⟨_, rfl⟩
  rw [← eσ] at hret
  have hS : ez_S X B s.heap σ0.length σ s.heap [] := eσ ▸ hS
  obtain ⟨-, h⟩ := ez_in h
  have K_84 : ∀ (σ : ez_H) (h0 : Nat) (H : Heap) (locs : List Loc) (ls : Array Slot), ez_S X B s.heap (σ0.length) σ H locs → z_X4_readNewName_84 σ h0 = some z → lv_has ls 4 [(0, .ref (B + h0))] → W p l e R s m args below meth c H locs 0 0 Q (F0 m 84 ls []) := by
    intro σ h0 H locs ls hS h hl
    refine lv_aload_n hx hb dX4_readNewName_84 rfl (lv_at hl 0 rfl) ?_
    refine eg_RX4_30 hC hS h dX4_readNewName_85 (fun t_85 h => ?_)
    refine ez_cVv (As := []) (rest := []) h (fun _ q => c_X9_advance q) hC k_X9_advance ql_RX4_66 rfl (by decide) hS (fun _ q => ez_rcv q) rfl hl.1 rfl (Nat.le_of_ble_eq_true rfl) ⟨Nat.zero_le _, Nat.zero_le _⟩ dX4_readNewName_88 (fun _ σ H locs hS h => ?_)
    refine lv_iconst (v := 1) hx hb dX4_readNewName_91 (by decide) ?_
    have hn : narrow .boolean (.int 1) = .int 1 := by decide
    exact hret _ _ _ _ _ _ (Option.some.inj h) hn hS dX4_readNewName_92
  refine lv_iload_n hx hb dX4_readNewName_0 rfl (lv_at hl 2 rfl) ?_
  refine lv_iload_n hx hb dX4_readNewName_1 rfl (lv_at hl 3 rfl) ?_
  refine lv_icmp_lt (tgt := 10) hx hb dX4_readNewName_2 (by decide) (fun c_2 => ?_) (fun c_2 => ?_)
  · replace h := ez_ifp h c_2
    refine lv_aload_n hx hb dX4_readNewName_10 rfl (lv_at hl 0 rfl) ?_
    refine eg_RX4_30 hC hS h dX4_readNewName_11 (fun t_11 h => ?_)
    refine ez_cVv (As := []) (rest := []) h (fun _ q => c_X9_advance q) hC k_X9_advance ql_RX4_66 rfl (by decide) hS (fun _ q => ez_rcv q) rfl hl.1 rfl (Nat.le_of_ble_eq_true rfl) ⟨Nat.zero_le _, Nat.zero_le _⟩ dX4_readNewName_14 (fun _ σ H locs hS h => ?_)
    refine lv_aload_n hx hb dX4_readNewName_17 rfl (lv_at hl 0 rfl) ?_
    refine eg_RX4_30 hC hS h dX4_readNewName_18 (fun t_18 h => ?_)
    refine eg_RX4_49 hC hS h dX4_readNewName_21 (fun t_21 h => ?_)
    refine lv_bipush (v := 23) hx hb dX4_readNewName_24 (by decide) ?_
    refine lv_icmp_eq (tgt := 34) hx hb dX4_readNewName_26 (by decide) (fun c_26 => ?_) (fun c_26 => ?_)
    · replace h := ez_ifp h c_26
      refine lv_aload_n hx hb dX4_readNewName_34 rfl (lv_at hl 0 rfl) ?_
      refine lv_iload_n hx hb dX4_readNewName_35 rfl (lv_at hl 1 rfl) ?_
      refine lv_iload_n hx hb dX4_readNewName_36 rfl (lv_at hl 2 rfl) ?_
      refine ez_cVpi (As := [.int x1, .int x2]) (rest := []) h (fun _ q => c_X4_named q) hC k_X4_named ql_RX4_137 rfl (by decide) hS (fun _ q => ez_rcv q) rfl hl.1 rfl (Nat.le_of_ble_eq_true rfl) ⟨Nat.zero_le _, Nat.zero_le _⟩ dX4_readNewName_37 (fun t_37 H locs hS h => ?_)
      refine lv_iconst (v := -1) hx hb dX4_readNewName_40 (by decide) ?_
      refine lv_icmp_eq (tgt := 50) hx hb dX4_readNewName_41 (by decide) (fun c_41 => ?_) (fun c_41 => ?_)
      · replace h := ez_ifp h c_41
        refine lv_iload_n hx hb dX4_readNewName_50 rfl (lv_at hl 1 rfl) ?_
        refine lv_if_lt (tgt := 84) hx hb dX4_readNewName_51 (by decide) (fun c_51 => ?_) (fun c_51 => ?_)
        · replace h := ez_ifp h c_51
          exact K_84  σ h0 _ _ _ hS h (lv_sub hl [0] rfl)
        · replace h := ez_ifn h c_51
          refine lv_iload_n hx hb dX4_readNewName_54 rfl (lv_at hl 1 rfl) ?_
          refine lv_iconst (v := 5) hx hb dX4_readNewName_55 (by decide) ?_
          refine lv_icmp_ge (tgt := 84) hx hb dX4_readNewName_56 (by decide) (fun c_56 => ?_) (fun c_56 => ?_)
          · replace h := ez_ifp h c_56
            exact K_84  σ h0 _ _ _ hS h (lv_sub hl [0] rfl)
          · replace h := ez_ifn h c_56
            refine lv_iload_n hx hb dX4_readNewName_59 rfl (lv_at hl 2 rfl) ?_
            refine lv_if_lt (tgt := 84) hx hb dX4_readNewName_60 (by decide) (fun c_60 => ?_) (fun c_60 => ?_)
            · replace h := ez_ifp h c_60
              exact K_84  σ h0 _ _ _ hS h (lv_sub hl [0] rfl)
            · replace h := ez_ifn h c_60
              refine lv_iload_n hx hb dX4_readNewName_63 rfl (lv_at hl 2 rfl) ?_
              refine lv_bipush (v := 8) hx hb dX4_readNewName_64 (by decide) ?_
              refine lv_icmp_ge (tgt := 84) hx hb dX4_readNewName_66 (by decide) (fun c_66 => ?_) (fun c_66 => ?_)
              · replace h := ez_ifp h c_66
                exact K_84  σ h0 _ _ _ hS h (lv_sub hl [0] rfl)
              · replace h := ez_ifn h c_66
                refine lv_aload_n hx hb dX4_readNewName_69 rfl (lv_at hl 0 rfl) ?_
                refine eg_RX4_36 hC hS h dX4_readNewName_70 (fun t_70 h => ?_)
                refine lv_iload_n hx hb dX4_readNewName_73 rfl (lv_at hl 1 rfl) ?_
                refine ez_aal hC hS h dX4_readNewName_74 (fun t_74 h => ?_)
                refine lv_iload_n hx hb dX4_readNewName_75 rfl (lv_at hl 2 rfl) ?_
                refine lv_aload_n hx hb dX4_readNewName_76 rfl (lv_at hl 0 rfl) ?_
                refine eg_RX4_30 hC hS h dX4_readNewName_77 (fun t_77 h => ?_)
                refine eg_RX4_133 hC hS h dX4_readNewName_80 (fun t_80 h => ?_)
                refine ez_las hC hS h dX4_readNewName_83 (fun σ H locs hS h => ?_)
                exact K_84  σ h0 _ _ _ hS h (lv_sub hl [0] rfl)
      · replace h := ez_ifn h c_41
        refine lv_aload_n hx hb dX4_readNewName_44 rfl (lv_at hl 0 rfl) ?_
        refine lv_iconst (v := 3) hx hb dX4_readNewName_45 (by decide) ?_
        refine ez_cVi (As := [.int 3]) (rest := []) h (fun _ q => c_X4_blame q) hC k_X4_blame ql_RX4_59 rfl (by decide) hS (fun _ q => ez_rcv q) rfl hl.1 rfl (Nat.le_of_ble_eq_true rfl) ⟨Nat.zero_le _, Nat.zero_le _⟩ dX4_readNewName_46 (fun t_46 σ H locs hS h => ?_)
        obtain ⟨hn, h⟩ := ez_nr_sp rfl h
        exact hret _ _ _ _ _ _ (Option.some.inj h) hn hS dX4_readNewName_49
    · replace h := ez_ifn h c_26
      refine lv_aload_n hx hb dX4_readNewName_29 rfl (lv_at hl 0 rfl) ?_
      refine ez_cVi (As := []) (rest := []) h (fun _ q => c_X4_refuse q) hC k_X4_refuse ql_RX4_63 rfl (by decide) hS (fun _ q => ez_rcv q) rfl hl.1 rfl (Nat.le_of_ble_eq_true rfl) ⟨Nat.zero_le _, Nat.zero_le _⟩ dX4_readNewName_30 (fun t_30 σ H locs hS h => ?_)
      obtain ⟨hn, h⟩ := ez_nr_sp rfl h
      exact hret _ _ _ _ _ _ (Option.some.inj h) hn hS dX4_readNewName_33
  · replace h := ez_ifn h c_2
    refine lv_aload_n hx hb dX4_readNewName_5 rfl (lv_at hl 0 rfl) ?_
    refine ez_cVi (As := []) (rest := []) h (fun _ q => c_X4_refuse q) hC k_X4_refuse ql_RX4_63 rfl (by decide) hS (fun _ q => ez_rcv q) rfl hl.1 rfl (Nat.le_of_ble_eq_true rfl) ⟨Nat.zero_le _, Nat.zero_le _⟩ dX4_readNewName_6 (fun t_6 σ H locs hS h => ?_)
    obtain ⟨hn, h⟩ := ez_nr_sp rfl h
    exact hret _ _ _ _ _ _ (Option.some.inj h) hn hS dX4_readNewName_9
