set_option maxHeartbeats 4000000 in
set_option maxRecDepth 100000 in
theorem c_X12_readRoom {l : Launch} {X : ez_X} {B : Nat} {σ : ez_H} {h0 : Nat} {z : Unit × ez_H} (h : z_X12_readRoom σ h0 = some z) : ez_M l X B σ yX12_readRoom cX12_readRoom 1 (none) 3 [.ref (B + h0)] (none) z.2 := by
  refine ez_startv (z := z) (by decide) (Nat.le_of_ble_eq_true rfl) (fun p e R s m args below meth c Q hC hret hS ls hl => ?_)
  have hC : ez_C p R s m args c X B RX12 cX12_readRoom 1 3 := hC
  have hx := hC.1.1
  have hb := hC.1.2.1
  have hown := hC.1.2.2.2.1
  have hts := hC.1.2.2.2.2
  have hl : lv_has ls 1 [(0, .ref (B + h0))] := hl
  obtain ⟨σ0, eσ⟩ : ∃ σ0 : ez_H, σ0 = σ := ⟨_, rfl⟩
  rw [← eσ] at hret
  have hS : ez_S X B s.heap σ0.length σ s.heap [] := eσ ▸ hS
  obtain ⟨-, h⟩ := ez_in h
  refine lv_aload_n hx hb dX12_readRoom_0 rfl (lv_at hl 0 rfl) ?_
  refine eg_RX12_94 hC hS h dX12_readRoom_1 (fun t_1 h => ?_)
  refine lv_bipush (v := 6) hx hb dX12_readRoom_4 (by decide) ?_
  refine lv_aload_n hx hb dX12_readRoom_6 rfl (lv_at hl 0 rfl) ?_
  refine eg_RX12_265 hC hS h dX12_readRoom_7 (fun t_7 h => ?_)
  refine lv_imul hx hb dX12_readRoom_10 ?_
  refine ez_top h (fun t_10 h => ?_)
  refine lv_aload_n hx hb dX12_readRoom_11 rfl (lv_at hl 0 rfl) ?_
  refine eg_RX12_36 hC hS h dX12_readRoom_12 (fun t_12 h => ?_)
  refine lv_aload_n hx hb dX12_readRoom_15 rfl (lv_at hl 0 rfl) ?_
  refine eg_RX12_265 hC hS h dX12_readRoom_16 (fun t_16 h => ?_)
  refine ez_ial hC hS h dX12_readRoom_19 (fun t_19 h => ?_)
  refine lv_iadd hx hb dX12_readRoom_20 ?_
  refine ez_top h (fun t_20 h => ?_)
  refine lv_aload_n hx hb dX12_readRoom_21 rfl (lv_at hl 0 rfl) ?_
  refine lv_aload_n hx hb dX12_readRoom_22 rfl (lv_at hl 0 rfl) ?_
  refine ez_cVpi (As := []) (rest := [.ref (B + h0), .int t_20, .ref (B + t_1)]) h (fun _ q => c_X12_roomHere q) hC k_X12_roomHere ql_RX12_343 rfl (by decide) hS (fun _ q => ez_rcv q) rfl hl.1 rfl (Nat.le_of_ble_eq_true rfl) ⟨Nat.zero_le _, Nat.zero_le _⟩ dX12_readRoom_23 (fun t_23 H locs hS h => ?_)
  refine ez_cVl (As := [.int t_23]) (rest := [.int t_20, .ref (B + t_1)]) h (fun _ q => c_X12_fresh q) hC k_X12_fresh ql_RX12_333 rfl (by decide) hS (fun _ q => ez_rcv q) rfl hl.1 rfl (Nat.le_of_ble_eq_true rfl) ⟨Nat.zero_le _, Nat.zero_le _⟩ dX12_readRoom_26 (fun t_26 σ H locs hS h => ?_)
  refine ez_las hC hS h dX12_readRoom_29 (fun σ H locs hS h => ?_)
  refine lv_aload_n hx hb dX12_readRoom_30 rfl (lv_at hl 0 rfl) ?_
  refine eg_RX12_36 hC hS h dX12_readRoom_31 (fun t_31 h => ?_)
  refine lv_aload_n hx hb dX12_readRoom_34 rfl (lv_at hl 0 rfl) ?_
  refine eg_RX12_265 hC hS h dX12_readRoom_35 (fun t_35 h => ?_)
  refine lv_dup2_11 hx hb dX12_readRoom_38 rfl rfl ?_
  refine ez_ial hC hS h dX12_readRoom_39 (fun t_39 h => ?_)
  refine lv_iconst (v := 1) hx hb dX12_readRoom_40 (by decide) ?_
  refine lv_iadd hx hb dX12_readRoom_41 ?_
  refine ez_top h (fun t_41 h => ?_)
  refine ez_ias hC hS h dX12_readRoom_42 (fun σ H locs hS h => ?_)
  exact hret _ _ _ _ _ _ (Option.some.inj h) hS dX12_readRoom_43
set_option maxHeartbeats 4000000 in
set_option maxRecDepth 100000 in
theorem c_X12_must {l : Launch} {X : ez_X} {B : Nat} {σ : ez_H} {h0 : Nat} {x1 : Int32} {z : Unit × ez_H} (h : z_X12_must σ h0 x1 = some z) : ez_M l X B σ yX12_must cX12_must 2 (none) 2 [.ref (B + h0), .int x1] (none) z.2 := by
  refine ez_startv (z := z) (by decide) (Nat.le_of_ble_eq_true rfl) (fun p e R s m args below meth c Q hC hret hS ls hl => ?_)
  have hC : ez_C p R s m args c X B RX12 cX12_must 2 2 := hC
  have hx := hC.1.1
  have hb := hC.1.2.1
  have hown := hC.1.2.2.2.1
  have hts := hC.1.2.2.2.2
  have hl : lv_has ls 2 [(0, .ref (B + h0)), (1, .int x1)] := hl
  obtain ⟨σ0, eσ⟩ : ∃ σ0 : ez_H, σ0 = σ := ⟨_, rfl⟩
  rw [← eσ] at hret
  have hS : ez_S X B s.heap σ0.length σ s.heap [] := eσ ▸ hS
  obtain ⟨-, h⟩ := ez_in h
  have K_23 : ∀ (σ : ez_H) (H : Heap) (locs : List Loc) (ls : Array Slot), ez_S X B s.heap (σ0.length) σ H locs → z_X12_must_23 σ = some z → lv_has ls 2 [] → W p l e R s m args below meth c H locs 0 0 Q (F0 m 23 ls []) := by
    intro σ H locs ls hS h hl
    exact hret _ _ _ _ _ _ (Option.some.inj h) hS dX12_must_23
  refine lv_aload_n hx hb dX12_must_0 rfl (lv_at hl 0 rfl) ?_
  refine ez_cVpi (As := []) (rest := []) h (fun _ q => c_X12_isGood q) hC k_X12_isGood ql_RX12_251 rfl (by decide) hS (fun _ q => ez_rcv q) rfl hl.1 rfl (Nat.le_of_ble_eq_true rfl) ⟨Nat.zero_le _, Nat.zero_le _⟩ dX12_must_1 (fun t_1 H locs hS h => ?_)
  refine lv_if_ne (tgt := 8) hx hb dX12_must_4 (by decide) (fun c_4 => ?_) (fun c_4 => ?_)
  · replace h := ez_ifn h c_4
    refine lv_iload_n hx hb dX12_must_8 rfl (lv_at hl 1 rfl) ?_
    refine lv_if_eq (tgt := 19) hx hb dX12_must_9 (by decide) (fun c_9 => ?_) (fun c_9 => ?_)
    · replace h := ez_ifp h c_9
      refine lv_aload_n hx hb dX12_must_19 rfl (lv_at hl 0 rfl) ?_
      refine ez_cVv (As := []) (rest := []) h (fun _ q => c_X12_misplaced q) hC k_X12_misplaced ql_RX12_258 rfl (by decide) hS (fun _ q => ez_rcv q) rfl hl.1 rfl (Nat.le_of_ble_eq_true rfl) ⟨Nat.zero_le _, Nat.zero_le _⟩ dX12_must_20 (fun _ σ H locs hS h => ?_)
      exact K_23  σ _ _ _ hS h (lv_sub hl [] rfl)
    · replace h := ez_ifn h c_9
      refine lv_aload_n hx hb dX12_must_12 rfl (lv_at hl 0 rfl) ?_
      refine ez_cVv (As := []) (rest := []) h (fun _ q => c_X12_goOn q) hC k_X12_goOn ql_RX12_255 rfl (by decide) hS (fun _ q => ez_rcv q) rfl hl.1 rfl (Nat.le_of_ble_eq_true rfl) ⟨Nat.zero_le _, Nat.zero_le _⟩ dX12_must_13 (fun _ σ H locs hS h => ?_)
      refine lv_goto (tgt := 23) hx hb dX12_must_16 (by decide) ?_
      exact K_23  σ _ _ _ hS h (lv_sub hl [] rfl)
  · replace h := ez_ifp h c_4
    exact hret _ _ _ _ _ _ (Option.some.inj h) hS dX12_must_7
set_option maxHeartbeats 4000000 in
set_option maxRecDepth 100000 in
theorem c_X12_known {l : Launch} {X : ez_X} {B : Nat} {σ : ez_H} {h0 : Nat} {x1 : Int32} {x2 : Int32} {z : Int32 × ez_H} (h : z_X12_known σ h0 x1 x2 = some z) : ez_M l X B σ yX12_known cX12_known 3 (some .int) 2 [.ref (B + h0), .int x1, .int x2] (some (.int z.1)) z.2 := by
  refine ez_starti (z := z) (by decide) (Nat.le_of_ble_eq_true rfl) (fun p e R s m args below meth c Q hC hret hS ls hl => ?_)
  have hC : ez_C p R s m args c X B RX12 cX12_known 3 2 := hC
  have hx := hC.1.1
  have hb := hC.1.2.1
  have hown := hC.1.2.2.2.1
  have hts := hC.1.2.2.2.2
  have hl : lv_has ls 3 [(0, .ref (B + h0)), (1, .int x1), (2, .int x2)] := hl
  obtain ⟨σ0, eσ⟩ : ∃ σ0 : ez_H, σ0 = σ := ⟨_, rfl⟩
  rw [← eσ] at hret
  have hS : ez_S X B s.heap σ0.length σ s.heap [] := eσ ▸ hS
  obtain ⟨-, h⟩ := ez_in h
  have K_73 : ∀ (σ : ez_H) (y0 : Int32) (H : Heap) (locs : List Loc) (ls : Array Slot), ez_S X B s.heap (σ0.length) σ H locs → z_X12_known_73 σ y0 = some z → lv_has ls 3 [] → W p l e R s m args below meth c H locs 0 0 Q (F0 m 73 ls [.int y0]) := by
    intro σ y0 H locs ls hS h hl
    exact hret _ _ _ _ _ _ (Option.some.inj h) rfl hS dX12_known_73
  have K_64 : ∀ (σ : ez_H) (x1 : Int32) (H : Heap) (locs : List Loc) (ls : Array Slot), ez_S X B s.heap (σ0.length) σ H locs → z_X12_known_64 σ x1 = some z → lv_has ls 3 [(1, .int x1)] → W p l e R s m args below meth c H locs 0 0 Q (F0 m 64 ls []) := by
    intro σ x1 H locs ls hS h hl
    refine lv_iload_n hx hb dX12_known_64 rfl (lv_at hl 0 rfl) ?_
    refine lv_if_ge (tgt := 72) hx hb dX12_known_65 (by decide) (fun c_65 => ?_) (fun c_65 => ?_)
    · replace h := ez_ifp h c_65
      refine lv_iload_n hx hb dX12_known_72 rfl (lv_at hl 0 rfl) ?_
      exact K_73  σ x1 _ _ _ hS h (lv_sub hl [] rfl)
    · replace h := ez_ifn h c_65
      refine lv_iconst (v := 0) hx hb dX12_known_68 (by decide) ?_
      refine lv_goto (tgt := 73) hx hb dX12_known_69 (by decide) ?_
      exact K_73  σ (0 : Int32) _ _ _ hS h (lv_sub hl [] rfl)
  refine lv_aload_n hx hb dX12_known_0 rfl (lv_at hl 0 rfl) ?_
  refine ez_cVpi (As := []) (rest := []) h (fun _ q => c_X12_isGood q) hC k_X12_isGood ql_RX12_251 rfl (by decide) hS (fun _ q => ez_rcv q) rfl hl.1 rfl (Nat.le_of_ble_eq_true rfl) ⟨Nat.zero_le _, Nat.zero_le _⟩ dX12_known_1 (fun t_1 H locs hS h => ?_)
  refine lv_if_ne (tgt := 9) hx hb dX12_known_4 (by decide) (fun c_4 => ?_) (fun c_4 => ?_)
  · replace h := ez_ifn h c_4
    refine lv_aload_n hx hb dX12_known_9 rfl (lv_at hl 0 rfl) ?_
    refine eg_RX12_223 hC hS h dX12_known_10 (fun t_10 h => ?_)
    refine lv_iconst (v := 2) hx hb dX12_known_13 (by decide) ?_
    refine lv_icmp_eq (tgt := 24) hx hb dX12_known_14 (by decide) (fun c_14 => ?_) (fun c_14 => ?_)
    · replace h := ez_ifp h c_14
      refine lv_iload_n hx hb dX12_known_24 rfl (lv_at hl 1 rfl) ?_
      refine lv_if_ge (tgt := 40) hx hb dX12_known_25 (by decide) (fun c_25 => ?_) (fun c_25 => ?_)
      · replace h := ez_ifp h c_25
        refine lv_iload_n hx hb dX12_known_40 rfl (lv_at hl 2 rfl) ?_
        refine lv_iload_n hx hb dX12_known_41 rfl (lv_at hl 1 rfl) ?_
        refine ez_cSpi (As := [.int x2, .int x1]) (rest := []) h (fun _ q => c_X12_bit q) hC k_X12_bit ql_RX12_261 rfl (by decide) hS hl.1 rfl (Nat.le_of_ble_eq_true rfl) ⟨Nat.zero_le _, Nat.zero_le _⟩ dX12_known_42 (fun t_42 H locs hS h => ?_)
        refine lv_if_eq (tgt := 60) hx hb dX12_known_45 (by decide) (fun c_45 => ?_) (fun c_45 => ?_)
        · replace h := ez_ifp h c_45
          refine lv_aload_n hx hb dX12_known_60 rfl (lv_at hl 0 rfl) ?_
          refine ez_cVv (As := []) (rest := []) h (fun _ q => c_X12_goOn q) hC k_X12_goOn ql_RX12_255 rfl (by decide) hS (fun _ q => ez_rcv q) rfl hl.1 rfl (Nat.le_of_ble_eq_true rfl) ⟨Nat.zero_le _, Nat.zero_le _⟩ dX12_known_61 (fun _ σ H locs hS h => ?_)
          exact K_64  σ x1 _ _ _ hS h (lv_sub hl [1] rfl)
        · replace h := ez_ifn h c_45
          refine lv_aload_n hx hb dX12_known_48 rfl (lv_at hl 0 rfl) ?_
          refine lv_iconst (v := 3) hx hb dX12_known_49 (by decide) ?_
          refine lv_aload_n hx hb dX12_known_50 rfl (lv_at hl 0 rfl) ?_
          refine eg_RX12_216 hC hS h dX12_known_51 (fun t_51 h => ?_)
          refine ez_cVv (As := [.int 3, .int t_51]) (rest := []) h (fun _ q => c_X12_fails q) hC k_X12_fails ql_RX12_247 rfl (by decide) hS (fun _ q => ez_rcv q) rfl hl.1 rfl (Nat.le_of_ble_eq_true rfl) ⟨Nat.zero_le _, Nat.zero_le _⟩ dX12_known_54 (fun _ σ H locs hS h => ?_)
          refine lv_goto (tgt := 64) hx hb dX12_known_57 (by decide) ?_
          exact K_64  σ x1 _ _ _ hS h (lv_sub hl [1] rfl)
      · replace h := ez_ifn h c_25
        refine lv_aload_n hx hb dX12_known_28 rfl (lv_at hl 0 rfl) ?_
        refine lv_iconst (v := 5) hx hb dX12_known_29 (by decide) ?_
        refine lv_aload_n hx hb dX12_known_30 rfl (lv_at hl 0 rfl) ?_
        refine eg_RX12_216 hC hS h dX12_known_31 (fun t_31 h => ?_)
        refine ez_cVv (As := [.int 5, .int t_31]) (rest := []) h (fun _ q => c_X12_fails q) hC k_X12_fails ql_RX12_247 rfl (by decide) hS (fun _ q => ez_rcv q) rfl hl.1 rfl (Nat.le_of_ble_eq_true rfl) ⟨Nat.zero_le _, Nat.zero_le _⟩ dX12_known_34 (fun _ σ H locs hS h => ?_)
        refine lv_goto (tgt := 64) hx hb dX12_known_37 (by decide) ?_
        exact K_64  σ x1 _ _ _ hS h (lv_sub hl [1] rfl)
    · replace h := ez_ifn h c_14
      refine lv_aload_n hx hb dX12_known_17 rfl (lv_at hl 0 rfl) ?_
      refine ez_cVv (As := []) (rest := []) h (fun _ q => c_X12_misplaced q) hC k_X12_misplaced ql_RX12_258 rfl (by decide) hS (fun _ q => ez_rcv q) rfl hl.1 rfl (Nat.le_of_ble_eq_true rfl) ⟨Nat.zero_le _, Nat.zero_le _⟩ dX12_known_18 (fun _ σ H locs hS h => ?_)
      refine lv_goto (tgt := 64) hx hb dX12_known_21 (by decide) ?_
      exact K_64  σ x1 _ _ _ hS h (lv_sub hl [1] rfl)
  · replace h := ez_ifp h c_4
    refine lv_iconst (v := 0) hx hb dX12_known_7 (by decide) ?_
    exact hret _ _ _ _ _ _ (Option.some.inj h) rfl hS dX12_known_8
set_option maxHeartbeats 4000000 in
set_option maxRecDepth 100000 in
theorem c_X12_readDoor {l : Launch} {X : ez_X} {B : Nat} {σ : ez_H} {h0 : Nat} {z : Unit × ez_H} (h : z_X12_readDoor σ h0 = some z) : ez_M l X B σ yX12_readDoor cX12_readDoor 2 (none) 3 [.ref (B + h0)] (none) z.2 := by
  refine ez_startv (z := z) (by decide) (Nat.le_of_ble_eq_true rfl) (fun p e R s m args below meth c Q hC hret hS ls hl => ?_)
  have hC : ez_C p R s m args c X B RX12 cX12_readDoor 2 3 := hC
  have hx := hC.1.1
  have hb := hC.1.2.1
  have hown := hC.1.2.2.2.1
  have hts := hC.1.2.2.2.2
  have hl : lv_has ls 2 [(0, .ref (B + h0))] := hl
  obtain ⟨σ0, eσ⟩ : ∃ σ0 : ez_H, σ0 = σ := ⟨_, rfl⟩
  rw [← eσ] at hret
  have hS : ez_S X B s.heap σ0.length σ s.heap [] := eσ ▸ hS
  obtain ⟨-, h⟩ := ez_in h
  refine lv_bipush (v := 8) hx hb dX12_readDoor_0 (by decide) ?_
  refine lv_aload_n hx hb dX12_readDoor_2 rfl (lv_at hl 0 rfl) ?_
  refine eg_RX12_265 hC hS h dX12_readDoor_3 (fun t_3 h => ?_)
  refine lv_imul hx hb dX12_readDoor_6 ?_
  refine ez_top h (fun t_6 h => ?_)
  refine lv_aload_n hx hb dX12_readDoor_7 rfl (lv_at hl 0 rfl) ?_
  refine eg_RX12_39 hC hS h dX12_readDoor_8 (fun t_8 h => ?_)
  refine lv_aload_n hx hb dX12_readDoor_11 rfl (lv_at hl 0 rfl) ?_
  refine eg_RX12_265 hC hS h dX12_readDoor_12 (fun t_12 h => ?_)
  refine ez_ial hC hS h dX12_readDoor_15 (fun t_15 h => ?_)
  refine lv_iadd hx hb dX12_readDoor_16 ?_
  refine ez_top h (fun t_16 h => ?_)
  refine lv_istore_n (lv' := [(1, .int t_16), (0, .ref (B + h0))]) hx hb dX12_readDoor_17 rfl hl (by decide) rfl (fun ls hl => ?_)
  refine lv_aload_n hx hb dX12_readDoor_18 rfl (lv_at hl 1 rfl) ?_
  refine eg_RX12_97 hC hS h dX12_readDoor_19 (fun t_19 h => ?_)
  refine lv_iload_n hx hb dX12_readDoor_22 rfl (lv_at hl 0 rfl) ?_
  refine lv_aload_n hx hb dX12_readDoor_23 rfl (lv_at hl 1 rfl) ?_
  refine lv_aload_n hx hb dX12_readDoor_24 rfl (lv_at hl 1 rfl) ?_
  refine lv_aload_n hx hb dX12_readDoor_25 rfl (lv_at hl 1 rfl) ?_
  refine eg_RX12_97 hC hS h dX12_readDoor_26 (fun t_26 h => ?_)
  refine lv_bipush (v := 8) hx hb dX12_readDoor_29 (by decide) ?_
  refine lv_aload_n hx hb dX12_readDoor_31 rfl (lv_at hl 1 rfl) ?_
  refine eg_RX12_265 hC hS h dX12_readDoor_32 (fun t_32 h => ?_)
  refine lv_imul hx hb dX12_readDoor_35 ?_
  refine ez_top h (fun t_35 h => ?_)
  refine lv_aload_n hx hb dX12_readDoor_36 rfl (lv_at hl 1 rfl) ?_
  refine eg_RX12_39 hC hS h dX12_readDoor_37 (fun t_37 h => ?_)
  refine lv_aload_n hx hb dX12_readDoor_40 rfl (lv_at hl 1 rfl) ?_
  refine eg_RX12_265 hC hS h dX12_readDoor_41 (fun t_41 h => ?_)
  refine ez_ial hC hS h dX12_readDoor_44 (fun t_44 h => ?_)
  refine ez_cVpi (As := [.ref (B + t_26), .int t_35, .int t_44]) (rest := [.ref (B + h0), .int t_16, .ref (B + t_19)]) h (fun _ q => c_X12_here q) hC k_X12_here ql_RX12_325 rfl (by decide) hS (fun _ q => ez_rcv q) rfl hl.1 rfl (Nat.le_of_ble_eq_true rfl) ⟨Nat.zero_le _, Nat.zero_le _⟩ dX12_readDoor_45 (fun t_45 H locs hS h => ?_)
  refine ez_cVl (As := [.int t_45]) (rest := [.int t_16, .ref (B + t_19)]) h (fun _ q => c_X12_fresh q) hC k_X12_fresh ql_RX12_333 rfl (by decide) hS (fun _ q => ez_rcv q) rfl hl.1 rfl (Nat.le_of_ble_eq_true rfl) ⟨Nat.zero_le _, Nat.zero_le _⟩ dX12_readDoor_48 (fun t_48 σ H locs hS h => ?_)
  refine ez_las hC hS h dX12_readDoor_51 (fun σ H locs hS h => ?_)
  refine lv_aload_n hx hb dX12_readDoor_52 rfl (lv_at hl 1 rfl) ?_
  refine lv_aload_n hx hb dX12_readDoor_53 rfl (lv_at hl 1 rfl) ?_
  refine lv_ldc2 hx hb hown (hts _ qc_RX12_181) dX12_readDoor_54 ?_
  refine ez_cVpi (As := [.long 1718775661]) (rest := [.ref (B + h0)]) h (fun _ q => c_X12_isWord q) hC k_X12_isWord ql_RX12_280 rfl (by decide) hS (fun _ q => ez_rcv q) rfl hl.1 rfl (Nat.le_of_ble_eq_true rfl) ⟨Nat.zero_le _, Nat.zero_le _⟩ dX12_readDoor_57 (fun t_57 H locs hS h => ?_)
  refine ez_cVv (As := [.int t_57]) (rest := []) h (fun _ q => c_X12_must q) hC k_X12_must ql_RX12_321 rfl (by decide) hS (fun _ q => ez_rcv q) rfl hl.1 rfl (Nat.le_of_ble_eq_true rfl) ⟨Nat.zero_le _, Nat.zero_le _⟩ dX12_readDoor_60 (fun _ σ H locs hS h => ?_)
  refine lv_aload_n hx hb dX12_readDoor_63 rfl (lv_at hl 1 rfl) ?_
  refine eg_RX12_60 hC hS h dX12_readDoor_64 (fun t_64 h => ?_)
  refine lv_iload_n hx hb dX12_readDoor_67 rfl (lv_at hl 0 rfl) ?_
  refine lv_aload_n hx hb dX12_readDoor_68 rfl (lv_at hl 1 rfl) ?_
  refine lv_aload_n hx hb dX12_readDoor_69 rfl (lv_at hl 1 rfl) ?_
  refine ez_cVpi (As := []) (rest := [.ref (B + h0), .int t_16, .ref (B + t_64)]) h (fun _ q => c_X12_roomHere q) hC k_X12_roomHere ql_RX12_343 rfl (by decide) hS (fun _ q => ez_rcv q) rfl hl.1 rfl (Nat.le_of_ble_eq_true rfl) ⟨Nat.zero_le _, Nat.zero_le _⟩ dX12_readDoor_70 (fun t_70 H locs hS h => ?_)
  refine lv_iconst (v := 0) hx hb dX12_readDoor_73 (by decide) ?_
  refine ez_cVi (As := [.int t_70, .int 0]) (rest := [.int t_16, .ref (B + t_64)]) h (fun _ q => c_X12_known q) hC k_X12_known ql_RX12_346 rfl (by decide) hS (fun _ q => ez_rcv q) rfl hl.1 rfl (Nat.le_of_ble_eq_true rfl) ⟨Nat.zero_le _, Nat.zero_le _⟩ dX12_readDoor_74 (fun t_74 σ H locs hS h => ?_)
  refine ez_ias hC hS h dX12_readDoor_77 (fun σ H locs hS h => ?_)
  refine lv_aload_n hx hb dX12_readDoor_78 rfl (lv_at hl 1 rfl) ?_
  refine lv_aload_n hx hb dX12_readDoor_79 rfl (lv_at hl 1 rfl) ?_
  refine lv_ldc2 hx hb hown (hts _ qc_RX12_183) dX12_readDoor_80 ?_
  refine ez_cVpi (As := [.long 29807]) (rest := [.ref (B + h0)]) h (fun _ q => c_X12_isWord q) hC k_X12_isWord ql_RX12_280 rfl (by decide) hS (fun _ q => ez_rcv q) rfl hl.1 rfl (Nat.le_of_ble_eq_true rfl) ⟨Nat.zero_le _, Nat.zero_le _⟩ dX12_readDoor_83 (fun t_83 H locs hS h => ?_)
  refine ez_cVv (As := [.int t_83]) (rest := []) h (fun _ q => c_X12_must q) hC k_X12_must ql_RX12_321 rfl (by decide) hS (fun _ q => ez_rcv q) rfl hl.1 rfl (Nat.le_of_ble_eq_true rfl) ⟨Nat.zero_le _, Nat.zero_le _⟩ dX12_readDoor_86 (fun _ σ H locs hS h => ?_)
  refine lv_aload_n hx hb dX12_readDoor_89 rfl (lv_at hl 1 rfl) ?_
  refine eg_RX12_63 hC hS h dX12_readDoor_90 (fun t_90 h => ?_)
  refine lv_iload_n hx hb dX12_readDoor_93 rfl (lv_at hl 0 rfl) ?_
  refine lv_aload_n hx hb dX12_readDoor_94 rfl (lv_at hl 1 rfl) ?_
  refine lv_aload_n hx hb dX12_readDoor_95 rfl (lv_at hl 1 rfl) ?_
  refine ez_cVpi (As := []) (rest := [.ref (B + h0), .int t_16, .ref (B + t_90)]) h (fun _ q => c_X12_roomHere q) hC k_X12_roomHere ql_RX12_343 rfl (by decide) hS (fun _ q => ez_rcv q) rfl hl.1 rfl (Nat.le_of_ble_eq_true rfl) ⟨Nat.zero_le _, Nat.zero_le _⟩ dX12_readDoor_96 (fun t_96 H locs hS h => ?_)
  refine lv_iconst (v := 1) hx hb dX12_readDoor_99 (by decide) ?_
  refine lv_aload_n hx hb dX12_readDoor_100 rfl (lv_at hl 1 rfl) ?_
  refine eg_RX12_60 hC hS h dX12_readDoor_101 (fun t_101 h => ?_)
  refine lv_iload_n hx hb dX12_readDoor_104 rfl (lv_at hl 0 rfl) ?_
  refine ez_ial hC hS h dX12_readDoor_105 (fun t_105 h => ?_)
  refine lv_ishl hx hb dX12_readDoor_106 ?_
  refine ez_top h (fun t_106 h => ?_)
  refine ez_cVi (As := [.int t_96, .int t_106]) (rest := [.int t_16, .ref (B + t_90)]) h (fun _ q => c_X12_known q) hC k_X12_known ql_RX12_346 rfl (by decide) hS (fun _ q => ez_rcv q) rfl hl.1 rfl (Nat.le_of_ble_eq_true rfl) ⟨Nat.zero_le _, Nat.zero_le _⟩ dX12_readDoor_107 (fun t_107 σ H locs hS h => ?_)
  refine ez_ias hC hS h dX12_readDoor_110 (fun σ H locs hS h => ?_)
  refine lv_aload_n hx hb dX12_readDoor_111 rfl (lv_at hl 1 rfl) ?_
  refine lv_aload_n hx hb dX12_readDoor_112 rfl (lv_at hl 1 rfl) ?_
  refine lv_ldc2 hx hb hown (hts _ qc_RX12_175) dX12_readDoor_113 ?_
  refine ez_cVpi (As := [.long 1819239275]) (rest := [.ref (B + h0)]) h (fun _ q => c_X12_isWord q) hC k_X12_isWord ql_RX12_280 rfl (by decide) hS (fun _ q => ez_rcv q) rfl hl.1 rfl (Nat.le_of_ble_eq_true rfl) ⟨Nat.zero_le _, Nat.zero_le _⟩ dX12_readDoor_116 (fun t_116 H locs hS h => ?_)
  refine ez_cVv (As := [.int t_116]) (rest := []) h (fun _ q => c_X12_must q) hC k_X12_must ql_RX12_321 rfl (by decide) hS (fun _ q => ez_rcv q) rfl hl.1 rfl (Nat.le_of_ble_eq_true rfl) ⟨Nat.zero_le _, Nat.zero_le _⟩ dX12_readDoor_119 (fun _ σ H locs hS h => ?_)
  refine lv_aload_n hx hb dX12_readDoor_122 rfl (lv_at hl 1 rfl) ?_
  refine eg_RX12_66 hC hS h dX12_readDoor_123 (fun t_123 h => ?_)
  refine lv_iload_n hx hb dX12_readDoor_126 rfl (lv_at hl 0 rfl) ?_
  refine lv_aload_n hx hb dX12_readDoor_127 rfl (lv_at hl 1 rfl) ?_
  refine lv_aload_n hx hb dX12_readDoor_128 rfl (lv_at hl 1 rfl) ?_
  refine ez_cVpi (As := []) (rest := [.ref (B + h0), .int t_16, .ref (B + t_123)]) h (fun _ q => c_X12_lockHere q) hC k_X12_lockHere ql_RX12_340 rfl (by decide) hS (fun _ q => ez_rcv q) rfl hl.1 rfl (Nat.le_of_ble_eq_true rfl) ⟨Nat.zero_le _, Nat.zero_le _⟩ dX12_readDoor_129 (fun t_129 H locs hS h => ?_)
  refine lv_iconst (v := 0) hx hb dX12_readDoor_132 (by decide) ?_
  refine ez_cVi (As := [.int t_129, .int 0]) (rest := [.int t_16, .ref (B + t_123)]) h (fun _ q => c_X12_known q) hC k_X12_known ql_RX12_346 rfl (by decide) hS (fun _ q => ez_rcv q) rfl hl.1 rfl (Nat.le_of_ble_eq_true rfl) ⟨Nat.zero_le _, Nat.zero_le _⟩ dX12_readDoor_133 (fun t_133 σ H locs hS h => ?_)
  refine ez_ias hC hS h dX12_readDoor_136 (fun σ H locs hS h => ?_)
  refine lv_aload_n hx hb dX12_readDoor_137 rfl (lv_at hl 1 rfl) ?_
  refine eg_RX12_39 hC hS h dX12_readDoor_138 (fun t_138 h => ?_)
  refine lv_aload_n hx hb dX12_readDoor_141 rfl (lv_at hl 1 rfl) ?_
  refine eg_RX12_265 hC hS h dX12_readDoor_142 (fun t_142 h => ?_)
  refine lv_dup2_11 hx hb dX12_readDoor_145 rfl rfl ?_
  refine ez_ial hC hS h dX12_readDoor_146 (fun t_146 h => ?_)
  refine lv_iconst (v := 1) hx hb dX12_readDoor_147 (by decide) ?_
  refine lv_iadd hx hb dX12_readDoor_148 ?_
  refine ez_top h (fun t_148 h => ?_)
  refine ez_ias hC hS h dX12_readDoor_149 (fun σ H locs hS h => ?_)
  exact hret _ _ _ _ _ _ (Option.some.inj h) hS dX12_readDoor_150
set_option maxHeartbeats 4000000 in
set_option maxRecDepth 100000 in
theorem c_X12_heldSet {l : Launch} {X : ez_X} {B : Nat} {σ : ez_H} {h0 : Nat} {z : Int32} (h : z_X12_heldSet σ h0 = some z) : ez_M l X B σ yX12_heldSet cX12_heldSet 3 (some .int) 0 [.ref (B + h0)] (some (.int z)) σ := by
  refine ez_startip (z := z) (by decide) (Nat.le_of_ble_eq_true rfl) (fun p e R s m args below meth c Q hC hret hS ls hl => ?_)
  have hC : ez_C p R s m args c X B RX12 cX12_heldSet 3 0 := hC
  have hx := hC.1.1
  have hb := hC.1.2.1
  have hown := hC.1.2.2.2.1
  have hts := hC.1.2.2.2.2
  have hl : lv_has ls 3 [(0, .ref (B + h0))] := hl
  obtain ⟨n0, e0⟩ : ∃ n0 : Nat, n0 = σ.length := ⟨_, rfl⟩
  rw [← e0] at hret hS
  obtain ⟨-, h⟩ := ez_in h
  have K_40 : ∀ (k_4 : Nat → Int32 → Int32 → Option (Int32)) (hk_4 : ∀ (h0 : Nat) (x1 : Int32) (x2 : Int32) (H : Heap) (locs : List Loc) (ls : Array Slot), ez_S X B s.heap (n0) σ H locs → k_4 h0 x1 x2 = some z → lv_has ls 3 [(0, .ref (B + h0)), (1, .int x1), (2, .int x2)] → W p l e R s m args below meth c H locs 0 0 Q (F0 m 4 ls [])), ∀ (h0 : Nat) (x1 : Int32) (x2 : Int32) (H : Heap) (locs : List Loc) (ls : Array Slot), ez_S X B s.heap (n0) σ H locs → z_X12_heldSet_40 σ k_4 h0 x1 x2 = some z → lv_has ls 3 [(0, .ref (B + h0)), (1, .int x1), (2, .int x2)] → W p l e R s m args below meth c H locs 0 0 Q (F0 m 40 ls []) := by
    intro k_4 hk_4 h0 x1 x2 H locs ls hS h hl
    obtain ⟨t_40, e_40, h⟩ := ez_let_sp h
    refine lv_iinc (v := t_40) (lv' := [(2, .int t_40), (0, .ref (B + h0)), (1, .int x1)]) hx hb dX12_heldSet_40 hl (k := 2) rfl (by rw [e_40]; rfl) (by decide) rfl (fun ls hl => ?_)
    refine lv_goto (tgt := 4) hx hb dX12_heldSet_43 (by decide) ?_
    exact hk_4 h0 x1 t_40 _ _ _ hS h (lv_sub hl [1, 2, 0] rfl)
  have K_4 : ∀ (k_4 : Nat → Int32 → Int32 → Option (Int32)) (hk_4 : ∀ (h0 : Nat) (x1 : Int32) (x2 : Int32) (H : Heap) (locs : List Loc) (ls : Array Slot), ez_S X B s.heap (n0) σ H locs → k_4 h0 x1 x2 = some z → lv_has ls 3 [(0, .ref (B + h0)), (1, .int x1), (2, .int x2)] → W p l e R s m args below meth c H locs 0 0 Q (F0 m 4 ls [])), ∀ (h0 : Nat) (x1 : Int32) (x2 : Int32) (H : Heap) (locs : List Loc) (ls : Array Slot), ez_S X B s.heap (n0) σ H locs → z_X12_heldSet_4 σ k_4 h0 x1 x2 = some z → lv_has ls 3 [(0, .ref (B + h0)), (1, .int x1), (2, .int x2)] → W p l e R s m args below meth c H locs 0 0 Q (F0 m 4 ls []) := by
    intro k_4 hk_4 h0 x1 x2 H locs ls hS h hl
    refine lv_iload_n hx hb dX12_heldSet_4 rfl (lv_at hl 2 rfl) ?_
    refine lv_aload_n hx hb dX12_heldSet_5 rfl (lv_at hl 0 rfl) ?_
    refine eg_RX12_30 hC hS h dX12_heldSet_6 (fun t_6 h => ?_)
    refine lv_aload_n hx hb dX12_heldSet_9 rfl (lv_at hl 0 rfl) ?_
    refine eg_RX12_265 hC hS h dX12_heldSet_10 (fun t_10 h => ?_)
    refine ez_ial hC hS h dX12_heldSet_13 (fun t_13 h => ?_)
    refine lv_icmp_ge (tgt := 46) hx hb dX12_heldSet_14 (by decide) (fun c_14 => ?_) (fun c_14 => ?_)
    · replace h := ez_ifp h c_14
      refine lv_iload_n hx hb dX12_heldSet_46 rfl (lv_at hl 1 rfl) ?_
      exact hret _ _ _ _ _ (Option.some.inj h) rfl hS dX12_heldSet_47
    · replace h := ez_ifn h c_14
      refine lv_aload_n hx hb dX12_heldSet_17 rfl (lv_at hl 0 rfl) ?_
      refine eg_RX12_72 hC hS h dX12_heldSet_18 (fun t_18 h => ?_)
      refine lv_bipush (v := 8) hx hb dX12_heldSet_21 (by decide) ?_
      refine lv_aload_n hx hb dX12_heldSet_23 rfl (lv_at hl 0 rfl) ?_
      refine eg_RX12_265 hC hS h dX12_heldSet_24 (fun t_24 h => ?_)
      refine lv_imul hx hb dX12_heldSet_27 ?_
      refine ez_top h (fun t_27 h => ?_)
      refine lv_iload_n hx hb dX12_heldSet_28 rfl (lv_at hl 2 rfl) ?_
      refine lv_iadd hx hb dX12_heldSet_29 ?_
      refine ez_top h (fun t_29 h => ?_)
      refine ez_ial hC hS h dX12_heldSet_30 (fun t_30 h => ?_)
      refine lv_if_lt (tgt := 40) hx hb dX12_heldSet_31 (by decide) (fun c_31 => ?_) (fun c_31 => ?_)
      · replace h := ez_ifp h c_31
        exact K_40 k_4 hk_4 h0 x1 x2 _ _ _ hS h (lv_sub hl [0, 1, 2] rfl)
      · replace h := ez_ifn h c_31
        refine lv_iload_n hx hb dX12_heldSet_34 rfl (lv_at hl 1 rfl) ?_
        refine lv_iconst (v := 1) hx hb dX12_heldSet_35 (by decide) ?_
        refine lv_iload_n hx hb dX12_heldSet_36 rfl (lv_at hl 2 rfl) ?_
        refine lv_ishl hx hb dX12_heldSet_37 ?_
        refine ez_top h (fun t_37 h => ?_)
        refine lv_ior hx hb dX12_heldSet_38 ?_
        refine ez_top h (fun t_38 h => ?_)
        refine lv_istore_n (lv' := [(1, .int t_38), (0, .ref (B + h0)), (2, .int x2)]) hx hb dX12_heldSet_39 rfl hl (by decide) rfl (fun ls hl => ?_)
        exact K_40 k_4 hk_4 h0 t_38 x2 _ _ _ hS h (lv_sub hl [1, 0, 2] rfl)
  have E_4 : ∀ (h0 : Nat) (x1 : Int32) (x2 : Int32) (H : Heap) (locs : List Loc) (ls : Array Slot), ez_S X B s.heap (n0) σ H locs → (ez_fix (fun _ _ _ => none) (z_X12_heldSet_4 σ) ez_N) h0 x1 x2 = some z → lv_has ls 3 [(0, .ref (B + h0)), (1, .int x1), (2, .int x2)] → W p l e R s m args below meth c H locs 0 0 Q (F0 m 4 ls []) := ez_fix_ind (fun k_4 : Nat → Int32 → Int32 → Option (Int32) => ∀ (h0 : Nat) (x1 : Int32) (x2 : Int32) (H : Heap) (locs : List Loc) (ls : Array Slot), ez_S X B s.heap (n0) σ H locs → k_4 h0 x1 x2 = some z → lv_has ls 3 [(0, .ref (B + h0)), (1, .int x1), (2, .int x2)] → W p l e R s m args below meth c H locs 0 0 Q (F0 m 4 ls [])) (fun _ _ _ _ _ _ _ h _ => by cases h) (fun k_4 hk_4 => K_4 k_4 hk_4) ez_N
  refine lv_iconst (v := 0) hx hb dX12_heldSet_0 (by decide) ?_
  refine lv_istore_n (lv' := [(1, .int 0), (0, .ref (B + h0))]) hx hb dX12_heldSet_1 rfl hl (by decide) rfl (fun ls hl => ?_)
  refine lv_iconst (v := 0) hx hb dX12_heldSet_2 (by decide) ?_
  refine lv_istore_n (lv' := [(2, .int 0), (1, .int 0), (0, .ref (B + h0))]) hx hb dX12_heldSet_3 rfl hl (by decide) rfl (fun ls hl => ?_)
  exact E_4  h0 (0 : Int32) (0 : Int32) _ _ _ hS h (lv_sub hl [2, 1, 0] rfl)
set_option maxHeartbeats 4000000 in
set_option maxRecDepth 100000 in
theorem c_X12_readPerson {l : Launch} {X : ez_X} {B : Nat} {σ : ez_H} {h0 : Nat} {z : Unit × ez_H} (h : z_X12_readPerson σ h0 = some z) : ez_M l X B σ yX12_readPerson cX12_readPerson 4 (none) 3 [.ref (B + h0)] (none) z.2 := by
  refine ez_startv (z := z) (by decide) (Nat.le_of_ble_eq_true rfl) (fun p e R s m args below meth c Q hC hret hS ls hl => ?_)
  have hC : ez_C p R s m args c X B RX12 cX12_readPerson 4 3 := hC
  have hx := hC.1.1
  have hb := hC.1.2.1
  have hown := hC.1.2.2.2.1
  have hts := hC.1.2.2.2.2
  have hl : lv_has ls 4 [(0, .ref (B + h0))] := hl
  obtain ⟨σ0, eσ⟩ : ∃ σ0 : ez_H, σ0 = σ := ⟨_, rfl⟩
  rw [← eσ] at hret
  have hS : ez_S X B s.heap σ0.length σ s.heap [] := eσ ▸ hS
  obtain ⟨-, h⟩ := ez_in h
  have K_163 : ∀ (σ : ez_H) (h0 : Nat) (H : Heap) (locs : List Loc) (ls : Array Slot), ez_S X B s.heap (σ0.length) σ H locs → z_X12_readPerson_163 σ h0 = some z → lv_has ls 4 [(0, .ref (B + h0))] → W p l e R s m args below meth c H locs 0 0 Q (F0 m 163 ls []) := by
    intro σ h0 H locs ls hS h hl
    refine lv_aload_n hx hb dX12_readPerson_163 rfl (lv_at hl 0 rfl) ?_
    refine eg_RX12_42 hC hS h dX12_readPerson_164 (fun t_164 h => ?_)
    refine lv_aload_n hx hb dX12_readPerson_167 rfl (lv_at hl 0 rfl) ?_
    refine eg_RX12_265 hC hS h dX12_readPerson_168 (fun t_168 h => ?_)
    refine lv_dup2_11 hx hb dX12_readPerson_171 rfl rfl ?_
    refine ez_ial hC hS h dX12_readPerson_172 (fun t_172 h => ?_)
    refine lv_iconst (v := 1) hx hb dX12_readPerson_173 (by decide) ?_
    refine lv_iadd hx hb dX12_readPerson_174 ?_
    refine ez_top h (fun t_174 h => ?_)
    refine ez_ias hC hS h dX12_readPerson_175 (fun σ H locs hS h => ?_)
    exact hret _ _ _ _ _ _ (Option.some.inj h) hS dX12_readPerson_176
  have K_159 : ∀ (k_99 : ez_H → Nat → Int32 → Option (Unit × ez_H)) (hk_99 : ∀ (σ : ez_H) (h0 : Nat) (x2 : Int32) (H : Heap) (locs : List Loc) (ls : Array Slot), ez_S X B s.heap (σ0.length) σ H locs → k_99 σ h0 x2 = some z → lv_has ls 4 [(0, .ref (B + h0)), (2, .int x2)] → W p l e R s m args below meth c H locs 0 0 Q (F0 m 99 ls [])), ∀ (σ : ez_H) (h0 : Nat) (y0 : Int32) (H : Heap) (locs : List Loc) (ls : Array Slot), ez_S X B s.heap (σ0.length) σ H locs → z_X12_readPerson_159 k_99 σ h0 y0 = some z → lv_has ls 4 [(0, .ref (B + h0))] → W p l e R s m args below meth c H locs 0 0 Q (F0 m 159 ls [.int y0]) := by
    intro k_99 hk_99 σ h0 y0 H locs ls hS h hl
    refine lv_istore_n (lv' := [(2, .int y0), (0, .ref (B + h0))]) hx hb dX12_readPerson_159 rfl hl (by decide) rfl (fun ls hl => ?_)
    refine lv_goto (tgt := 99) hx hb dX12_readPerson_160 (by decide) ?_
    exact hk_99 σ h0 y0 _ _ _ hS h (lv_sub hl [1, 0] rfl)
  have K_99 : ∀ (k_99 : ez_H → Nat → Int32 → Option (Unit × ez_H)) (hk_99 : ∀ (σ : ez_H) (h0 : Nat) (x2 : Int32) (H : Heap) (locs : List Loc) (ls : Array Slot), ez_S X B s.heap (σ0.length) σ H locs → k_99 σ h0 x2 = some z → lv_has ls 4 [(0, .ref (B + h0)), (2, .int x2)] → W p l e R s m args below meth c H locs 0 0 Q (F0 m 99 ls [])), ∀ (σ : ez_H) (h0 : Nat) (x2 : Int32) (H : Heap) (locs : List Loc) (ls : Array Slot), ez_S X B s.heap (σ0.length) σ H locs → z_X12_readPerson_99 k_99 σ h0 x2 = some z → lv_has ls 4 [(0, .ref (B + h0)), (2, .int x2)] → W p l e R s m args below meth c H locs 0 0 Q (F0 m 99 ls []) := by
    intro k_99 hk_99 σ h0 x2 H locs ls hS h hl
    refine lv_aload_n hx hb dX12_readPerson_99 rfl (lv_at hl 0 rfl) ?_
    refine ez_cVpi (As := []) (rest := []) h (fun _ q => c_X12_isGood q) hC k_X12_isGood ql_RX12_251 rfl (by decide) hS (fun _ q => ez_rcv q) rfl hl.1 rfl (Nat.le_of_ble_eq_true rfl) ⟨Nat.zero_le _, Nat.zero_le _⟩ dX12_readPerson_100 (fun t_100 H locs hS h => ?_)
    refine lv_if_eq (tgt := 163) hx hb dX12_readPerson_103 (by decide) (fun c_103 => ?_) (fun c_103 => ?_)
    · replace h := ez_ifp h c_103
      exact K_163  σ h0 _ _ _ hS h (lv_sub hl [0] rfl)
    · replace h := ez_ifn h c_103
      refine lv_iload_n hx hb dX12_readPerson_106 rfl (lv_at hl 1 rfl) ?_
      refine lv_if_eq (tgt := 163) hx hb dX12_readPerson_107 (by decide) (fun c_107 => ?_) (fun c_107 => ?_)
      · replace h := ez_ifp h c_107
        exact K_163  σ h0 _ _ _ hS h (lv_sub hl [0] rfl)
      · replace h := ez_ifn h c_107
        refine lv_aload_n hx hb dX12_readPerson_110 rfl (lv_at hl 0 rfl) ?_
        refine lv_aload_n hx hb dX12_readPerson_111 rfl (lv_at hl 0 rfl) ?_
        refine ez_cVpi (As := []) (rest := [.ref (B + h0)]) h (fun _ q => c_X12_keyHere q) hC k_X12_keyHere ql_RX12_329 rfl (by decide) hS (fun _ q => ez_rcv q) rfl hl.1 rfl (Nat.le_of_ble_eq_true rfl) ⟨Nat.zero_le _, Nat.zero_le _⟩ dX12_readPerson_112 (fun t_112 H locs hS h => ?_)
        refine lv_aload_n hx hb dX12_readPerson_115 rfl (lv_at hl 0 rfl) ?_
        refine ez_cVpi (As := []) (rest := [.int t_112, .ref (B + h0)]) h (fun _ q => c_X12_heldSet q) hC k_X12_heldSet ql_RX12_350 rfl (by decide) hS (fun _ q => ez_rcv q) rfl hl.1 rfl (Nat.le_of_ble_eq_true rfl) ⟨Nat.zero_le _, Nat.zero_le _⟩ dX12_readPerson_116 (fun t_116 H locs hS h => ?_)
        refine ez_cVi (As := [.int t_112, .int t_116]) (rest := []) h (fun _ q => c_X12_known q) hC k_X12_known ql_RX12_346 rfl (by decide) hS (fun _ q => ez_rcv q) rfl hl.1 rfl (Nat.le_of_ble_eq_true rfl) ⟨Nat.zero_le _, Nat.zero_le _⟩ dX12_readPerson_119 (fun t_119 σ H locs hS h => ?_)
        refine lv_istore_n (lv' := [(3, .int t_119), (0, .ref (B + h0)), (2, .int x2)]) hx hb dX12_readPerson_122 rfl hl (by decide) rfl (fun ls hl => ?_)
        refine lv_aload_n hx hb dX12_readPerson_123 rfl (lv_at hl 1 rfl) ?_
        refine eg_RX12_72 hC hS h dX12_readPerson_124 (fun t_124 h => ?_)
        refine lv_bipush (v := 8) hx hb dX12_readPerson_127 (by decide) ?_
        refine lv_aload_n hx hb dX12_readPerson_129 rfl (lv_at hl 1 rfl) ?_
        refine eg_RX12_265 hC hS h dX12_readPerson_130 (fun t_130 h => ?_)
        refine lv_imul hx hb dX12_readPerson_133 ?_
        refine ez_top h (fun t_133 h => ?_)
        refine lv_iload_n hx hb dX12_readPerson_134 rfl (lv_at hl 0 rfl) ?_
        refine lv_iadd hx hb dX12_readPerson_135 ?_
        refine ez_top h (fun t_135 h => ?_)
        refine lv_aload_n hx hb dX12_readPerson_136 rfl (lv_at hl 1 rfl) ?_
        refine eg_RX12_42 hC hS h dX12_readPerson_137 (fun t_137 h => ?_)
        refine lv_aload_n hx hb dX12_readPerson_140 rfl (lv_at hl 1 rfl) ?_
        refine eg_RX12_265 hC hS h dX12_readPerson_141 (fun t_141 h => ?_)
        refine ez_ial hC hS h dX12_readPerson_144 (fun t_144 h => ?_)
        refine ez_ias hC hS h dX12_readPerson_145 (fun σ H locs hS h => ?_)
        refine lv_aload_n hx hb dX12_readPerson_146 rfl (lv_at hl 1 rfl) ?_
        refine eg_RX12_223 hC hS h dX12_readPerson_147 (fun t_147 h => ?_)
        refine lv_iconst (v := 2) hx hb dX12_readPerson_150 (by decide) ?_
        refine lv_icmp_ne (tgt := 158) hx hb dX12_readPerson_151 (by decide) (fun c_151 => ?_) (fun c_151 => ?_)
        · replace h := ez_ifn h c_151
          refine lv_iconst (v := 0) hx hb dX12_readPerson_158 (by decide) ?_
          exact K_159 k_99 hk_99 σ h0 (0 : Int32) _ _ _ hS h (lv_sub hl [1] rfl)
        · replace h := ez_ifp h c_151
          refine lv_iconst (v := 1) hx hb dX12_readPerson_154 (by decide) ?_
          refine lv_goto (tgt := 159) hx hb dX12_readPerson_155 (by decide) ?_
          exact K_159 k_99 hk_99 σ h0 (1 : Int32) _ _ _ hS h (lv_sub hl [1] rfl)
  have E_99 : ∀ (σ : ez_H) (h0 : Nat) (x2 : Int32) (H : Heap) (locs : List Loc) (ls : Array Slot), ez_S X B s.heap (σ0.length) σ H locs → (ez_fix (fun _ _ _ => none) (z_X12_readPerson_99) ez_N) σ h0 x2 = some z → lv_has ls 4 [(0, .ref (B + h0)), (2, .int x2)] → W p l e R s m args below meth c H locs 0 0 Q (F0 m 99 ls []) := ez_fix_ind (fun k_99 : ez_H → Nat → Int32 → Option (Unit × ez_H) => ∀ (σ : ez_H) (h0 : Nat) (x2 : Int32) (H : Heap) (locs : List Loc) (ls : Array Slot), ez_S X B s.heap (σ0.length) σ H locs → k_99 σ h0 x2 = some z → lv_has ls 4 [(0, .ref (B + h0)), (2, .int x2)] → W p l e R s m args below meth c H locs 0 0 Q (F0 m 99 ls [])) (fun _ _ _ _ _ _ _ h _ => by cases h) (fun k_99 hk_99 => K_99 k_99 hk_99) ez_N
  refine lv_iconst (v := 4) hx hb dX12_readPerson_0 (by decide) ?_
  refine lv_aload_n hx hb dX12_readPerson_1 rfl (lv_at hl 0 rfl) ?_
  refine eg_RX12_265 hC hS h dX12_readPerson_2 (fun t_2 h => ?_)
  refine lv_imul hx hb dX12_readPerson_5 ?_
  refine ez_top h (fun t_5 h => ?_)
  refine lv_aload_n hx hb dX12_readPerson_6 rfl (lv_at hl 0 rfl) ?_
  refine eg_RX12_42 hC hS h dX12_readPerson_7 (fun t_7 h => ?_)
  refine lv_aload_n hx hb dX12_readPerson_10 rfl (lv_at hl 0 rfl) ?_
  refine eg_RX12_265 hC hS h dX12_readPerson_11 (fun t_11 h => ?_)
  refine ez_ial hC hS h dX12_readPerson_14 (fun t_14 h => ?_)
  refine lv_iadd hx hb dX12_readPerson_15 ?_
  refine ez_top h (fun t_15 h => ?_)
  refine lv_istore_n (lv' := [(1, .int t_15), (0, .ref (B + h0))]) hx hb dX12_readPerson_16 rfl hl (by decide) rfl (fun ls hl => ?_)
  refine lv_aload_n hx hb dX12_readPerson_17 rfl (lv_at hl 1 rfl) ?_
  refine eg_RX12_100 hC hS h dX12_readPerson_18 (fun t_18 h => ?_)
  refine lv_iload_n hx hb dX12_readPerson_21 rfl (lv_at hl 0 rfl) ?_
  refine lv_aload_n hx hb dX12_readPerson_22 rfl (lv_at hl 1 rfl) ?_
  refine lv_aload_n hx hb dX12_readPerson_23 rfl (lv_at hl 1 rfl) ?_
  refine lv_aload_n hx hb dX12_readPerson_24 rfl (lv_at hl 1 rfl) ?_
  refine eg_RX12_100 hC hS h dX12_readPerson_25 (fun t_25 h => ?_)
  refine lv_iconst (v := 4) hx hb dX12_readPerson_28 (by decide) ?_
  refine lv_aload_n hx hb dX12_readPerson_29 rfl (lv_at hl 1 rfl) ?_
  refine eg_RX12_265 hC hS h dX12_readPerson_30 (fun t_30 h => ?_)
  refine lv_imul hx hb dX12_readPerson_33 ?_
  refine ez_top h (fun t_33 h => ?_)
  refine lv_aload_n hx hb dX12_readPerson_34 rfl (lv_at hl 1 rfl) ?_
  refine eg_RX12_42 hC hS h dX12_readPerson_35 (fun t_35 h => ?_)
  refine lv_aload_n hx hb dX12_readPerson_38 rfl (lv_at hl 1 rfl) ?_
  refine eg_RX12_265 hC hS h dX12_readPerson_39 (fun t_39 h => ?_)
  refine ez_ial hC hS h dX12_readPerson_42 (fun t_42 h => ?_)
  refine ez_cVpi (As := [.ref (B + t_25), .int t_33, .int t_42]) (rest := [.ref (B + h0), .int t_15, .ref (B + t_18)]) h (fun _ q => c_X12_here q) hC k_X12_here ql_RX12_325 rfl (by decide) hS (fun _ q => ez_rcv q) rfl hl.1 rfl (Nat.le_of_ble_eq_true rfl) ⟨Nat.zero_le _, Nat.zero_le _⟩ dX12_readPerson_43 (fun t_43 H locs hS h => ?_)
  refine ez_cVl (As := [.int t_43]) (rest := [.int t_15, .ref (B + t_18)]) h (fun _ q => c_X12_fresh q) hC k_X12_fresh ql_RX12_333 rfl (by decide) hS (fun _ q => ez_rcv q) rfl hl.1 rfl (Nat.le_of_ble_eq_true rfl) ⟨Nat.zero_le _, Nat.zero_le _⟩ dX12_readPerson_46 (fun t_46 σ H locs hS h => ?_)
  refine ez_las hC hS h dX12_readPerson_49 (fun σ H locs hS h => ?_)
  refine lv_aload_n hx hb dX12_readPerson_50 rfl (lv_at hl 1 rfl) ?_
  refine lv_aload_n hx hb dX12_readPerson_51 rfl (lv_at hl 1 rfl) ?_
  refine lv_ldc2 hx hb hown (hts _ qc_RX12_187) dX12_readPerson_52 ?_
  refine ez_cVpi (As := [.long 26990]) (rest := [.ref (B + h0)]) h (fun _ q => c_X12_isWord q) hC k_X12_isWord ql_RX12_280 rfl (by decide) hS (fun _ q => ez_rcv q) rfl hl.1 rfl (Nat.le_of_ble_eq_true rfl) ⟨Nat.zero_le _, Nat.zero_le _⟩ dX12_readPerson_55 (fun t_55 H locs hS h => ?_)
  refine ez_cVv (As := [.int t_55]) (rest := []) h (fun _ q => c_X12_must q) hC k_X12_must ql_RX12_321 rfl (by decide) hS (fun _ q => ez_rcv q) rfl hl.1 rfl (Nat.le_of_ble_eq_true rfl) ⟨Nat.zero_le _, Nat.zero_le _⟩ dX12_readPerson_58 (fun _ σ H locs hS h => ?_)
  refine lv_aload_n hx hb dX12_readPerson_61 rfl (lv_at hl 1 rfl) ?_
  refine eg_RX12_69 hC hS h dX12_readPerson_62 (fun t_62 h => ?_)
  refine lv_iload_n hx hb dX12_readPerson_65 rfl (lv_at hl 0 rfl) ?_
  refine lv_aload_n hx hb dX12_readPerson_66 rfl (lv_at hl 1 rfl) ?_
  refine lv_aload_n hx hb dX12_readPerson_67 rfl (lv_at hl 1 rfl) ?_
  refine ez_cVpi (As := []) (rest := [.ref (B + h0), .int t_15, .ref (B + t_62)]) h (fun _ q => c_X12_roomHere q) hC k_X12_roomHere ql_RX12_343 rfl (by decide) hS (fun _ q => ez_rcv q) rfl hl.1 rfl (Nat.le_of_ble_eq_true rfl) ⟨Nat.zero_le _, Nat.zero_le _⟩ dX12_readPerson_68 (fun t_68 H locs hS h => ?_)
  refine lv_iconst (v := 0) hx hb dX12_readPerson_71 (by decide) ?_
  refine ez_cVi (As := [.int t_68, .int 0]) (rest := [.int t_15, .ref (B + t_62)]) h (fun _ q => c_X12_known q) hC k_X12_known ql_RX12_346 rfl (by decide) hS (fun _ q => ez_rcv q) rfl hl.1 rfl (Nat.le_of_ble_eq_true rfl) ⟨Nat.zero_le _, Nat.zero_le _⟩ dX12_readPerson_72 (fun t_72 σ H locs hS h => ?_)
  refine ez_ias hC hS h dX12_readPerson_75 (fun σ H locs hS h => ?_)
  refine lv_aload_n hx hb dX12_readPerson_76 rfl (lv_at hl 1 rfl) ?_
  refine ez_cVpi (As := []) (rest := []) h (fun _ q => c_X12_isGood q) hC k_X12_isGood ql_RX12_251 rfl (by decide) hS (fun _ q => ez_rcv q) rfl hl.1 rfl (Nat.le_of_ble_eq_true rfl) ⟨Nat.zero_le _, Nat.zero_le _⟩ dX12_readPerson_77 (fun t_77 H locs hS h => ?_)
  refine lv_if_eq (tgt := 163) hx hb dX12_readPerson_80 (by decide) (fun c_80 => ?_) (fun c_80 => ?_)
  · replace h := ez_ifp h c_80
    exact K_163  σ h0 _ _ _ hS h (lv_sub hl [1] rfl)
  · replace h := ez_ifn h c_80
    refine lv_aload_n hx hb dX12_readPerson_83 rfl (lv_at hl 1 rfl) ?_
    refine lv_ldc2 hx hb hown (hts _ qc_RX12_189) dX12_readPerson_84 ?_
    refine ez_cVpi (As := [.long 448545973363]) (rest := []) h (fun _ q => c_X12_isWord q) hC k_X12_isWord ql_RX12_280 rfl (by decide) hS (fun _ q => ez_rcv q) rfl hl.1 rfl (Nat.le_of_ble_eq_true rfl) ⟨Nat.zero_le _, Nat.zero_le _⟩ dX12_readPerson_87 (fun t_87 H locs hS h => ?_)
    refine lv_if_eq (tgt := 163) hx hb dX12_readPerson_90 (by decide) (fun c_90 => ?_) (fun c_90 => ?_)
    · replace h := ez_ifp h c_90
      exact K_163  σ h0 _ _ _ hS h (lv_sub hl [1] rfl)
    · replace h := ez_ifn h c_90
      refine lv_aload_n hx hb dX12_readPerson_93 rfl (lv_at hl 1 rfl) ?_
      refine ez_cVv (As := []) (rest := []) h (fun _ q => c_X12_goOn q) hC k_X12_goOn ql_RX12_255 rfl (by decide) hS (fun _ q => ez_rcv q) rfl hl.1 rfl (Nat.le_of_ble_eq_true rfl) ⟨Nat.zero_le _, Nat.zero_le _⟩ dX12_readPerson_94 (fun _ σ H locs hS h => ?_)
      refine lv_iconst (v := 1) hx hb dX12_readPerson_97 (by decide) ?_
      refine lv_istore_n (lv' := [(2, .int 1), (1, .int t_15), (0, .ref (B + h0))]) hx hb dX12_readPerson_98 rfl hl (by decide) rfl (fun ls hl => ?_)
      exact E_99  σ h0 (1 : Int32) _ _ _ hS h (lv_sub hl [2, 0] rfl)
set_option maxHeartbeats 4000000 in
set_option maxRecDepth 100000 in
theorem c_X12_readRight {l : Launch} {X : ez_X} {B : Nat} {σ : ez_H} {h0 : Nat} {h1 : Nat} {z : Unit × ez_H} (h : z_X12_readRight σ h0 h1 = some z) : ez_M l X B σ yX12_readRight cX12_readRight 5 (none) 3 [.ref (B + h0), .ref (B + h1)] (none) z.2 := by
  refine ez_startv (z := z) (by decide) (Nat.le_of_ble_eq_true rfl) (fun p e R s m args below meth c Q hC hret hS ls hl => ?_)
  have hC : ez_C p R s m args c X B RX12 cX12_readRight 5 3 := hC
  have hx := hC.1.1
  have hb := hC.1.2.1
  have hown := hC.1.2.2.2.1
  have hts := hC.1.2.2.2.2
  have hl : lv_has ls 5 [(0, .ref (B + h0)), (1, .ref (B + h1))] := hl
  obtain ⟨σ0, eσ⟩ : ∃ σ0 : ez_H, σ0 = σ := ⟨_, rfl⟩
  rw [← eσ] at hret
  have hS : ez_S X B s.heap σ0.length σ s.heap [] := eσ ▸ hS
  obtain ⟨-, h⟩ := ez_in h
  have K_116 : ∀ (σ : ez_H) (H : Heap) (locs : List Loc) (ls : Array Slot), ez_S X B s.heap (σ0.length) σ H locs → z_X12_readRight_116 σ = some z → lv_has ls 5 [] → W p l e R s m args below meth c H locs 0 0 Q (F0 m 116 ls []) := by
    intro σ H locs ls hS h hl
    exact hret _ _ _ _ _ _ (Option.some.inj h) hS dX12_readRight_116
  have K_74 : ∀ (k_15 : ez_H → Nat → Nat → Int32 → Int32 → Int32 → Option (Unit × ez_H)) (hk_15 : ∀ (σ : ez_H) (h0 : Nat) (h1 : Nat) (x2 : Int32) (x3 : Int32) (x4 : Int32) (H : Heap) (locs : List Loc) (ls : Array Slot), ez_S X B s.heap (σ0.length) σ H locs → k_15 σ h0 h1 x2 x3 x4 = some z → lv_has ls 5 [(0, .ref (B + h0)), (1, .ref (B + h1)), (2, .int x2), (3, .int x3), (4, .int x4)] → W p l e R s m args below meth c H locs 0 0 Q (F0 m 15 ls [])), ∀ (σ : ez_H) (h0 : Nat) (h1 : Nat) (x2 : Int32) (x3 : Int32) (x4 : Int32) (H : Heap) (locs : List Loc) (ls : Array Slot), ez_S X B s.heap (σ0.length) σ H locs → z_X12_readRight_74 k_15 σ h0 h1 x2 x3 x4 = some z → lv_has ls 5 [(0, .ref (B + h0)), (1, .ref (B + h1)), (2, .int x2), (3, .int x3), (4, .int x4)] → W p l e R s m args below meth c H locs 0 0 Q (F0 m 74 ls []) := by
    intro k_15 hk_15 σ h0 h1 x2 x3 x4 H locs ls hS h hl
    obtain ⟨t_74, e_74, h⟩ := ez_let_sp h
    refine lv_iinc (v := t_74) (lv' := [(4, .int t_74), (0, .ref (B + h0)), (1, .ref (B + h1)), (2, .int x2), (3, .int x3)]) hx hb dX12_readRight_74 hl (k := 4) rfl (by rw [e_74]; rfl) (by decide) rfl (fun ls hl => ?_)
    refine lv_goto (tgt := 15) hx hb dX12_readRight_77 (by decide) ?_
    exact hk_15 σ h0 h1 x2 x3 t_74 _ _ _ hS h (lv_sub hl [1, 2, 3, 4, 0] rfl)
  have K_15 : ∀ (k_15 : ez_H → Nat → Nat → Int32 → Int32 → Int32 → Option (Unit × ez_H)) (hk_15 : ∀ (σ : ez_H) (h0 : Nat) (h1 : Nat) (x2 : Int32) (x3 : Int32) (x4 : Int32) (H : Heap) (locs : List Loc) (ls : Array Slot), ez_S X B s.heap (σ0.length) σ H locs → k_15 σ h0 h1 x2 x3 x4 = some z → lv_has ls 5 [(0, .ref (B + h0)), (1, .ref (B + h1)), (2, .int x2), (3, .int x3), (4, .int x4)] → W p l e R s m args below meth c H locs 0 0 Q (F0 m 15 ls [])), ∀ (σ : ez_H) (h0 : Nat) (h1 : Nat) (x2 : Int32) (x3 : Int32) (x4 : Int32) (H : Heap) (locs : List Loc) (ls : Array Slot), ez_S X B s.heap (σ0.length) σ H locs → z_X12_readRight_15 k_15 σ h0 h1 x2 x3 x4 = some z → lv_has ls 5 [(0, .ref (B + h0)), (1, .ref (B + h1)), (2, .int x2), (3, .int x3), (4, .int x4)] → W p l e R s m args below meth c H locs 0 0 Q (F0 m 15 ls []) := by
    intro k_15 hk_15 σ h0 h1 x2 x3 x4 H locs ls hS h hl
    refine lv_iload hx hb dX12_readRight_15 (lv_at hl 4 rfl) ?_
    refine lv_aload_n hx hb dX12_readRight_17 rfl (lv_at hl 0 rfl) ?_
    refine eg_RX12_33 hC hS h dX12_readRight_18 (fun t_18 h => ?_)
    refine lv_aload_n hx hb dX12_readRight_21 rfl (lv_at hl 0 rfl) ?_
    refine eg_RX12_265 hC hS h dX12_readRight_22 (fun t_22 h => ?_)
    refine ez_ial hC hS h dX12_readRight_25 (fun t_25 h => ?_)
    refine lv_icmp_ge (tgt := 80) hx hb dX12_readRight_26 (by decide) (fun c_26 => ?_) (fun c_26 => ?_)
    · replace h := ez_ifp h c_26
      refine lv_aload_n hx hb dX12_readRight_80 rfl (lv_at hl 0 rfl) ?_
      refine lv_aload_n hx hb dX12_readRight_81 rfl (lv_at hl 0 rfl) ?_
      refine ez_cVpi (As := []) (rest := [.ref (B + h0)]) h (fun _ q => c_X12_lockHere q) hC k_X12_lockHere ql_RX12_340 rfl (by decide) hS (fun _ q => ez_rcv q) rfl hl.1 rfl (Nat.le_of_ble_eq_true rfl) ⟨Nat.zero_le _, Nat.zero_le _⟩ dX12_readRight_82 (fun t_82 H locs hS h => ?_)
      refine lv_iload_n hx hb dX12_readRight_85 rfl (lv_at hl 3 rfl) ?_
      refine ez_cVi (As := [.int t_82, .int x3]) (rest := []) h (fun _ q => c_X12_known q) hC k_X12_known ql_RX12_346 rfl (by decide) hS (fun _ q => ez_rcv q) rfl hl.1 rfl (Nat.le_of_ble_eq_true rfl) ⟨Nat.zero_le _, Nat.zero_le _⟩ dX12_readRight_86 (fun t_86 σ H locs hS h => ?_)
      refine lv_istore (lv' := [(4, .int t_86), (0, .ref (B + h0)), (1, .ref (B + h1)), (2, .int x2), (3, .int x3)]) hx hb dX12_readRight_89 hl (by decide) rfl (fun ls hl => ?_)
      refine lv_aload_n hx hb dX12_readRight_91 rfl (lv_at hl 1 rfl) ?_
      refine ez_cVpi (As := []) (rest := []) h (fun _ q => c_X12_isGood q) hC k_X12_isGood ql_RX12_251 rfl (by decide) hS (fun _ q => ez_rcv q) rfl hl.1 rfl (Nat.le_of_ble_eq_true rfl) ⟨Nat.zero_le _, Nat.zero_le _⟩ dX12_readRight_92 (fun t_92 H locs hS h => ?_)
      refine lv_if_eq (tgt := 116) hx hb dX12_readRight_95 (by decide) (fun c_95 => ?_) (fun c_95 => ?_)
      · replace h := ez_ifp h c_95
        exact K_116  σ _ _ _ hS h (lv_sub hl [] rfl)
      · replace h := ez_ifn h c_95
        refine lv_aload_n hx hb dX12_readRight_98 rfl (lv_at hl 2 rfl) ?_
        refine lv_bipush (v := 6) hx hb dX12_readRight_99 (by decide) ?_
        refine lv_aload_n hx hb dX12_readRight_101 rfl (lv_at hl 1 rfl) ?_
        refine eg_RX12_265 hC hS h dX12_readRight_102 (fun t_102 h => ?_)
        refine lv_imul hx hb dX12_readRight_105 ?_
        refine ez_top h (fun t_105 h => ?_)
        refine lv_iload hx hb dX12_readRight_106 (lv_at hl 0 rfl) ?_
        refine lv_iadd hx hb dX12_readRight_108 ?_
        refine ez_top h (fun t_108 h => ?_)
        refine lv_dup2_11 hx hb dX12_readRight_109 rfl rfl ?_
        refine ez_ial hC hS h dX12_readRight_110 (fun t_110 h => ?_)
        refine lv_iconst (v := 1) hx hb dX12_readRight_111 (by decide) ?_
        refine lv_iload_n hx hb dX12_readRight_112 rfl (lv_at hl 3 rfl) ?_
        refine lv_ishl hx hb dX12_readRight_113 ?_
        refine ez_top h (fun t_113 h => ?_)
        refine lv_ior hx hb dX12_readRight_114 ?_
        refine ez_top h (fun t_114 h => ?_)
        refine ez_ias hC hS h dX12_readRight_115 (fun σ H locs hS h => ?_)
        exact K_116  σ _ _ _ hS h (lv_sub hl [] rfl)
    · replace h := ez_ifn h c_26
      refine lv_aload_n hx hb dX12_readRight_29 rfl (lv_at hl 0 rfl) ?_
      refine eg_RX12_75 hC hS h dX12_readRight_30 (fun t_30 h => ?_)
      refine lv_bipush (v := 6) hx hb dX12_readRight_33 (by decide) ?_
      refine lv_aload_n hx hb dX12_readRight_35 rfl (lv_at hl 0 rfl) ?_
      refine eg_RX12_265 hC hS h dX12_readRight_36 (fun t_36 h => ?_)
      refine lv_imul hx hb dX12_readRight_39 ?_
      refine ez_top h (fun t_39 h => ?_)
      refine lv_iload hx hb dX12_readRight_40 (lv_at hl 4 rfl) ?_
      refine lv_iadd hx hb dX12_readRight_42 ?_
      refine ez_top h (fun t_42 h => ?_)
      refine ez_ial hC hS h dX12_readRight_43 (fun t_43 h => ?_)
      refine lv_aload_n hx hb dX12_readRight_44 rfl (lv_at hl 0 rfl) ?_
      refine eg_RX12_78 hC hS h dX12_readRight_45 (fun t_45 h => ?_)
      refine lv_bipush (v := 6) hx hb dX12_readRight_48 (by decide) ?_
      refine lv_aload_n hx hb dX12_readRight_50 rfl (lv_at hl 0 rfl) ?_
      refine eg_RX12_265 hC hS h dX12_readRight_51 (fun t_51 h => ?_)
      refine lv_imul hx hb dX12_readRight_54 ?_
      refine ez_top h (fun t_54 h => ?_)
      refine lv_iload hx hb dX12_readRight_55 (lv_at hl 4 rfl) ?_
      refine lv_iadd hx hb dX12_readRight_57 ?_
      refine ez_top h (fun t_57 h => ?_)
      refine ez_ial hC hS h dX12_readRight_58 (fun t_58 h => ?_)
      refine lv_ior hx hb dX12_readRight_59 ?_
      refine ez_top h (fun t_59 h => ?_)
      refine lv_iload_n hx hb dX12_readRight_60 rfl (lv_at hl 2 rfl) ?_
      refine ez_cSpi (As := [.int t_59, .int x2]) (rest := []) h (fun _ q => c_X12_bit q) hC k_X12_bit ql_RX12_261 rfl (by decide) hS hl.1 rfl (Nat.le_of_ble_eq_true rfl) ⟨Nat.zero_le _, Nat.zero_le _⟩ dX12_readRight_61 (fun t_61 H locs hS h => ?_)
      refine lv_if_eq (tgt := 74) hx hb dX12_readRight_64 (by decide) (fun c_64 => ?_) (fun c_64 => ?_)
      · replace h := ez_ifp h c_64
        exact K_74 k_15 hk_15 σ h0 h1 x2 x3 x4 _ _ _ hS h (lv_sub hl [0, 1, 2, 3, 4] rfl)
      · replace h := ez_ifn h c_64
        refine lv_iload_n hx hb dX12_readRight_67 rfl (lv_at hl 3 rfl) ?_
        refine lv_iconst (v := 1) hx hb dX12_readRight_68 (by decide) ?_
        refine lv_iload hx hb dX12_readRight_69 (lv_at hl 4 rfl) ?_
        refine lv_ishl hx hb dX12_readRight_71 ?_
        refine ez_top h (fun t_71 h => ?_)
        refine lv_ior hx hb dX12_readRight_72 ?_
        refine ez_top h (fun t_72 h => ?_)
        refine lv_istore_n (lv' := [(3, .int t_72), (0, .ref (B + h0)), (1, .ref (B + h1)), (2, .int x2), (4, .int x4)]) hx hb dX12_readRight_73 rfl hl (by decide) rfl (fun ls hl => ?_)
        exact K_74 k_15 hk_15 σ h0 h1 x2 t_72 x4 _ _ _ hS h (lv_sub hl [1, 2, 3, 0, 4] rfl)
  have E_15 : ∀ (σ : ez_H) (h0 : Nat) (h1 : Nat) (x2 : Int32) (x3 : Int32) (x4 : Int32) (H : Heap) (locs : List Loc) (ls : Array Slot), ez_S X B s.heap (σ0.length) σ H locs → (ez_fix (fun _ _ _ _ _ _ => none) (z_X12_readRight_15) ez_N) σ h0 h1 x2 x3 x4 = some z → lv_has ls 5 [(0, .ref (B + h0)), (1, .ref (B + h1)), (2, .int x2), (3, .int x3), (4, .int x4)] → W p l e R s m args below meth c H locs 0 0 Q (F0 m 15 ls []) := ez_fix_ind (fun k_15 : ez_H → Nat → Nat → Int32 → Int32 → Int32 → Option (Unit × ez_H) => ∀ (σ : ez_H) (h0 : Nat) (h1 : Nat) (x2 : Int32) (x3 : Int32) (x4 : Int32) (H : Heap) (locs : List Loc) (ls : Array Slot), ez_S X B s.heap (σ0.length) σ H locs → k_15 σ h0 h1 x2 x3 x4 = some z → lv_has ls 5 [(0, .ref (B + h0)), (1, .ref (B + h1)), (2, .int x2), (3, .int x3), (4, .int x4)] → W p l e R s m args below meth c H locs 0 0 Q (F0 m 15 ls [])) (fun _ _ _ _ _ _ _ _ _ _ h _ => by cases h) (fun k_15 hk_15 => K_15 k_15 hk_15) ez_N
  refine lv_aload_n hx hb dX12_readRight_0 rfl (lv_at hl 0 rfl) ?_
  refine lv_aload_n hx hb dX12_readRight_1 rfl (lv_at hl 0 rfl) ?_
  refine ez_cVpi (As := []) (rest := [.ref (B + h0)]) h (fun _ q => c_X12_keyHere q) hC k_X12_keyHere ql_RX12_329 rfl (by decide) hS (fun _ q => ez_rcv q) rfl hl.1 rfl (Nat.le_of_ble_eq_true rfl) ⟨Nat.zero_le _, Nat.zero_le _⟩ dX12_readRight_2 (fun t_2 H locs hS h => ?_)
  refine lv_iconst (v := 0) hx hb dX12_readRight_5 (by decide) ?_
  refine ez_cVi (As := [.int t_2, .int 0]) (rest := []) h (fun _ q => c_X12_known q) hC k_X12_known ql_RX12_346 rfl (by decide) hS (fun _ q => ez_rcv q) rfl hl.1 rfl (Nat.le_of_ble_eq_true rfl) ⟨Nat.zero_le _, Nat.zero_le _⟩ dX12_readRight_6 (fun t_6 σ H locs hS h => ?_)
  refine lv_istore_n (lv' := [(2, .int t_6), (0, .ref (B + h0)), (1, .ref (B + h1))]) hx hb dX12_readRight_9 rfl hl (by decide) rfl (fun ls hl => ?_)
  refine lv_iconst (v := 0) hx hb dX12_readRight_10 (by decide) ?_
  refine lv_istore_n (lv' := [(3, .int 0), (2, .int t_6), (0, .ref (B + h0)), (1, .ref (B + h1))]) hx hb dX12_readRight_11 rfl hl (by decide) rfl (fun ls hl => ?_)
  refine lv_iconst (v := 0) hx hb dX12_readRight_12 (by decide) ?_
  refine lv_istore (lv' := [(4, .int 0), (3, .int 0), (2, .int t_6), (0, .ref (B + h0)), (1, .ref (B + h1))]) hx hb dX12_readRight_13 hl (by decide) rfl (fun ls hl => ?_)
  exact E_15  σ h0 h1 t_6 (0 : Int32) (0 : Int32) _ _ _ hS h (lv_sub hl [3, 4, 2, 1, 0] rfl)
set_option maxHeartbeats 4000000 in
set_option maxRecDepth 100000 in
theorem c_X12_pushE {l : Launch} {X : ez_X} {B : Nat} {σ : ez_H} {h0 : Nat} {x1 : Int32} {x2 : Int32} {z : Unit × ez_H} (h : z_X12_pushE σ h0 x1 x2 = some z) : ez_M l X B σ yX12_pushE cX12_pushE 3 (none) 0 [.ref (B + h0), .int x1, .int x2] (none) z.2 := by
  refine ez_startv (z := z) (by decide) (Nat.le_of_ble_eq_true rfl) (fun p e R s m args below meth c Q hC hret hS ls hl => ?_)
  have hC : ez_C p R s m args c X B RX12 cX12_pushE 3 0 := hC
  have hx := hC.1.1
  have hb := hC.1.2.1
  have hown := hC.1.2.2.2.1
  have hts := hC.1.2.2.2.2
  have hl : lv_has ls 3 [(0, .ref (B + h0)), (1, .int x1), (2, .int x2)] := hl
  obtain ⟨σ0, eσ⟩ : ∃ σ0 : ez_H, σ0 = σ := ⟨_, rfl⟩
  rw [← eσ] at hret
  have hS : ez_S X B s.heap σ0.length σ s.heap [] := eσ ▸ hS
  obtain ⟨-, h⟩ := ez_in h
  refine lv_aload_n hx hb dX12_pushE_0 rfl (lv_at hl 0 rfl) ?_
  refine eg_RX12_109 hC hS h dX12_pushE_1 (fun t_1 h => ?_)
  refine lv_aload_n hx hb dX12_pushE_4 rfl (lv_at hl 0 rfl) ?_
  refine eg_RX12_359 hC hS h dX12_pushE_5 (fun t_5 h => ?_)
  refine lv_iload_n hx hb dX12_pushE_8 rfl (lv_at hl 1 rfl) ?_
  refine ez_ias hC hS h dX12_pushE_9 (fun σ H locs hS h => ?_)
  refine lv_aload_n hx hb dX12_pushE_10 rfl (lv_at hl 0 rfl) ?_
  refine eg_RX12_112 hC hS h dX12_pushE_11 (fun t_11 h => ?_)
  refine lv_aload_n hx hb dX12_pushE_14 rfl (lv_at hl 0 rfl) ?_
  refine eg_RX12_359 hC hS h dX12_pushE_15 (fun t_15 h => ?_)
  refine lv_iload_n hx hb dX12_pushE_18 rfl (lv_at hl 2 rfl) ?_
  refine ez_ias hC hS h dX12_pushE_19 (fun σ H locs hS h => ?_)
  refine lv_aload_n hx hb dX12_pushE_20 rfl (lv_at hl 0 rfl) ?_
  refine lv_dup hx hb dX12_pushE_21 rfl ?_
  refine eg_RX12_359 hC hS h dX12_pushE_22 (fun t_22 h => ?_)
  refine lv_iconst (v := 1) hx hb dX12_pushE_25 (by decide) ?_
  refine lv_iadd hx hb dX12_pushE_26 ?_
  refine ez_top h (fun t_26 h => ?_)
  refine ep_RX12_359 hC hS h dX12_pushE_27 (fun σ H locs hS h => ?_)
  exact hret _ _ _ _ _ _ (Option.some.inj h) hS dX12_pushE_30
set_option maxHeartbeats 4000000 in
set_option maxRecDepth 100000 in
theorem c_X12_wordHere {l : Launch} {X : ez_X} {B : Nat} {σ : ez_H} {h0 : Nat} {z : Int32} (h : z_X12_wordHere σ h0 = some z) : ez_M l X B σ yX12_wordHere cX12_wordHere 1 (some .int) 1 [.ref (B + h0)] (some (.int z)) σ := by
  refine ez_startip (z := z) (by decide) (Nat.le_of_ble_eq_true rfl) (fun p e R s m args below meth c Q hC hret hS ls hl => ?_)
  have hC : ez_C p R s m args c X B RX12 cX12_wordHere 1 1 := hC
  have hx := hC.1.1
  have hb := hC.1.2.1
  have hown := hC.1.2.2.2.1
  have hts := hC.1.2.2.2.2
  have hl : lv_has ls 1 [(0, .ref (B + h0))] := hl
  obtain ⟨n0, e0⟩ : ∃ n0 : Nat, n0 = σ.length := ⟨_, rfl⟩
  rw [← e0] at hret hS
  obtain ⟨-, h⟩ := ez_in h
  have K_55 : ∀ (y0 : Int32) (H : Heap) (locs : List Loc) (ls : Array Slot), ez_S X B s.heap (n0) σ H locs → z_X12_wordHere_55 σ y0 = some z → lv_has ls 1 [] → W p l e R s m args below meth c H locs 0 0 Q (F0 m 55 ls [.int y0]) := by
    intro y0 H locs ls hS h hl
    exact hret _ _ _ _ _ (Option.some.inj h) rfl hS dX12_wordHere_55
  refine lv_aload_n hx hb dX12_wordHere_0 rfl (lv_at hl 0 rfl) ?_
  refine lv_ldc2 hx hb hown (hts _ qc_RX12_199) dX12_wordHere_1 ?_
  refine ez_cVpi (As := [.long 6518132]) (rest := []) h (fun _ q => c_X12_isWord q) hC k_X12_isWord ql_RX12_280 rfl (by decide) hS (fun _ q => ez_rcv q) rfl hl.1 rfl (Nat.le_of_ble_eq_true rfl) ⟨Nat.zero_le _, Nat.zero_le _⟩ dX12_wordHere_4 (fun t_4 H locs hS h => ?_)
  refine lv_if_eq (tgt := 13) hx hb dX12_wordHere_7 (by decide) (fun c_7 => ?_) (fun c_7 => ?_)
  · replace h := ez_ifp h c_7
    refine lv_aload_n hx hb dX12_wordHere_13 rfl (lv_at hl 0 rfl) ?_
    refine lv_ldc2 hx hb hown (hts _ qc_RX12_201) dX12_wordHere_14 ?_
    refine ez_cVpi (As := [.long 108187867505765]) (rest := []) h (fun _ q => c_X12_isWord q) hC k_X12_isWord ql_RX12_280 rfl (by decide) hS (fun _ q => ez_rcv q) rfl hl.1 rfl (Nat.le_of_ble_eq_true rfl) ⟨Nat.zero_le _, Nat.zero_le _⟩ dX12_wordHere_17 (fun t_17 H locs hS h => ?_)
    refine lv_if_eq (tgt := 26) hx hb dX12_wordHere_20 (by decide) (fun c_20 => ?_) (fun c_20 => ?_)
    · replace h := ez_ifp h c_20
      refine lv_aload_n hx hb dX12_wordHere_26 rfl (lv_at hl 0 rfl) ?_
      refine lv_ldc2 hx hb hown (hts _ qc_RX12_203) dX12_wordHere_27 ?_
      refine ez_cVpi (As := [.long 1970496883]) (rest := []) h (fun _ q => c_X12_isWord q) hC k_X12_isWord ql_RX12_280 rfl (by decide) hS (fun _ q => ez_rcv q) rfl hl.1 rfl (Nat.le_of_ble_eq_true rfl) ⟨Nat.zero_le _, Nat.zero_le _⟩ dX12_wordHere_30 (fun t_30 H locs hS h => ?_)
      refine lv_if_eq (tgt := 39) hx hb dX12_wordHere_33 (by decide) (fun c_33 => ?_) (fun c_33 => ?_)
      · replace h := ez_ifp h c_33
        refine lv_aload_n hx hb dX12_wordHere_39 rfl (lv_at hl 0 rfl) ?_
        refine lv_ldc2 hx hb hown (hts _ qc_RX12_205) dX12_wordHere_40 ?_
        refine ez_cVpi (As := [.long 27980790350636402]) (rest := []) h (fun _ q => c_X12_isWord q) hC k_X12_isWord ql_RX12_280 rfl (by decide) hS (fun _ q => ez_rcv q) rfl hl.1 rfl (Nat.le_of_ble_eq_true rfl) ⟨Nat.zero_le _, Nat.zero_le _⟩ dX12_wordHere_43 (fun t_43 H locs hS h => ?_)
        refine lv_if_eq (tgt := 54) hx hb dX12_wordHere_46 (by decide) (fun c_46 => ?_) (fun c_46 => ?_)
        · replace h := ez_ifp h c_46
          refine lv_iconst (v := 0) hx hb dX12_wordHere_54 (by decide) ?_
          exact K_55  (0 : Int32) _ _ _ hS h (lv_sub hl [] rfl)
        · replace h := ez_ifn h c_46
          refine lv_bipush (v := 104) hx hb dX12_wordHere_49 (by decide) ?_
          refine lv_goto (tgt := 55) hx hb dX12_wordHere_51 (by decide) ?_
          exact K_55  (104 : Int32) _ _ _ hS h (lv_sub hl [] rfl)
      · replace h := ez_ifn h c_33
        refine lv_bipush (v := 117) hx hb dX12_wordHere_36 (by decide) ?_
        exact hret _ _ _ _ _ (Option.some.inj h) rfl hS dX12_wordHere_38
    · replace h := ez_ifn h c_20
      refine lv_bipush (v := 98) hx hb dX12_wordHere_23 (by decide) ?_
      exact hret _ _ _ _ _ (Option.some.inj h) rfl hS dX12_wordHere_25
  · replace h := ez_ifn h c_7
    refine lv_bipush (v := 99) hx hb dX12_wordHere_10 (by decide) ?_
    exact hret _ _ _ _ _ (Option.some.inj h) rfl hS dX12_wordHere_12
set_option maxHeartbeats 4000000 in
set_option maxRecDepth 100000 in
theorem c_X12_emit {l : Launch} {X : ez_X} {B : Nat} {σ : ez_H} {h0 : Nat} {x1 : Int32} {x2 : Int32} {z : Unit × ez_H} (h : z_X12_emit σ h0 x1 x2 = some z) : ez_M l X B σ yX12_emit cX12_emit 3 (none) 0 [.ref (B + h0), .int x1, .int x2] (none) z.2 := by
  refine ez_startv (z := z) (by decide) (Nat.le_of_ble_eq_true rfl) (fun p e R s m args below meth c Q hC hret hS ls hl => ?_)
  have hC : ez_C p R s m args c X B RX12 cX12_emit 3 0 := hC
  have hx := hC.1.1
  have hb := hC.1.2.1
  have hown := hC.1.2.2.2.1
  have hts := hC.1.2.2.2.2
  have hl : lv_has ls 3 [(0, .ref (B + h0)), (1, .int x1), (2, .int x2)] := hl
  obtain ⟨σ0, eσ⟩ : ∃ σ0 : ez_H, σ0 = σ := ⟨_, rfl⟩
  rw [← eσ] at hret
  have hS : ez_S X B s.heap σ0.length σ s.heap [] := eσ ▸ hS
  obtain ⟨-, h⟩ := ez_in h
  refine lv_aload_n hx hb dX12_emit_0 rfl (lv_at hl 0 rfl) ?_
  refine eg_RX12_103 hC hS h dX12_emit_1 (fun t_1 h => ?_)
  refine lv_aload_n hx hb dX12_emit_4 rfl (lv_at hl 0 rfl) ?_
  refine eg_RX12_268 hC hS h dX12_emit_5 (fun t_5 h => ?_)
  refine lv_iload_n hx hb dX12_emit_8 rfl (lv_at hl 1 rfl) ?_
  refine ez_ias hC hS h dX12_emit_9 (fun σ H locs hS h => ?_)
  refine lv_aload_n hx hb dX12_emit_10 rfl (lv_at hl 0 rfl) ?_
  refine eg_RX12_106 hC hS h dX12_emit_11 (fun t_11 h => ?_)
  refine lv_aload_n hx hb dX12_emit_14 rfl (lv_at hl 0 rfl) ?_
  refine eg_RX12_268 hC hS h dX12_emit_15 (fun t_15 h => ?_)
  refine lv_iload_n hx hb dX12_emit_18 rfl (lv_at hl 2 rfl) ?_
  refine ez_ias hC hS h dX12_emit_19 (fun σ H locs hS h => ?_)
  refine lv_aload_n hx hb dX12_emit_20 rfl (lv_at hl 0 rfl) ?_
  refine lv_dup hx hb dX12_emit_21 rfl ?_
  refine eg_RX12_268 hC hS h dX12_emit_22 (fun t_22 h => ?_)
  refine lv_iconst (v := 1) hx hb dX12_emit_25 (by decide) ?_
  refine lv_iadd hx hb dX12_emit_26 ?_
  refine ez_top h (fun t_26 h => ?_)
  refine ep_RX12_268 hC hS h dX12_emit_27 (fun σ H locs hS h => ?_)
  exact hret _ _ _ _ _ _ (Option.some.inj h) hS dX12_emit_30
set_option maxHeartbeats 4000000 in
set_option maxRecDepth 100000 in
theorem c_X12_unit {l : Launch} {X : ez_X} {B : Nat} {σ : ez_H} {h0 : Nat} {z : Int32 × ez_H} (h : z_X12_unit σ h0 = some z) : ez_M l X B σ yX12_unit cX12_unit 7 (some .boolean) 2 [.ref (B + h0)] (some (.int z.1)) z.2 := by
  refine ez_starti (z := z) (by decide) (Nat.le_of_ble_eq_true rfl) (fun p e R s m args below meth c Q hC hret hS ls hl => ?_)
  have hC : ez_C p R s m args c X B RX12 cX12_unit 7 2 := hC
  have hx := hC.1.1
  have hb := hC.1.2.1
  have hown := hC.1.2.2.2.1
  have hts := hC.1.2.2.2.2
  have hl : lv_has ls 7 [(0, .ref (B + h0))] := hl
  obtain ⟨σ0, eσ⟩ : ∃ σ0 : ez_H, σ0 = σ := ⟨_, rfl⟩
  rw [← eσ] at hret
  have hS : ez_S X B s.heap σ0.length σ s.heap [] := eσ ▸ hS
  obtain ⟨-, h⟩ := ez_in h
  have K_233 : ∀ (σ : ez_H) (h0 : Nat) (y0 : Nat) (y1 : Int32) (H : Heap) (locs : List Loc) (ls : Array Slot), ez_S X B s.heap (σ0.length) σ H locs → z_X12_unit_233 σ h0 y0 y1 = some z → lv_has ls 7 [(0, .ref (B + h0))] → W p l e R s m args below meth c H locs 0 0 Q (F0 m 233 ls [.int y1, .ref (B + y0)]) := by
    intro σ h0 y0 y1 H locs ls hS h hl
    refine lv_bipush (v := 126) hx hb dX12_unit_233 (by decide) ?_
    refine ez_cVv (As := [.int y1, .int 126]) (rest := []) h (fun _ q => c_X12_pushE q) hC k_X12_pushE ql_RX12_365 rfl (by decide) hS (fun _ q => ez_rcv q) rfl hl.1 rfl (Nat.le_of_ble_eq_true rfl) ⟨Nat.zero_le _, Nat.zero_le _⟩ dX12_unit_235 (fun _ σ H locs hS h => ?_)
    refine lv_aload_n hx hb dX12_unit_238 rfl (lv_at hl 0 rfl) ?_
    refine lv_dup hx hb dX12_unit_239 rfl ?_
    refine eg_RX12_362 hC hS h dX12_unit_240 (fun t_240 h => ?_)
    refine lv_iconst (v := 1) hx hb dX12_unit_243 (by decide) ?_
    refine lv_iadd hx hb dX12_unit_244 ?_
    refine ez_top h (fun t_244 h => ?_)
    refine ep_RX12_362 hC hS h dX12_unit_245 (fun σ H locs hS h => ?_)
    refine lv_iconst (v := 1) hx hb dX12_unit_248 (by decide) ?_
    have hn : narrow .boolean (.int 1) = .int 1 := by decide
    exact hret _ _ _ _ _ _ (Option.some.inj h) hn hS dX12_unit_249
  have K_222 : ∀ (σ : ez_H) (h0 : Nat) (x2 : Int32) (H : Heap) (locs : List Loc) (ls : Array Slot), ez_S X B s.heap (σ0.length) σ H locs → z_X12_unit_222 σ h0 x2 = some z → lv_has ls 7 [(0, .ref (B + h0)), (2, .int x2)] → W p l e R s m args below meth c H locs 0 0 Q (F0 m 222 ls []) := by
    intro σ h0 x2 H locs ls hS h hl
    refine lv_aload_n hx hb dX12_unit_222 rfl (lv_at hl 0 rfl) ?_
    refine lv_iload_n hx hb dX12_unit_223 rfl (lv_at hl 1 rfl) ?_
    refine lv_if_eq (tgt := 231) hx hb dX12_unit_224 (by decide) (fun c_224 => ?_) (fun c_224 => ?_)
    · replace h := ez_ifp h c_224
      refine lv_bipush (v := 7) hx hb dX12_unit_231 (by decide) ?_
      exact K_233  σ h0 h0 (7 : Int32) _ _ _ hS h (lv_sub hl [0] rfl)
    · replace h := ez_ifn h c_224
      refine lv_iconst (v := 3) hx hb dX12_unit_227 (by decide) ?_
      refine lv_goto (tgt := 233) hx hb dX12_unit_228 (by decide) ?_
      exact K_233  σ h0 h0 (3 : Int32) _ _ _ hS h (lv_sub hl [0] rfl)
  have K_263 : ∀ (σ : ez_H) (x6 : Int32) (y0 : Nat) (y1 : Int32) (H : Heap) (locs : List Loc) (ls : Array Slot), ez_S X B s.heap (σ0.length) σ H locs → z_X12_unit_263 σ x6 y0 y1 = some z → lv_has ls 7 [(6, .int x6)] → W p l e R s m args below meth c H locs 0 0 Q (F0 m 263 ls [.int y1, .ref (B + y0)]) := by
    intro σ x6 y0 y1 H locs ls hS h hl
    refine lv_iload hx hb dX12_unit_263 (lv_at hl 0 rfl) ?_
    refine ez_cVv (As := [.int y1, .int x6]) (rest := []) h (fun _ q => c_X12_emit q) hC k_X12_emit ql_RX12_377 rfl (by decide) hS (fun _ q => ez_rcv q) rfl hl.1 rfl (Nat.le_of_ble_eq_true rfl) ⟨Nat.zero_le _, Nat.zero_le _⟩ dX12_unit_265 (fun _ σ H locs hS h => ?_)
    refine lv_iconst (v := 0) hx hb dX12_unit_268 (by decide) ?_
    have hn : narrow .boolean (.int 0) = .int 0 := by decide
    exact hret _ _ _ _ _ _ (Option.some.inj h) hn hS dX12_unit_269
  have K_208 : ∀ (σ : ez_H) (h0 : Nat) (x2 : Int32) (x3 : Int32) (x4 : Int32) (y0 : Int32) (H : Heap) (locs : List Loc) (ls : Array Slot), ez_S X B s.heap (σ0.length) σ H locs → z_X12_unit_208 σ h0 x2 x3 x4 y0 = some z → lv_has ls 7 [(0, .ref (B + h0)), (2, .int x2), (3, .int x3), (4, .int x4)] → W p l e R s m args below meth c H locs 0 0 Q (F0 m 208 ls [.int y0]) := by
    intro σ h0 x2 x3 x4 y0 H locs ls hS h hl
    refine lv_istore (lv' := [(6, .int y0), (0, .ref (B + h0)), (2, .int x2), (3, .int x3), (4, .int x4)]) hx hb dX12_unit_208 hl (by decide) rfl (fun ls hl => ?_)
    refine lv_aload_n hx hb dX12_unit_210 rfl (lv_at hl 1 rfl) ?_
    refine ez_cVv (As := []) (rest := []) h (fun _ q => c_X12_goOn q) hC k_X12_goOn ql_RX12_255 rfl (by decide) hS (fun _ q => ez_rcv q) rfl hl.1 rfl (Nat.le_of_ble_eq_true rfl) ⟨Nat.zero_le _, Nat.zero_le _⟩ dX12_unit_211 (fun _ σ H locs hS h => ?_)
    refine lv_iload_n hx hb dX12_unit_214 rfl (lv_at hl 2 rfl) ?_
    refine lv_if_ne (tgt := 222) hx hb dX12_unit_215 (by decide) (fun c_215 => ?_) (fun c_215 => ?_)
    · replace h := ez_ifn h c_215
      exact K_222  σ h0 x2 _ _ _ hS h (lv_sub hl [1, 2] rfl)
    · replace h := ez_ifp h c_215
      refine lv_iload_n hx hb dX12_unit_218 rfl (lv_at hl 3 rfl) ?_
      refine lv_if_eq (tgt := 250) hx hb dX12_unit_219 (by decide) (fun c_219 => ?_) (fun c_219 => ?_)
      · replace h := ez_ifp h c_219
        refine lv_aload_n hx hb dX12_unit_250 rfl (lv_at hl 1 rfl) ?_
        refine lv_iload hx hb dX12_unit_251 (lv_at hl 4 rfl) ?_
        refine lv_if_ne (tgt := 261) hx hb dX12_unit_253 (by decide) (fun c_253 => ?_) (fun c_253 => ?_)
        · replace h := ez_ifn h c_253
          refine lv_iload hx hb dX12_unit_261 (lv_at hl 4 rfl) ?_
          exact K_263  σ y0 h0 x4 _ _ _ hS h (lv_sub hl [0] rfl)
        · replace h := ez_ifp h c_253
          refine lv_bipush (v := 110) hx hb dX12_unit_256 (by decide) ?_
          refine lv_goto (tgt := 263) hx hb dX12_unit_258 (by decide) ?_
          exact K_263  σ y0 h0 (110 : Int32) _ _ _ hS h (lv_sub hl [0] rfl)
      · replace h := ez_ifn h c_219
        exact K_222  σ h0 x2 _ _ _ hS h (lv_sub hl [1, 2] rfl)
  have K_191 : ∀ (σ : ez_H) (h0 : Nat) (x2 : Int32) (x3 : Int32) (x4 : Int32) (y0 : Nat) (y1 : Int32) (y2 : Int32) (H : Heap) (locs : List Loc) (ls : Array Slot), ez_S X B s.heap (σ0.length) σ H locs → z_X12_unit_191 σ h0 x2 x3 x4 y0 y1 y2 = some z → lv_has ls 7 [(0, .ref (B + h0)), (2, .int x2), (3, .int x3), (4, .int x4)] → W p l e R s m args below meth c H locs 0 0 Q (F0 m 191 ls [.int y2, .int y1, .ref (B + y0)]) := by
    intro σ h0 x2 x3 x4 y0 y1 y2 H locs ls hS h hl
    refine lv_iadd hx hb dX12_unit_191 ?_
    refine ez_top h (fun t_191 h => ?_)
    refine ep_RX12_353 hC hS h dX12_unit_192 (fun σ H locs hS h => ?_)
    refine lv_iload hx hb dX12_unit_195 (lv_at hl 3 rfl) ?_
    refine lv_if_ne (tgt := 207) hx hb dX12_unit_197 (by decide) (fun c_197 => ?_) (fun c_197 => ?_)
    · replace h := ez_ifn h c_197
      refine lv_iconst (v := 0) hx hb dX12_unit_207 (by decide) ?_
      exact K_208  σ h0 x2 x3 x4 (0 : Int32) _ _ _ hS h (lv_sub hl [0, 1, 2, 3] rfl)
    · replace h := ez_ifp h c_197
      refine lv_aload_n hx hb dX12_unit_200 rfl (lv_at hl 0 rfl) ?_
      refine eg_RX12_241 hC hS h dX12_unit_201 (fun t_201 h => ?_)
      refine lv_goto (tgt := 208) hx hb dX12_unit_204 (by decide) ?_
      exact K_208  σ h0 x2 x3 x4 t_201 _ _ _ hS h (lv_sub hl [0, 1, 2, 3] rfl)
  have K_175 : ∀ (σ : ez_H) (h0 : Nat) (x2 : Int32) (x3 : Int32) (x4 : Int32) (y0 : Nat) (y1 : Int32) (y2 : Int32) (y3 : Int32) (H : Heap) (locs : List Loc) (ls : Array Slot), ez_S X B s.heap (σ0.length) σ H locs → z_X12_unit_175 σ h0 x2 x3 x4 y0 y1 y2 y3 = some z → lv_has ls 7 [(0, .ref (B + h0)), (2, .int x2), (3, .int x3), (4, .int x4)] → W p l e R s m args below meth c H locs 0 0 Q (F0 m 175 ls [.int y3, .int y2, .int y1, .ref (B + y0)]) := by
    intro σ h0 x2 x3 x4 y0 y1 y2 y3 H locs ls hS h hl
    refine lv_iadd hx hb dX12_unit_175 ?_
    refine ez_top h (fun t_175 h => ?_)
    refine ez_ias hC hS h dX12_unit_176 (fun σ H locs hS h => ?_)
    refine lv_aload_n hx hb dX12_unit_177 rfl (lv_at hl 0 rfl) ?_
    refine lv_dup hx hb dX12_unit_178 rfl ?_
    refine eg_RX12_353 hC hS h dX12_unit_179 (fun t_179 h => ?_)
    refine lv_iload_n hx hb dX12_unit_182 rfl (lv_at hl 1 rfl) ?_
    refine lv_if_eq (tgt := 190) hx hb dX12_unit_183 (by decide) (fun c_183 => ?_) (fun c_183 => ?_)
    · replace h := ez_ifp h c_183
      refine lv_iconst (v := 1) hx hb dX12_unit_190 (by decide) ?_
      exact K_191  σ h0 x2 x3 x4 h0 t_179 (1 : Int32) _ _ _ hS h (lv_sub hl [0, 1, 2, 3] rfl)
    · replace h := ez_ifn h c_183
      refine lv_iconst (v := 0) hx hb dX12_unit_186 (by decide) ?_
      refine lv_goto (tgt := 191) hx hb dX12_unit_187 (by decide) ?_
      exact K_191  σ h0 x2 x3 x4 h0 t_179 (0 : Int32) _ _ _ hS h (lv_sub hl [0, 1, 2, 3] rfl)
  have K_147 : ∀ (σ : ez_H) (h0 : Nat) (x2 : Int32) (x3 : Int32) (x4 : Int32) (H : Heap) (locs : List Loc) (ls : Array Slot), ez_S X B s.heap (σ0.length) σ H locs → z_X12_unit_147 σ h0 x2 x3 x4 = some z → lv_has ls 7 [(0, .ref (B + h0)), (2, .int x2), (3, .int x3), (4, .int x4)] → W p l e R s m args below meth c H locs 0 0 Q (F0 m 147 ls []) := by
    intro σ h0 x2 x3 x4 H locs ls hS h hl
    refine lv_aload_n hx hb dX12_unit_147 rfl (lv_at hl 0 rfl) ?_
    refine ez_cVpi (As := []) (rest := []) h (fun _ q => c_X12_isGood q) hC k_X12_isGood ql_RX12_251 rfl (by decide) hS (fun _ q => ez_rcv q) rfl hl.1 rfl (Nat.le_of_ble_eq_true rfl) ⟨Nat.zero_le _, Nat.zero_le _⟩ dX12_unit_148 (fun t_148 H locs hS h => ?_)
    refine lv_if_ne (tgt := 156) hx hb dX12_unit_151 (by decide) (fun c_151 => ?_) (fun c_151 => ?_)
    · replace h := ez_ifn h c_151
      refine lv_aload_n hx hb dX12_unit_156 rfl (lv_at hl 0 rfl) ?_
      refine eg_RX12_45 hC hS h dX12_unit_157 (fun t_157 h => ?_)
      refine lv_aload_n hx hb dX12_unit_160 rfl (lv_at hl 0 rfl) ?_
      refine eg_RX12_265 hC hS h dX12_unit_161 (fun t_161 h => ?_)
      refine lv_dup2_11 hx hb dX12_unit_164 rfl rfl ?_
      refine ez_ial hC hS h dX12_unit_165 (fun t_165 h => ?_)
      refine lv_iload_n hx hb dX12_unit_166 rfl (lv_at hl 1 rfl) ?_
      refine lv_if_eq (tgt := 174) hx hb dX12_unit_167 (by decide) (fun c_167 => ?_) (fun c_167 => ?_)
      · replace h := ez_ifp h c_167
        refine lv_iconst (v := 1) hx hb dX12_unit_174 (by decide) ?_
        exact K_175  σ h0 x2 x3 x4 t_157 t_161 t_165 (1 : Int32) _ _ _ hS h (lv_sub hl [0, 1, 2, 3] rfl)
      · replace h := ez_ifn h c_167
        refine lv_iconst (v := 0) hx hb dX12_unit_170 (by decide) ?_
        refine lv_goto (tgt := 175) hx hb dX12_unit_171 (by decide) ?_
        exact K_175  σ h0 x2 x3 x4 t_157 t_161 t_165 (0 : Int32) _ _ _ hS h (lv_sub hl [0, 1, 2, 3] rfl)
    · replace h := ez_ifp h c_151
      refine lv_iconst (v := 1) hx hb dX12_unit_154 (by decide) ?_
      have hn : narrow .boolean (.int 1) = .int 1 := by decide
      exact hret _ _ _ _ _ _ (Option.some.inj h) hn hS dX12_unit_155
  have K_143 : ∀ (σ : ez_H) (h0 : Nat) (x2 : Int32) (x3 : Int32) (x4 : Int32) (H : Heap) (locs : List Loc) (ls : Array Slot), ez_S X B s.heap (σ0.length) σ H locs → z_X12_unit_143 σ h0 x2 x3 x4 = some z → lv_has ls 7 [(0, .ref (B + h0)), (2, .int x2), (3, .int x3), (4, .int x4)] → W p l e R s m args below meth c H locs 0 0 Q (F0 m 143 ls []) := by
    intro σ h0 x2 x3 x4 H locs ls hS h hl
    refine lv_aload_n hx hb dX12_unit_143 rfl (lv_at hl 0 rfl) ?_
    refine ez_cVv (As := []) (rest := []) h (fun _ q => c_X12_misplaced q) hC k_X12_misplaced ql_RX12_258 rfl (by decide) hS (fun _ q => ez_rcv q) rfl hl.1 rfl (Nat.le_of_ble_eq_true rfl) ⟨Nat.zero_le _, Nat.zero_le _⟩ dX12_unit_144 (fun _ σ H locs hS h => ?_)
    exact K_147  σ h0 x2 x3 x4 _ _ _ hS h (lv_sub hl [0, 1, 2, 3] rfl)
  have K_134 : ∀ (σ : ez_H) (h0 : Nat) (x2 : Int32) (x3 : Int32) (x4 : Int32) (H : Heap) (locs : List Loc) (ls : Array Slot), ez_S X B s.heap (σ0.length) σ H locs → z_X12_unit_134 σ h0 x2 x3 x4 = some z → lv_has ls 7 [(0, .ref (B + h0)), (2, .int x2), (3, .int x3), (4, .int x4)] → W p l e R s m args below meth c H locs 0 0 Q (F0 m 134 ls []) := by
    intro σ h0 x2 x3 x4 H locs ls hS h hl
    refine lv_aload_n hx hb dX12_unit_134 rfl (lv_at hl 0 rfl) ?_
    refine eg_RX12_362 hC hS h dX12_unit_135 (fun t_135 h => ?_)
    refine lv_bipush (v := 7) hx hb dX12_unit_138 (by decide) ?_
    refine lv_icmp_ne (tgt := 147) hx hb dX12_unit_140 (by decide) (fun c_140 => ?_) (fun c_140 => ?_)
    · replace h := ez_ifn h c_140
      exact K_147  σ h0 x2 x3 x4 _ _ _ hS h (lv_sub hl [0, 1, 2, 3] rfl)
    · replace h := ez_ifp h c_140
      exact K_143  σ h0 x2 x3 x4 _ _ _ hS h (lv_sub hl [0, 1, 2, 3] rfl)
  have K_126 : ∀ (σ : ez_H) (h0 : Nat) (x2 : Int32) (x3 : Int32) (x4 : Int32) (H : Heap) (locs : List Loc) (ls : Array Slot), ez_S X B s.heap (σ0.length) σ H locs → z_X12_unit_126 σ h0 x2 x3 x4 = some z → lv_has ls 7 [(0, .ref (B + h0)), (2, .int x2), (3, .int x3), (4, .int x4)] → W p l e R s m args below meth c H locs 0 0 Q (F0 m 126 ls []) := by
    intro σ h0 x2 x3 x4 H locs ls hS h hl
    refine lv_iload_n hx hb dX12_unit_126 rfl (lv_at hl 1 rfl) ?_
    refine lv_if_ne (tgt := 134) hx hb dX12_unit_127 (by decide) (fun c_127 => ?_) (fun c_127 => ?_)
    · replace h := ez_ifn h c_127
      exact K_134  σ h0 x2 x3 x4 _ _ _ hS h (lv_sub hl [0, 1, 2, 3] rfl)
    · replace h := ez_ifp h c_127
      refine lv_iload_n hx hb dX12_unit_130 rfl (lv_at hl 2 rfl) ?_
      refine lv_if_eq (tgt := 147) hx hb dX12_unit_131 (by decide) (fun c_131 => ?_) (fun c_131 => ?_)
      · replace h := ez_ifp h c_131
        exact K_147  σ h0 x2 x3 x4 _ _ _ hS h (lv_sub hl [0, 1, 2, 3] rfl)
      · replace h := ez_ifn h c_131
        exact K_134  σ h0 x2 x3 x4 _ _ _ hS h (lv_sub hl [0, 1, 2, 3] rfl)
  have K_121 : ∀ (σ : ez_H) (h0 : Nat) (x2 : Int32) (x3 : Int32) (x4 : Int32) (x5 : Int32) (H : Heap) (locs : List Loc) (ls : Array Slot), ez_S X B s.heap (σ0.length) σ H locs → z_X12_unit_121 σ h0 x2 x3 x4 x5 = some z → lv_has ls 7 [(0, .ref (B + h0)), (2, .int x2), (3, .int x3), (4, .int x4), (5, .int x5)] → W p l e R s m args below meth c H locs 0 0 Q (F0 m 121 ls []) := by
    intro σ h0 x2 x3 x4 x5 H locs ls hS h hl
    refine lv_iload hx hb dX12_unit_121 (lv_at hl 4 rfl) ?_
    refine lv_if_ne (tgt := 143) hx hb dX12_unit_123 (by decide) (fun c_123 => ?_) (fun c_123 => ?_)
    · replace h := ez_ifn h c_123
      exact K_143  σ h0 x2 x3 x4 _ _ _ hS h (lv_sub hl [0, 1, 2, 3] rfl)
    · replace h := ez_ifp h c_123
      exact K_126  σ h0 x2 x3 x4 _ _ _ hS h (lv_sub hl [0, 1, 2, 3] rfl)
  have K_98 : ∀ (σ : ez_H) (h0 : Nat) (x2 : Int32) (x3 : Int32) (x4 : Int32) (y0 : Int32) (H : Heap) (locs : List Loc) (ls : Array Slot), ez_S X B s.heap (σ0.length) σ H locs → z_X12_unit_98 σ h0 x2 x3 x4 y0 = some z → lv_has ls 7 [(0, .ref (B + h0)), (2, .int x2), (3, .int x3), (4, .int x4)] → W p l e R s m args below meth c H locs 0 0 Q (F0 m 98 ls [.int y0]) := by
    intro σ h0 x2 x3 x4 y0 H locs ls hS h hl
    refine lv_istore (lv' := [(5, .int y0), (0, .ref (B + h0)), (2, .int x2), (3, .int x3), (4, .int x4)]) hx hb dX12_unit_98 hl (by decide) rfl (fun ls hl => ?_)
    refine lv_iload_n hx hb dX12_unit_100 rfl (lv_at hl 2 rfl) ?_
    refine lv_if_ne (tgt := 126) hx hb dX12_unit_101 (by decide) (fun c_101 => ?_) (fun c_101 => ?_)
    · replace h := ez_ifn h c_101
      exact K_126  σ h0 x2 x3 x4 _ _ _ hS h (lv_sub hl [1, 2, 3, 4] rfl)
    · replace h := ez_ifp h c_101
      refine lv_iload hx hb dX12_unit_104 (lv_at hl 4 rfl) ?_
      refine lv_if_ne (tgt := 121) hx hb dX12_unit_106 (by decide) (fun c_106 => ?_) (fun c_106 => ?_)
      · replace h := ez_ifn h c_106
        exact K_121  σ h0 x2 x3 x4 y0 _ _ _ hS h (lv_sub hl [1, 2, 3, 4, 0] rfl)
      · replace h := ez_ifp h c_106
        refine lv_aload_n hx hb dX12_unit_109 rfl (lv_at hl 1 rfl) ?_
        refine eg_RX12_223 hC hS h dX12_unit_110 (fun t_110 h => ?_)
        refine lv_iconst (v := 4) hx hb dX12_unit_113 (by decide) ?_
        refine lv_icmp_eq (tgt := 121) hx hb dX12_unit_114 (by decide) (fun c_114 => ?_) (fun c_114 => ?_)
        · replace h := ez_ifp h c_114
          exact K_121  σ h0 x2 x3 x4 y0 _ _ _ hS h (lv_sub hl [1, 2, 3, 4, 0] rfl)
        · replace h := ez_ifn h c_114
          refine lv_iload_n hx hb dX12_unit_117 rfl (lv_at hl 3 rfl) ?_
          refine lv_if_eq (tgt := 143) hx hb dX12_unit_118 (by decide) (fun c_118 => ?_) (fun c_118 => ?_)
          · replace h := ez_ifp h c_118
            exact K_143  σ h0 x2 x3 x4 _ _ _ hS h (lv_sub hl [1, 2, 3, 4] rfl)
          · replace h := ez_ifn h c_118
            exact K_121  σ h0 x2 x3 x4 y0 _ _ _ hS h (lv_sub hl [1, 2, 3, 4, 0] rfl)
  have K_93 : ∀ (σ : ez_H) (h0 : Nat) (x2 : Int32) (x3 : Int32) (x4 : Int32) (H : Heap) (locs : List Loc) (ls : Array Slot), ez_S X B s.heap (σ0.length) σ H locs → z_X12_unit_93 σ h0 x2 x3 x4 = some z → lv_has ls 7 [(0, .ref (B + h0)), (2, .int x2), (3, .int x3), (4, .int x4)] → W p l e R s m args below meth c H locs 0 0 Q (F0 m 93 ls []) := by
    intro σ h0 x2 x3 x4 H locs ls hS h hl
    refine lv_iconst (v := 1) hx hb dX12_unit_93 (by decide) ?_
    refine lv_goto (tgt := 98) hx hb dX12_unit_94 (by decide) ?_
    exact K_98  σ h0 x2 x3 x4 (1 : Int32) _ _ _ hS h (lv_sub hl [0, 1, 2, 3] rfl)
  have K_56 : ∀ (σ : ez_H) (h0 : Nat) (y0 : Int32) (H : Heap) (locs : List Loc) (ls : Array Slot), ez_S X B s.heap (σ0.length) σ H locs → z_X12_unit_56 σ h0 y0 = some z → lv_has ls 7 [(0, .ref (B + h0))] → W p l e R s m args below meth c H locs 0 0 Q (F0 m 56 ls [.int y0]) := by
    intro σ h0 y0 H locs ls hS h hl
    refine lv_istore_n (lv' := [(2, .int y0), (0, .ref (B + h0))]) hx hb dX12_unit_56 rfl hl (by decide) rfl (fun ls hl => ?_)
    refine lv_aload_n hx hb dX12_unit_57 rfl (lv_at hl 1 rfl) ?_
    refine lv_bipush (v := 40) hx hb dX12_unit_58 (by decide) ?_
    refine ez_cVpi (As := [.int 40]) (rest := []) h (fun _ q => c_X12_isSignHere q) hC k_X12_isSignHere ql_RX12_318 rfl (by decide) hS (fun _ q => ez_rcv q) rfl hl.1 rfl (Nat.le_of_ble_eq_true rfl) ⟨Nat.zero_le _, Nat.zero_le _⟩ dX12_unit_60 (fun t_60 H locs hS h => ?_)
    refine lv_istore_n (lv' := [(3, .int t_60), (2, .int y0), (0, .ref (B + h0))]) hx hb dX12_unit_63 rfl hl (by decide) rfl (fun ls hl => ?_)
    refine lv_aload_n hx hb dX12_unit_64 rfl (lv_at hl 2 rfl) ?_
    refine ez_cVpi (As := []) (rest := []) h (fun _ q => c_X12_wordHere q) hC k_X12_wordHere ql_RX12_374 rfl (by decide) hS (fun _ q => ez_rcv q) rfl hl.1 rfl (Nat.le_of_ble_eq_true rfl) ⟨Nat.zero_le _, Nat.zero_le _⟩ dX12_unit_65 (fun t_65 H locs hS h => ?_)
    refine lv_istore (lv' := [(4, .int t_65), (3, .int t_60), (2, .int y0), (0, .ref (B + h0))]) hx hb dX12_unit_68 hl (by decide) rfl (fun ls hl => ?_)
    refine lv_aload_n hx hb dX12_unit_70 rfl (lv_at hl 3 rfl) ?_
    refine eg_RX12_45 hC hS h dX12_unit_71 (fun t_71 h => ?_)
    refine lv_aload_n hx hb dX12_unit_74 rfl (lv_at hl 3 rfl) ?_
    refine eg_RX12_265 hC hS h dX12_unit_75 (fun t_75 h => ?_)
    refine ez_ial hC hS h dX12_unit_78 (fun t_78 h => ?_)
    refine lv_bipush (v := 60) hx hb dX12_unit_79 (by decide) ?_
    refine lv_icmp_eq (tgt := 93) hx hb dX12_unit_81 (by decide) (fun c_81 => ?_) (fun c_81 => ?_)
    · replace h := ez_ifp h c_81
      exact K_93  σ h0 y0 t_60 t_65 _ _ _ hS h (lv_sub hl [3, 2, 1, 0] rfl)
    · replace h := ez_ifn h c_81
      refine lv_aload_n hx hb dX12_unit_84 rfl (lv_at hl 3 rfl) ?_
      refine eg_RX12_353 hC hS h dX12_unit_85 (fun t_85 h => ?_)
      refine lv_bipush (v := 30) hx hb dX12_unit_88 (by decide) ?_
      refine lv_icmp_ne (tgt := 97) hx hb dX12_unit_90 (by decide) (fun c_90 => ?_) (fun c_90 => ?_)
      · replace h := ez_ifn h c_90
        refine lv_iconst (v := 0) hx hb dX12_unit_97 (by decide) ?_
        exact K_98  σ h0 y0 t_60 t_65 (0 : Int32) _ _ _ hS h (lv_sub hl [3, 2, 1, 0] rfl)
      · replace h := ez_ifp h c_90
        exact K_93  σ h0 y0 t_60 t_65 _ _ _ hS h (lv_sub hl [3, 2, 1, 0] rfl)
  have K_55 : ∀ (σ : ez_H) (h0 : Nat) (H : Heap) (locs : List Loc) (ls : Array Slot), ez_S X B s.heap (σ0.length) σ H locs → z_X12_unit_55 σ h0 = some z → lv_has ls 7 [(0, .ref (B + h0))] → W p l e R s m args below meth c H locs 0 0 Q (F0 m 55 ls []) := by
    intro σ h0 H locs ls hS h hl
    refine lv_iconst (v := 0) hx hb dX12_unit_55 (by decide) ?_
    exact K_56  σ h0 (0 : Int32) _ _ _ hS h (lv_sub hl [0] rfl)
  have K_36 : ∀ (σ : ez_H) (h0 : Nat) (y0 : Int32) (H : Heap) (locs : List Loc) (ls : Array Slot), ez_S X B s.heap (σ0.length) σ H locs → z_X12_unit_36 σ h0 y0 = some z → lv_has ls 7 [(0, .ref (B + h0))] → W p l e R s m args below meth c H locs 0 0 Q (F0 m 36 ls [.int y0]) := by
    intro σ h0 y0 H locs ls hS h hl
    refine lv_istore_n (lv' := [(1, .int y0), (0, .ref (B + h0))]) hx hb dX12_unit_36 rfl hl (by decide) rfl (fun ls hl => ?_)
    refine lv_iload_n hx hb dX12_unit_37 rfl (lv_at hl 0 rfl) ?_
    refine lv_if_eq (tgt := 55) hx hb dX12_unit_38 (by decide) (fun c_38 => ?_) (fun c_38 => ?_)
    · replace h := ez_ifp h c_38
      exact K_55  σ h0 _ _ _ hS h (lv_sub hl [1] rfl)
    · replace h := ez_ifn h c_38
      refine lv_aload_n hx hb dX12_unit_41 rfl (lv_at hl 1 rfl) ?_
      refine lv_ldc2 hx hb hown (hts _ qc_RX12_211) dX12_unit_42 ?_
      refine ez_cVpi (As := [.long 7237492]) (rest := []) h (fun _ q => c_X12_isWord q) hC k_X12_isWord ql_RX12_280 rfl (by decide) hS (fun _ q => ez_rcv q) rfl hl.1 rfl (Nat.le_of_ble_eq_true rfl) ⟨Nat.zero_le _, Nat.zero_le _⟩ dX12_unit_45 (fun t_45 H locs hS h => ?_)
      refine lv_if_eq (tgt := 55) hx hb dX12_unit_48 (by decide) (fun c_48 => ?_) (fun c_48 => ?_)
      · replace h := ez_ifp h c_48
        exact K_55  σ h0 _ _ _ hS h (lv_sub hl [1] rfl)
      · replace h := ez_ifn h c_48
        refine lv_iconst (v := 1) hx hb dX12_unit_51 (by decide) ?_
        refine lv_goto (tgt := 56) hx hb dX12_unit_52 (by decide) ?_
        exact K_56  σ h0 (1 : Int32) _ _ _ hS h (lv_sub hl [1] rfl)
  have K_31 : ∀ (σ : ez_H) (h0 : Nat) (H : Heap) (locs : List Loc) (ls : Array Slot), ez_S X B s.heap (σ0.length) σ H locs → z_X12_unit_31 σ h0 = some z → lv_has ls 7 [(0, .ref (B + h0))] → W p l e R s m args below meth c H locs 0 0 Q (F0 m 31 ls []) := by
    intro σ h0 H locs ls hS h hl
    refine lv_iconst (v := 1) hx hb dX12_unit_31 (by decide) ?_
    refine lv_goto (tgt := 36) hx hb dX12_unit_32 (by decide) ?_
    exact K_36  σ h0 (1 : Int32) _ _ _ hS h (lv_sub hl [0] rfl)
  refine lv_aload_n hx hb dX12_unit_0 rfl (lv_at hl 0 rfl) ?_
  refine eg_RX12_109 hC hS h dX12_unit_1 (fun t_1 h => ?_)
  refine lv_aload_n hx hb dX12_unit_4 rfl (lv_at hl 0 rfl) ?_
  refine eg_RX12_359 hC hS h dX12_unit_5 (fun t_5 h => ?_)
  refine lv_iconst (v := 1) hx hb dX12_unit_8 (by decide) ?_
  refine lv_isub hx hb dX12_unit_9 ?_
  refine ez_top h (fun t_9 h => ?_)
  refine ez_ial hC hS h dX12_unit_10 (fun t_10 h => ?_)
  refine lv_iconst (v := 3) hx hb dX12_unit_11 (by decide) ?_
  refine lv_icmp_le (tgt := 31) hx hb dX12_unit_12 (by decide) (fun c_12 => ?_) (fun c_12 => ?_)
  · replace h := ez_ifp h c_12
    exact K_31  σ h0 _ _ _ hS h (lv_sub hl [0] rfl)
  · replace h := ez_ifn h c_12
    refine lv_aload_n hx hb dX12_unit_15 rfl (lv_at hl 0 rfl) ?_
    refine eg_RX12_109 hC hS h dX12_unit_16 (fun t_16 h => ?_)
    refine lv_aload_n hx hb dX12_unit_19 rfl (lv_at hl 0 rfl) ?_
    refine eg_RX12_359 hC hS h dX12_unit_20 (fun t_20 h => ?_)
    refine lv_iconst (v := 1) hx hb dX12_unit_23 (by decide) ?_
    refine lv_isub hx hb dX12_unit_24 ?_
    refine ez_top h (fun t_24 h => ?_)
    refine ez_ial hC hS h dX12_unit_25 (fun t_25 h => ?_)
    refine lv_bipush (v := 7) hx hb dX12_unit_26 (by decide) ?_
    refine lv_icmp_lt (tgt := 35) hx hb dX12_unit_28 (by decide) (fun c_28 => ?_) (fun c_28 => ?_)
    · replace h := ez_ifp h c_28
      refine lv_iconst (v := 0) hx hb dX12_unit_35 (by decide) ?_
      exact K_36  σ h0 (0 : Int32) _ _ _ hS h (lv_sub hl [0] rfl)
    · replace h := ez_ifn h c_28
      exact K_31  σ h0 _ _ _ hS h (lv_sub hl [0] rfl)
set_option maxHeartbeats 4000000 in
set_option maxRecDepth 100000 in
theorem c_X12_rankHere {l : Launch} {X : ez_X} {B : Nat} {σ : ez_H} {h0 : Nat} {z : Int32} (h : z_X12_rankHere σ h0 = some z) : ez_M l X B σ yX12_rankHere cX12_rankHere 1 (some .int) 2 [.ref (B + h0)] (some (.int z)) σ := by
  refine ez_startip (z := z) (by decide) (Nat.le_of_ble_eq_true rfl) (fun p e R s m args below meth c Q hC hret hS ls hl => ?_)
  have hC : ez_C p R s m args c X B RX12 cX12_rankHere 1 2 := hC
  have hx := hC.1.1
  have hb := hC.1.2.1
  have hown := hC.1.2.2.2.1
  have hts := hC.1.2.2.2.2
  have hl : lv_has ls 1 [(0, .ref (B + h0))] := hl
  obtain ⟨n0, e0⟩ : ∃ n0 : Nat, n0 = σ.length := ⟨_, rfl⟩
  rw [← e0] at hret hS
  obtain ⟨-, h⟩ := ez_in h
  have K_51 : ∀ (H : Heap) (locs : List Loc) (ls : Array Slot), ez_S X B s.heap (n0) σ H locs → z_X12_rankHere_51 σ = some z → lv_has ls 1 [] → W p l e R s m args below meth c H locs 0 0 Q (F0 m 51 ls []) := by
    intro  H locs ls hS h hl
    refine lv_iconst (v := 4) hx hb dX12_rankHere_51 (by decide) ?_
    exact hret _ _ _ _ _ (Option.some.inj h) rfl hS dX12_rankHere_52
  have K_71 : ∀ (H : Heap) (locs : List Loc) (ls : Array Slot), ez_S X B s.heap (n0) σ H locs → z_X12_rankHere_71 σ = some z → lv_has ls 1 [] → W p l e R s m args below meth c H locs 0 0 Q (F0 m 71 ls []) := by
    intro  H locs ls hS h hl
    refine lv_iconst (v := 5) hx hb dX12_rankHere_71 (by decide) ?_
    exact hret _ _ _ _ _ (Option.some.inj h) rfl hS dX12_rankHere_72
  have K_106 : ∀ (y0 : Int32) (H : Heap) (locs : List Loc) (ls : Array Slot), ez_S X B s.heap (n0) σ H locs → z_X12_rankHere_106 σ y0 = some z → lv_has ls 1 [] → W p l e R s m args below meth c H locs 0 0 Q (F0 m 106 ls [.int y0]) := by
    intro y0 H locs ls hS h hl
    exact hret _ _ _ _ _ (Option.some.inj h) rfl hS dX12_rankHere_106
  have K_100 : ∀ (H : Heap) (locs : List Loc) (ls : Array Slot), ez_S X B s.heap (n0) σ H locs → z_X12_rankHere_100 σ = some z → lv_has ls 1 [] → W p l e R s m args below meth c H locs 0 0 Q (F0 m 100 ls []) := by
    intro  H locs ls hS h hl
    refine lv_bipush (v := 6) hx hb dX12_rankHere_100 (by decide) ?_
    refine lv_goto (tgt := 106) hx hb dX12_rankHere_102 (by decide) ?_
    exact K_106  (6 : Int32) _ _ _ hS h (lv_sub hl [] rfl)
  refine lv_aload_n hx hb dX12_rankHere_0 rfl (lv_at hl 0 rfl) ?_
  refine lv_ldc2 hx hb hown (hts _ qc_RX12_209) dX12_rankHere_1 ?_
  refine ez_cVpi (As := [.long 6385252]) (rest := []) h (fun _ q => c_X12_isWord q) hC k_X12_isWord ql_RX12_280 rfl (by decide) hS (fun _ q => ez_rcv q) rfl hl.1 rfl (Nat.le_of_ble_eq_true rfl) ⟨Nat.zero_le _, Nat.zero_le _⟩ dX12_rankHere_4 (fun t_4 H locs hS h => ?_)
  refine lv_if_eq (tgt := 12) hx hb dX12_rankHere_7 (by decide) (fun c_7 => ?_) (fun c_7 => ?_)
  · replace h := ez_ifp h c_7
    refine lv_aload_n hx hb dX12_rankHere_12 rfl (lv_at hl 0 rfl) ?_
    refine lv_ldc2 hx hb hown (hts _ qc_RX12_207) dX12_rankHere_13 ?_
    refine ez_cVpi (As := [.long 28530]) (rest := []) h (fun _ q => c_X12_isWord q) hC k_X12_isWord ql_RX12_280 rfl (by decide) hS (fun _ q => ez_rcv q) rfl hl.1 rfl (Nat.le_of_ble_eq_true rfl) ⟨Nat.zero_le _, Nat.zero_le _⟩ dX12_rankHere_16 (fun t_16 H locs hS h => ?_)
    refine lv_if_eq (tgt := 24) hx hb dX12_rankHere_19 (by decide) (fun c_19 => ?_) (fun c_19 => ?_)
    · replace h := ez_ifp h c_19
      refine lv_aload_n hx hb dX12_rankHere_24 rfl (lv_at hl 0 rfl) ?_
      refine lv_bipush (v := 60) hx hb dX12_rankHere_25 (by decide) ?_
      refine ez_cVpi (As := [.int 60]) (rest := []) h (fun _ q => c_X12_isSignHere q) hC k_X12_isSignHere ql_RX12_318 rfl (by decide) hS (fun _ q => ez_rcv q) rfl hl.1 rfl (Nat.le_of_ble_eq_true rfl) ⟨Nat.zero_le _, Nat.zero_le _⟩ dX12_rankHere_27 (fun t_27 H locs hS h => ?_)
      refine lv_if_ne (tgt := 51) hx hb dX12_rankHere_30 (by decide) (fun c_30 => ?_) (fun c_30 => ?_)
      · replace h := ez_ifn h c_30
        exact K_51   _ _ _ hS h (lv_sub hl [] rfl)
      · replace h := ez_ifp h c_30
        refine lv_aload_n hx hb dX12_rankHere_33 rfl (lv_at hl 0 rfl) ?_
        refine lv_bipush (v := 62) hx hb dX12_rankHere_34 (by decide) ?_
        refine ez_cVpi (As := [.int 62]) (rest := []) h (fun _ q => c_X12_isSignHere q) hC k_X12_isSignHere ql_RX12_318 rfl (by decide) hS (fun _ q => ez_rcv q) rfl hl.1 rfl (Nat.le_of_ble_eq_true rfl) ⟨Nat.zero_le _, Nat.zero_le _⟩ dX12_rankHere_36 (fun t_36 H locs hS h => ?_)
        refine lv_if_ne (tgt := 51) hx hb dX12_rankHere_39 (by decide) (fun c_39 => ?_) (fun c_39 => ?_)
        · replace h := ez_ifn h c_39
          exact K_51   _ _ _ hS h (lv_sub hl [] rfl)
        · replace h := ez_ifp h c_39
          refine lv_aload_n hx hb dX12_rankHere_42 rfl (lv_at hl 0 rfl) ?_
          refine lv_bipush (v := 61) hx hb dX12_rankHere_43 (by decide) ?_
          refine ez_cVpi (As := [.int 61]) (rest := []) h (fun _ q => c_X12_isSignHere q) hC k_X12_isSignHere ql_RX12_318 rfl (by decide) hS (fun _ q => ez_rcv q) rfl hl.1 rfl (Nat.le_of_ble_eq_true rfl) ⟨Nat.zero_le _, Nat.zero_le _⟩ dX12_rankHere_45 (fun t_45 H locs hS h => ?_)
          refine lv_if_eq (tgt := 53) hx hb dX12_rankHere_48 (by decide) (fun c_48 => ?_) (fun c_48 => ?_)
          · replace h := ez_ifp h c_48
            refine lv_aload_n hx hb dX12_rankHere_53 rfl (lv_at hl 0 rfl) ?_
            refine lv_bipush (v := 43) hx hb dX12_rankHere_54 (by decide) ?_
            refine ez_cVpi (As := [.int 43]) (rest := []) h (fun _ q => c_X12_isSignHere q) hC k_X12_isSignHere ql_RX12_318 rfl (by decide) hS (fun _ q => ez_rcv q) rfl hl.1 rfl (Nat.le_of_ble_eq_true rfl) ⟨Nat.zero_le _, Nat.zero_le _⟩ dX12_rankHere_56 (fun t_56 H locs hS h => ?_)
            refine lv_if_ne (tgt := 71) hx hb dX12_rankHere_59 (by decide) (fun c_59 => ?_) (fun c_59 => ?_)
            · replace h := ez_ifn h c_59
              exact K_71   _ _ _ hS h (lv_sub hl [] rfl)
            · replace h := ez_ifp h c_59
              refine lv_aload_n hx hb dX12_rankHere_62 rfl (lv_at hl 0 rfl) ?_
              refine lv_bipush (v := 45) hx hb dX12_rankHere_63 (by decide) ?_
              refine ez_cVpi (As := [.int 45]) (rest := []) h (fun _ q => c_X12_isSignHere q) hC k_X12_isSignHere ql_RX12_318 rfl (by decide) hS (fun _ q => ez_rcv q) rfl hl.1 rfl (Nat.le_of_ble_eq_true rfl) ⟨Nat.zero_le _, Nat.zero_le _⟩ dX12_rankHere_65 (fun t_65 H locs hS h => ?_)
              refine lv_if_eq (tgt := 73) hx hb dX12_rankHere_68 (by decide) (fun c_68 => ?_) (fun c_68 => ?_)
              · replace h := ez_ifp h c_68
                refine lv_aload_n hx hb dX12_rankHere_73 rfl (lv_at hl 0 rfl) ?_
                refine lv_bipush (v := 42) hx hb dX12_rankHere_74 (by decide) ?_
                refine ez_cVpi (As := [.int 42]) (rest := []) h (fun _ q => c_X12_isSignHere q) hC k_X12_isSignHere ql_RX12_318 rfl (by decide) hS (fun _ q => ez_rcv q) rfl hl.1 rfl (Nat.le_of_ble_eq_true rfl) ⟨Nat.zero_le _, Nat.zero_le _⟩ dX12_rankHere_76 (fun t_76 H locs hS h => ?_)
                refine lv_if_ne (tgt := 100) hx hb dX12_rankHere_79 (by decide) (fun c_79 => ?_) (fun c_79 => ?_)
                · replace h := ez_ifn h c_79
                  exact K_100   _ _ _ hS h (lv_sub hl [] rfl)
                · replace h := ez_ifp h c_79
                  refine lv_aload_n hx hb dX12_rankHere_82 rfl (lv_at hl 0 rfl) ?_
                  refine lv_bipush (v := 47) hx hb dX12_rankHere_83 (by decide) ?_
                  refine ez_cVpi (As := [.int 47]) (rest := []) h (fun _ q => c_X12_isSignHere q) hC k_X12_isSignHere ql_RX12_318 rfl (by decide) hS (fun _ q => ez_rcv q) rfl hl.1 rfl (Nat.le_of_ble_eq_true rfl) ⟨Nat.zero_le _, Nat.zero_le _⟩ dX12_rankHere_85 (fun t_85 H locs hS h => ?_)
                  refine lv_if_ne (tgt := 100) hx hb dX12_rankHere_88 (by decide) (fun c_88 => ?_) (fun c_88 => ?_)
                  · replace h := ez_ifn h c_88
                    exact K_100   _ _ _ hS h (lv_sub hl [] rfl)
                  · replace h := ez_ifp h c_88
                    refine lv_aload_n hx hb dX12_rankHere_91 rfl (lv_at hl 0 rfl) ?_
                    refine lv_bipush (v := 37) hx hb dX12_rankHere_92 (by decide) ?_
                    refine ez_cVpi (As := [.int 37]) (rest := []) h (fun _ q => c_X12_isSignHere q) hC k_X12_isSignHere ql_RX12_318 rfl (by decide) hS (fun _ q => ez_rcv q) rfl hl.1 rfl (Nat.le_of_ble_eq_true rfl) ⟨Nat.zero_le _, Nat.zero_le _⟩ dX12_rankHere_94 (fun t_94 H locs hS h => ?_)
                    refine lv_if_eq (tgt := 105) hx hb dX12_rankHere_97 (by decide) (fun c_97 => ?_) (fun c_97 => ?_)
                    · replace h := ez_ifp h c_97
                      refine lv_iconst (v := 0) hx hb dX12_rankHere_105 (by decide) ?_
                      exact K_106  (0 : Int32) _ _ _ hS h (lv_sub hl [] rfl)
                    · replace h := ez_ifn h c_97
                      exact K_100   _ _ _ hS h (lv_sub hl [] rfl)
              · replace h := ez_ifn h c_68
                exact K_71   _ _ _ hS h (lv_sub hl [] rfl)
          · replace h := ez_ifn h c_48
            exact K_51   _ _ _ hS h (lv_sub hl [] rfl)
    · replace h := ez_ifn h c_19
      refine lv_iconst (v := 1) hx hb dX12_rankHere_22 (by decide) ?_
      exact hret _ _ _ _ _ (Option.some.inj h) rfl hS dX12_rankHere_23
  · replace h := ez_ifn h c_7
    refine lv_iconst (v := 2) hx hb dX12_rankHere_10 (by decide) ?_
    exact hret _ _ _ _ _ (Option.some.inj h) rfl hS dX12_rankHere_11
set_option maxHeartbeats 4000000 in
set_option maxRecDepth 100000 in
theorem c_X12_isCompared {l : Launch} {X : ez_X} {B : Nat} {σ : ez_H} {h0 : Nat} {z : Int32} (h : z_X12_isCompared σ h0 = some z) : ez_M l X B σ yX12_isCompared cX12_isCompared 2 (some .boolean) 0 [.ref (B + h0)] (some (.int z)) σ := by
  refine ez_startip (z := z) (by decide) (Nat.le_of_ble_eq_true rfl) (fun p e R s m args below meth c Q hC hret hS ls hl => ?_)
  have hC : ez_C p R s m args c X B RX12 cX12_isCompared 2 0 := hC
  have hx := hC.1.1
  have hb := hC.1.2.1
  have hown := hC.1.2.2.2.1
  have hts := hC.1.2.2.2.2
  have hl : lv_has ls 2 [(0, .ref (B + h0))] := hl
  obtain ⟨n0, e0⟩ : ∃ n0 : Nat, n0 = σ.length := ⟨_, rfl⟩
  rw [← e0] at hret hS
  obtain ⟨-, h⟩ := ez_in h
  have K_28 : ∀ (k_7 : Nat → Int32 → Option (Int32)) (hk_7 : ∀ (h0 : Nat) (x1 : Int32) (H : Heap) (locs : List Loc) (ls : Array Slot), ez_S X B s.heap (n0) σ H locs → k_7 h0 x1 = some z → lv_has ls 2 [(0, .ref (B + h0)), (1, .int x1)] → W p l e R s m args below meth c H locs 0 0 Q (F0 m 7 ls [])), ∀ (h0 : Nat) (x1 : Int32) (H : Heap) (locs : List Loc) (ls : Array Slot), ez_S X B s.heap (n0) σ H locs → z_X12_isCompared_28 σ k_7 h0 x1 = some z → lv_has ls 2 [(0, .ref (B + h0)), (1, .int x1)] → W p l e R s m args below meth c H locs 0 0 Q (F0 m 28 ls []) := by
    intro k_7 hk_7 h0 x1 H locs ls hS h hl
    obtain ⟨t_28, e_28, h⟩ := ez_let_sp h
    refine lv_iinc (v := t_28) (lv' := [(1, .int t_28), (0, .ref (B + h0))]) hx hb dX12_isCompared_28 hl (k := 1) rfl (by rw [e_28]; rfl) (by decide) rfl (fun ls hl => ?_)
    refine lv_goto (tgt := 7) hx hb dX12_isCompared_31 (by decide) ?_
    exact hk_7 h0 t_28 _ _ _ hS h (lv_sub hl [1, 0] rfl)
  have K_49 : ∀ (y0 : Int32) (H : Heap) (locs : List Loc) (ls : Array Slot), ez_S X B s.heap (n0) σ H locs → z_X12_isCompared_49 σ y0 = some z → lv_has ls 2 [] → W p l e R s m args below meth c H locs 0 0 Q (F0 m 49 ls [.int y0]) := by
    intro y0 H locs ls hS h hl
    obtain ⟨hn, h⟩ := ez_nr_sp rfl h
    exact hret _ _ _ _ _ (Option.some.inj h) hn hS dX12_isCompared_49
  have K_7 : ∀ (k_7 : Nat → Int32 → Option (Int32)) (hk_7 : ∀ (h0 : Nat) (x1 : Int32) (H : Heap) (locs : List Loc) (ls : Array Slot), ez_S X B s.heap (n0) σ H locs → k_7 h0 x1 = some z → lv_has ls 2 [(0, .ref (B + h0)), (1, .int x1)] → W p l e R s m args below meth c H locs 0 0 Q (F0 m 7 ls [])), ∀ (h0 : Nat) (x1 : Int32) (H : Heap) (locs : List Loc) (ls : Array Slot), ez_S X B s.heap (n0) σ H locs → z_X12_isCompared_7 σ k_7 h0 x1 = some z → lv_has ls 2 [(0, .ref (B + h0)), (1, .int x1)] → W p l e R s m args below meth c H locs 0 0 Q (F0 m 7 ls []) := by
    intro k_7 hk_7 h0 x1 H locs ls hS h hl
    refine lv_aload_n hx hb dX12_isCompared_7 rfl (lv_at hl 0 rfl) ?_
    refine eg_RX12_109 hC hS h dX12_isCompared_8 (fun t_8 h => ?_)
    refine lv_iload_n hx hb dX12_isCompared_11 rfl (lv_at hl 1 rfl) ?_
    refine ez_ial hC hS h dX12_isCompared_12 (fun t_12 h => ?_)
    refine lv_iconst (v := 5) hx hb dX12_isCompared_13 (by decide) ?_
    refine lv_icmp_eq (tgt := 28) hx hb dX12_isCompared_14 (by decide) (fun c_14 => ?_) (fun c_14 => ?_)
    · replace h := ez_ifp h c_14
      exact K_28 k_7 hk_7 h0 x1 _ _ _ hS h (lv_sub hl [0, 1] rfl)
    · replace h := ez_ifn h c_14
      refine lv_aload_n hx hb dX12_isCompared_17 rfl (lv_at hl 0 rfl) ?_
      refine eg_RX12_109 hC hS h dX12_isCompared_18 (fun t_18 h => ?_)
      refine lv_iload_n hx hb dX12_isCompared_21 rfl (lv_at hl 1 rfl) ?_
      refine ez_ial hC hS h dX12_isCompared_22 (fun t_22 h => ?_)
      refine lv_bipush (v := 6) hx hb dX12_isCompared_23 (by decide) ?_
      refine lv_icmp_ne (tgt := 34) hx hb dX12_isCompared_25 (by decide) (fun c_25 => ?_) (fun c_25 => ?_)
      · replace h := ez_ifn h c_25
        refine lv_aload_n hx hb dX12_isCompared_34 rfl (lv_at hl 0 rfl) ?_
        refine eg_RX12_109 hC hS h dX12_isCompared_35 (fun t_35 h => ?_)
        refine lv_iload_n hx hb dX12_isCompared_38 rfl (lv_at hl 1 rfl) ?_
        refine ez_ial hC hS h dX12_isCompared_39 (fun t_39 h => ?_)
        refine lv_iconst (v := 4) hx hb dX12_isCompared_40 (by decide) ?_
        refine lv_icmp_ne (tgt := 48) hx hb dX12_isCompared_41 (by decide) (fun c_41 => ?_) (fun c_41 => ?_)
        · replace h := ez_ifn h c_41
          refine lv_iconst (v := 0) hx hb dX12_isCompared_48 (by decide) ?_
          exact K_49  (0 : Int32) _ _ _ hS h (lv_sub hl [] rfl)
        · replace h := ez_ifp h c_41
          refine lv_iconst (v := 1) hx hb dX12_isCompared_44 (by decide) ?_
          refine lv_goto (tgt := 49) hx hb dX12_isCompared_45 (by decide) ?_
          exact K_49  (1 : Int32) _ _ _ hS h (lv_sub hl [] rfl)
      · replace h := ez_ifp h c_25
        exact K_28 k_7 hk_7 h0 x1 _ _ _ hS h (lv_sub hl [0, 1] rfl)
  have E_7 : ∀ (h0 : Nat) (x1 : Int32) (H : Heap) (locs : List Loc) (ls : Array Slot), ez_S X B s.heap (n0) σ H locs → (ez_fix (fun _ _ => none) (z_X12_isCompared_7 σ) ez_N) h0 x1 = some z → lv_has ls 2 [(0, .ref (B + h0)), (1, .int x1)] → W p l e R s m args below meth c H locs 0 0 Q (F0 m 7 ls []) := ez_fix_ind (fun k_7 : Nat → Int32 → Option (Int32) => ∀ (h0 : Nat) (x1 : Int32) (H : Heap) (locs : List Loc) (ls : Array Slot), ez_S X B s.heap (n0) σ H locs → k_7 h0 x1 = some z → lv_has ls 2 [(0, .ref (B + h0)), (1, .int x1)] → W p l e R s m args below meth c H locs 0 0 Q (F0 m 7 ls [])) (fun _ _ _ _ _ _ h _ => by cases h) (fun k_7 hk_7 => K_7 k_7 hk_7) ez_N
  refine lv_aload_n hx hb dX12_isCompared_0 rfl (lv_at hl 0 rfl) ?_
  refine eg_RX12_359 hC hS h dX12_isCompared_1 (fun t_1 h => ?_)
  refine lv_iconst (v := 1) hx hb dX12_isCompared_4 (by decide) ?_
  refine lv_isub hx hb dX12_isCompared_5 ?_
  refine ez_top h (fun t_5 h => ?_)
  refine lv_istore_n (lv' := [(1, .int t_5), (0, .ref (B + h0))]) hx hb dX12_isCompared_6 rfl hl (by decide) rfl (fun ls hl => ?_)
  exact E_7  h0 t_5 _ _ _ hS h (lv_sub hl [1, 0] rfl)
