set_option maxHeartbeats 4000000 in
set_option maxRecDepth 100000 in
theorem c_X12_isIn {l : Launch} {X : ez_X} {B : Nat} {σ : ez_H} {x0 : Int32} {x1 : Int32} {x2 : Int32} {z : Int32} (h : z_X12_isIn σ x0 x1 x2 = some z) : ez_M l X B σ yX12_isIn cX12_isIn 3 (some .boolean) 0 [.int x0, .int x1, .int x2] (some (.int z)) σ := by
  refine ez_startip (z := z) (by decide) (Nat.le_of_ble_eq_true rfl) (fun p e R s m args below meth c Q hC hret hS ls hl => ?_)
  have hC : ez_C p R s m args c X B RX12 cX12_isIn 3 0 := hC
  have hx := hC.1.1
  have hb := hC.1.2.1
  have hown := hC.1.2.2.2.1
  have hts := hC.1.2.2.2.2
  have hl : lv_has ls 3 [(0, .int x0), (1, .int x1), (2, .int x2)] := hl
  obtain ⟨n0, e0⟩ : ∃ n0 : Nat, n0 = σ.length := ⟨_, rfl⟩
  rw [← e0] at hret hS
  have K_15 : ∀ (y0 : Int32) (H : Heap) (locs : List Loc) (ls : Array Slot), ez_S X B s.heap (n0) σ H locs → z_X12_isIn_15 σ y0 = some z → lv_has ls 3 [] → W p l e R s m args below meth c H locs 0 0 Q (F0 m 15 ls [.int y0]) := by
    intro y0 H locs ls hS h hl
    obtain ⟨hn, h⟩ := ez_nr_sp rfl h
    exact hret _ _ _ _ _ (Option.some.inj h) hn hS dX12_isIn_15
  have K_14 : ∀ (H : Heap) (locs : List Loc) (ls : Array Slot), ez_S X B s.heap (n0) σ H locs → z_X12_isIn_14 σ = some z → lv_has ls 3 [] → W p l e R s m args below meth c H locs 0 0 Q (F0 m 14 ls []) := by
    intro  H locs ls hS h hl
    refine lv_iconst (v := 0) hx hb dX12_isIn_14 (by decide) ?_
    exact K_15  (0 : Int32) _ _ _ hS h (lv_sub hl [] rfl)
  refine lv_iload_n hx hb dX12_isIn_0 rfl (lv_at hl 0 rfl) ?_
  refine lv_iload_n hx hb dX12_isIn_1 rfl (lv_at hl 1 rfl) ?_
  refine lv_icmp_lt (tgt := 14) hx hb dX12_isIn_2 (by decide) (fun c_2 => ?_) (fun c_2 => ?_)
  · replace h := ez_ifp h c_2
    exact K_14   _ _ _ hS h (lv_sub hl [] rfl)
  · replace h := ez_ifn h c_2
    refine lv_iload_n hx hb dX12_isIn_5 rfl (lv_at hl 0 rfl) ?_
    refine lv_iload_n hx hb dX12_isIn_6 rfl (lv_at hl 2 rfl) ?_
    refine lv_icmp_gt (tgt := 14) hx hb dX12_isIn_7 (by decide) (fun c_7 => ?_) (fun c_7 => ?_)
    · replace h := ez_ifp h c_7
      exact K_14   _ _ _ hS h (lv_sub hl [] rfl)
    · replace h := ez_ifn h c_7
      refine lv_iconst (v := 1) hx hb dX12_isIn_10 (by decide) ?_
      refine lv_goto (tgt := 15) hx hb dX12_isIn_11 (by decide) ?_
      exact K_15  (1 : Int32) _ _ _ hS h (lv_sub hl [] rfl)
set_option maxHeartbeats 4000000 in
set_option maxRecDepth 100000 in
theorem c_X12_power {l : Launch} {X : ez_X} {B : Nat} {σ : ez_H} {x0 : Int32} {x1 : Int32} {z : Int32} (h : z_X12_power σ x0 x1 = some z) : ez_M l X B σ yX12_power cX12_power 4 (some .int) 0 [.int x0, .int x1] (some (.int z)) σ := by
  refine ez_startip (z := z) (by decide) (Nat.le_of_ble_eq_true rfl) (fun p e R s m args below meth c Q hC hret hS ls hl => ?_)
  have hC : ez_C p R s m args c X B RX12 cX12_power 4 0 := hC
  have hx := hC.1.1
  have hb := hC.1.2.1
  have hown := hC.1.2.2.2.1
  have hts := hC.1.2.2.2.2
  have hl : lv_has ls 4 [(0, .int x0), (1, .int x1)] := hl
  obtain ⟨n0, e0⟩ : ∃ n0 : Nat, n0 = σ.length := ⟨_, rfl⟩
  rw [← e0] at hret hS
  have K_4 : ∀ (k_4 : Int32 → Int32 → Int32 → Int32 → Option (Int32)) (hk_4 : ∀ (x0 : Int32) (x1 : Int32) (x2 : Int32) (x3 : Int32) (H : Heap) (locs : List Loc) (ls : Array Slot), ez_S X B s.heap (n0) σ H locs → k_4 x0 x1 x2 x3 = some z → lv_has ls 4 [(0, .int x0), (1, .int x1), (2, .int x2), (3, .int x3)] → W p l e R s m args below meth c H locs 0 0 Q (F0 m 4 ls [])), ∀ (x0 : Int32) (x1 : Int32) (x2 : Int32) (x3 : Int32) (H : Heap) (locs : List Loc) (ls : Array Slot), ez_S X B s.heap (n0) σ H locs → z_X12_power_4 σ k_4 x0 x1 x2 x3 = some z → lv_has ls 4 [(0, .int x0), (1, .int x1), (2, .int x2), (3, .int x3)] → W p l e R s m args below meth c H locs 0 0 Q (F0 m 4 ls []) := by
    intro k_4 hk_4 x0 x1 x2 x3 H locs ls hS h hl
    refine lv_iload_n hx hb dX12_power_4 rfl (lv_at hl 3 rfl) ?_
    refine lv_iload_n hx hb dX12_power_5 rfl (lv_at hl 1 rfl) ?_
    refine lv_icmp_ge (tgt := 19) hx hb dX12_power_6 (by decide) (fun c_6 => ?_) (fun c_6 => ?_)
    · replace h := ez_ifp h c_6
      refine lv_iload_n hx hb dX12_power_19 rfl (lv_at hl 2 rfl) ?_
      exact hret _ _ _ _ _ (Option.some.inj h) rfl hS dX12_power_20
    · replace h := ez_ifn h c_6
      refine lv_iload_n hx hb dX12_power_9 rfl (lv_at hl 2 rfl) ?_
      refine lv_iload_n hx hb dX12_power_10 rfl (lv_at hl 0 rfl) ?_
      refine lv_imul hx hb dX12_power_11 ?_
      refine ez_top h (fun t_11 h => ?_)
      refine lv_istore_n (lv' := [(2, .int t_11), (0, .int x0), (1, .int x1), (3, .int x3)]) hx hb dX12_power_12 rfl hl (by decide) rfl (fun ls hl => ?_)
      obtain ⟨t_13, e_13, h⟩ := ez_let_sp h
      refine lv_iinc (v := t_13) (lv' := [(3, .int t_13), (2, .int t_11), (0, .int x0), (1, .int x1)]) hx hb dX12_power_13 hl (k := 3) rfl (by rw [e_13]; rfl) (by decide) rfl (fun ls hl => ?_)
      refine lv_goto (tgt := 4) hx hb dX12_power_16 (by decide) ?_
      exact hk_4 x0 x1 t_11 t_13 _ _ _ hS h (lv_sub hl [2, 3, 1, 0] rfl)
  have E_4 : ∀ (x0 : Int32) (x1 : Int32) (x2 : Int32) (x3 : Int32) (H : Heap) (locs : List Loc) (ls : Array Slot), ez_S X B s.heap (n0) σ H locs → (ez_fix (fun _ _ _ _ => none) (z_X12_power_4 σ) ez_N) x0 x1 x2 x3 = some z → lv_has ls 4 [(0, .int x0), (1, .int x1), (2, .int x2), (3, .int x3)] → W p l e R s m args below meth c H locs 0 0 Q (F0 m 4 ls []) := ez_fix_ind (fun k_4 : Int32 → Int32 → Int32 → Int32 → Option (Int32) => ∀ (x0 : Int32) (x1 : Int32) (x2 : Int32) (x3 : Int32) (H : Heap) (locs : List Loc) (ls : Array Slot), ez_S X B s.heap (n0) σ H locs → k_4 x0 x1 x2 x3 = some z → lv_has ls 4 [(0, .int x0), (1, .int x1), (2, .int x2), (3, .int x3)] → W p l e R s m args below meth c H locs 0 0 Q (F0 m 4 ls [])) (fun _ _ _ _ _ _ _ _ h _ => by cases h) (fun k_4 hk_4 => K_4 k_4 hk_4) ez_N
  refine lv_iconst (v := 1) hx hb dX12_power_0 (by decide) ?_
  refine lv_istore_n (lv' := [(2, .int 1), (0, .int x0), (1, .int x1)]) hx hb dX12_power_1 rfl hl (by decide) rfl (fun ls hl => ?_)
  refine lv_iconst (v := 0) hx hb dX12_power_2 (by decide) ?_
  refine lv_istore_n (lv' := [(3, .int 0), (2, .int 1), (0, .int x0), (1, .int x1)]) hx hb dX12_power_3 rfl hl (by decide) rfl (fun ls hl => ?_)
  exact E_4  x0 x1 (1 : Int32) (0 : Int32) _ _ _ hS h (lv_sub hl [2, 3, 1, 0] rfl)
set_option maxHeartbeats 4000000 in
set_option maxRecDepth 100000 in
theorem c_X12_bittings {l : Launch} {X : ez_X} {B : Nat} {σ : ez_H} {h0 : Nat} {z : Int32} (h : z_X12_bittings σ h0 = some z) : ez_M l X B σ yX12_bittings cX12_bittings 1 (some .int) 1 [.ref (B + h0)] (some (.int z)) σ := by
  refine ez_startip (z := z) (by decide) (Nat.le_of_ble_eq_true rfl) (fun p e R s m args below meth c Q hC hret hS ls hl => ?_)
  have hC : ez_C p R s m args c X B RX12 cX12_bittings 1 1 := hC
  have hx := hC.1.1
  have hb := hC.1.2.1
  have hown := hC.1.2.2.2.1
  have hts := hC.1.2.2.2.2
  have hl : lv_has ls 1 [(0, .ref (B + h0))] := hl
  obtain ⟨n0, e0⟩ : ∃ n0 : Nat, n0 = σ.length := ⟨_, rfl⟩
  rw [← e0] at hret hS
  obtain ⟨-, h⟩ := ez_in h
  refine lv_aload_n hx hb dX12_bittings_0 rfl (lv_at hl 0 rfl) ?_
  refine ez_cVpi (As := []) (rest := []) h (fun _ q => c_X12_deep q) hC k_X12_deep ql_RX12_429 rfl (by decide) hS (fun _ q => ez_rcv q) rfl hl.1 rfl (Nat.le_of_ble_eq_true rfl) ⟨Nat.zero_le _, Nat.zero_le _⟩ dX12_bittings_1 (fun t_1 H locs hS h => ?_)
  refine lv_aload_n hx hb dX12_bittings_4 rfl (lv_at hl 0 rfl) ?_
  refine ez_cVpi (As := []) (rest := [.int t_1]) h (fun _ q => c_X12_wide q) hC k_X12_wide ql_RX12_414 rfl (by decide) hS (fun _ q => ez_rcv q) rfl hl.1 rfl (Nat.le_of_ble_eq_true rfl) ⟨Nat.zero_le _, Nat.zero_le _⟩ dX12_bittings_5 (fun t_5 H locs hS h => ?_)
  refine ez_cSpi (As := [.int t_1, .int t_5]) (rest := []) h (fun _ q => c_X12_power q) hC k_X12_power ql_RX12_432 rfl (by decide) hS hl.1 rfl (Nat.le_of_ble_eq_true rfl) ⟨Nat.zero_le _, Nat.zero_le _⟩ dX12_bittings_8 (fun t_8 H locs hS h => ?_)
  exact hret _ _ _ _ _ (Option.some.inj h) rfl hS dX12_bittings_11
set_option maxHeartbeats 4000000 in
set_option maxRecDepth 100000 in
theorem c_X12_absolute {l : Launch} {X : ez_X} {B : Nat} {σ : ez_H} {x0 : Int32} {z : Int32} (h : z_X12_absolute σ x0 = some z) : ez_M l X B σ yX12_absolute cX12_absolute 1 (some .int) 0 [.int x0] (some (.int z)) σ := by
  refine ez_startip (z := z) (by decide) (Nat.le_of_ble_eq_true rfl) (fun p e R s m args below meth c Q hC hret hS ls hl => ?_)
  have hC : ez_C p R s m args c X B RX12 cX12_absolute 1 0 := hC
  have hx := hC.1.1
  have hb := hC.1.2.1
  have hown := hC.1.2.2.2.1
  have hts := hC.1.2.2.2.2
  have hl : lv_has ls 1 [(0, .int x0)] := hl
  obtain ⟨n0, e0⟩ : ∃ n0 : Nat, n0 = σ.length := ⟨_, rfl⟩
  rw [← e0] at hret hS
  have K_10 : ∀ (y0 : Int32) (H : Heap) (locs : List Loc) (ls : Array Slot), ez_S X B s.heap (n0) σ H locs → z_X12_absolute_10 σ y0 = some z → lv_has ls 1 [] → W p l e R s m args below meth c H locs 0 0 Q (F0 m 10 ls [.int y0]) := by
    intro y0 H locs ls hS h hl
    exact hret _ _ _ _ _ (Option.some.inj h) rfl hS dX12_absolute_10
  refine lv_iload_n hx hb dX12_absolute_0 rfl (lv_at hl 0 rfl) ?_
  refine lv_if_ge (tgt := 9) hx hb dX12_absolute_1 (by decide) (fun c_1 => ?_) (fun c_1 => ?_)
  · replace h := ez_ifp h c_1
    refine lv_iload_n hx hb dX12_absolute_9 rfl (lv_at hl 0 rfl) ?_
    exact K_10  x0 _ _ _ hS h (lv_sub hl [] rfl)
  · replace h := ez_ifn h c_1
    refine lv_iload_n hx hb dX12_absolute_4 rfl (lv_at hl 0 rfl) ?_
    refine lv_ineg hx hb dX12_absolute_5 ?_
    refine ez_top h (fun t_5 h => ?_)
    refine lv_goto (tgt := 10) hx hb dX12_absolute_6 (by decide) ?_
    exact K_10  t_5 _ _ _ hS h (lv_sub hl [] rfl)
set_option maxHeartbeats 4000000 in
set_option maxRecDepth 100000 in
theorem c_X12_isLegalBy {l : Launch} {X : ez_X} {B : Nat} {σ : ez_H} {h0 : Nat} {x1 : Int32} {x2 : Int32} {z : Int32} (h : z_X12_isLegalBy σ h0 x1 x2 = some z) : ez_M l X B σ yX12_isLegalBy cX12_isLegalBy 6 (some .boolean) 1 [.ref (B + h0), .int x1, .int x2] (some (.int z)) σ := by
  refine ez_startip (z := z) (by decide) (Nat.le_of_ble_eq_true rfl) (fun p e R s m args below meth c Q hC hret hS ls hl => ?_)
  have hC : ez_C p R s m args c X B RX12 cX12_isLegalBy 6 1 := hC
  have hx := hC.1.1
  have hb := hC.1.2.1
  have hown := hC.1.2.2.2.1
  have hts := hC.1.2.2.2.2
  have hl : lv_has ls 6 [(0, .ref (B + h0)), (1, .int x1), (2, .int x2)] := hl
  obtain ⟨n0, e0⟩ : ∃ n0 : Nat, n0 = σ.length := ⟨_, rfl⟩
  rw [← e0] at hret hS
  obtain ⟨-, h⟩ := ez_in h
  have K_13 : ∀ (k_13 : Nat → Int32 → Int32 → Int32 → Int32 → Option (Int32)) (hk_13 : ∀ (h0 : Nat) (x2 : Int32) (x3 : Int32) (x4 : Int32) (x5 : Int32) (H : Heap) (locs : List Loc) (ls : Array Slot), ez_S X B s.heap (n0) σ H locs → k_13 h0 x2 x3 x4 x5 = some z → lv_has ls 6 [(0, .ref (B + h0)), (2, .int x2), (3, .int x3), (4, .int x4), (5, .int x5)] → W p l e R s m args below meth c H locs 0 0 Q (F0 m 13 ls [])), ∀ (h0 : Nat) (x2 : Int32) (x3 : Int32) (x4 : Int32) (x5 : Int32) (H : Heap) (locs : List Loc) (ls : Array Slot), ez_S X B s.heap (n0) σ H locs → z_X12_isLegalBy_13 σ k_13 h0 x2 x3 x4 x5 = some z → lv_has ls 6 [(0, .ref (B + h0)), (2, .int x2), (3, .int x3), (4, .int x4), (5, .int x5)] → W p l e R s m args below meth c H locs 0 0 Q (F0 m 13 ls []) := by
    intro k_13 hk_13 h0 x2 x3 x4 x5 H locs ls hS h hl
    refine lv_iload hx hb dX12_isLegalBy_13 (lv_at hl 4 rfl) ?_
    refine lv_aload_n hx hb dX12_isLegalBy_15 rfl (lv_at hl 0 rfl) ?_
    refine ez_cVpi (As := []) (rest := [.int x5]) h (fun _ q => c_X12_wide q) hC k_X12_wide ql_RX12_414 rfl (by decide) hS (fun _ q => ez_rcv q) rfl hl.1 rfl (Nat.le_of_ble_eq_true rfl) ⟨Nat.zero_le _, Nat.zero_le _⟩ dX12_isLegalBy_16 (fun t_16 H locs hS h => ?_)
    refine lv_icmp_ge (tgt := 61) hx hb dX12_isLegalBy_19 (by decide) (fun c_19 => ?_) (fun c_19 => ?_)
    · replace h := ez_ifp h c_19
      refine lv_iconst (v := 1) hx hb dX12_isLegalBy_61 (by decide) ?_
      have hn : narrow .boolean (.int 1) = .int 1 := by decide
      exact hret _ _ _ _ _ (Option.some.inj h) hn hS dX12_isLegalBy_62
    · replace h := ez_ifn h c_19
      refine lv_iload_n hx hb dX12_isLegalBy_22 rfl (lv_at hl 2 rfl) ?_
      refine lv_aload_n hx hb dX12_isLegalBy_23 rfl (lv_at hl 0 rfl) ?_
      refine ez_cVpi (As := []) (rest := [.int x3]) h (fun _ q => c_X12_deep q) hC k_X12_deep ql_RX12_429 rfl (by decide) hS (fun _ q => ez_rcv q) rfl hl.1 rfl (Nat.le_of_ble_eq_true rfl) ⟨Nat.zero_le _, Nat.zero_le _⟩ dX12_isLegalBy_24 (fun t_24 H locs hS h => ?_)
      obtain ⟨nz_27, h⟩ := ez_nz_sp h
      refine lv_idiv hx hb dX12_isLegalBy_27 nz_27 ?_
      refine ez_top h (fun t_27 h => ?_)
      refine lv_istore_n (lv' := [(3, .int t_27), (0, .ref (B + h0)), (2, .int x2), (4, .int x4), (5, .int x5)]) hx hb dX12_isLegalBy_28 rfl hl (by decide) rfl (fun ls hl => ?_)
      refine lv_iload_n hx hb dX12_isLegalBy_29 rfl (lv_at hl 0 rfl) ?_
      refine lv_aload_n hx hb dX12_isLegalBy_30 rfl (lv_at hl 1 rfl) ?_
      refine ez_cVpi (As := []) (rest := [.int t_27]) h (fun _ q => c_X12_deep q) hC k_X12_deep ql_RX12_429 rfl (by decide) hS (fun _ q => ez_rcv q) rfl hl.1 rfl (Nat.le_of_ble_eq_true rfl) ⟨Nat.zero_le _, Nat.zero_le _⟩ dX12_isLegalBy_31 (fun t_31 H locs hS h => ?_)
      obtain ⟨nz_34, h⟩ := ez_nz_sp h
      refine lv_irem hx hb dX12_isLegalBy_34 nz_34 ?_
      refine ez_top h (fun t_34 h => ?_)
      refine lv_iload hx hb dX12_isLegalBy_35 (lv_at hl 3 rfl) ?_
      refine lv_isub hx hb dX12_isLegalBy_37 ?_
      refine ez_top h (fun t_37 h => ?_)
      refine ez_cSpi (As := [.int t_37]) (rest := []) h (fun _ q => c_X12_absolute q) hC k_X12_absolute ql_RX12_435 rfl (by decide) hS hl.1 rfl (Nat.le_of_ble_eq_true rfl) ⟨Nat.zero_le _, Nat.zero_le _⟩ dX12_isLegalBy_38 (fun t_38 H locs hS h => ?_)
      refine lv_iload_n hx hb dX12_isLegalBy_41 rfl (lv_at hl 2 rfl) ?_
      refine lv_icmp_le (tgt := 47) hx hb dX12_isLegalBy_42 (by decide) (fun c_42 => ?_) (fun c_42 => ?_)
      · replace h := ez_ifp h c_42
        refine lv_iload_n hx hb dX12_isLegalBy_47 rfl (lv_at hl 0 rfl) ?_
        refine lv_aload_n hx hb dX12_isLegalBy_48 rfl (lv_at hl 1 rfl) ?_
        refine ez_cVpi (As := []) (rest := [.int t_27]) h (fun _ q => c_X12_deep q) hC k_X12_deep ql_RX12_429 rfl (by decide) hS (fun _ q => ez_rcv q) rfl hl.1 rfl (Nat.le_of_ble_eq_true rfl) ⟨Nat.zero_le _, Nat.zero_le _⟩ dX12_isLegalBy_49 (fun t_49 H locs hS h => ?_)
        obtain ⟨nz_52, h⟩ := ez_nz_sp h
        refine lv_irem hx hb dX12_isLegalBy_52 nz_52 ?_
        refine ez_top h (fun t_52 h => ?_)
        refine lv_istore (lv' := [(4, .int t_52), (3, .int t_27), (0, .ref (B + h0)), (2, .int x2), (5, .int x5)]) hx hb dX12_isLegalBy_53 hl (by decide) rfl (fun ls hl => ?_)
        obtain ⟨t_55, e_55, h⟩ := ez_let_sp h
        refine lv_iinc (v := t_55) (lv' := [(5, .int t_55), (4, .int t_52), (3, .int t_27), (0, .ref (B + h0)), (2, .int x2)]) hx hb dX12_isLegalBy_55 hl (k := 4) rfl (by rw [e_55]; rfl) (by decide) rfl (fun ls hl => ?_)
        refine lv_goto (tgt := 13) hx hb dX12_isLegalBy_58 (by decide) ?_
        exact hk_13 h0 x2 t_27 t_52 t_55 _ _ _ hS h (lv_sub hl [3, 4, 2, 1, 0] rfl)
      · replace h := ez_ifn h c_42
        refine lv_iconst (v := 0) hx hb dX12_isLegalBy_45 (by decide) ?_
        have hn : narrow .boolean (.int 0) = .int 0 := by decide
        exact hret _ _ _ _ _ (Option.some.inj h) hn hS dX12_isLegalBy_46
  have E_13 : ∀ (h0 : Nat) (x2 : Int32) (x3 : Int32) (x4 : Int32) (x5 : Int32) (H : Heap) (locs : List Loc) (ls : Array Slot), ez_S X B s.heap (n0) σ H locs → (ez_fix (fun _ _ _ _ _ => none) (z_X12_isLegalBy_13 σ) ez_N) h0 x2 x3 x4 x5 = some z → lv_has ls 6 [(0, .ref (B + h0)), (2, .int x2), (3, .int x3), (4, .int x4), (5, .int x5)] → W p l e R s m args below meth c H locs 0 0 Q (F0 m 13 ls []) := ez_fix_ind (fun k_13 : Nat → Int32 → Int32 → Int32 → Int32 → Option (Int32) => ∀ (h0 : Nat) (x2 : Int32) (x3 : Int32) (x4 : Int32) (x5 : Int32) (H : Heap) (locs : List Loc) (ls : Array Slot), ez_S X B s.heap (n0) σ H locs → k_13 h0 x2 x3 x4 x5 = some z → lv_has ls 6 [(0, .ref (B + h0)), (2, .int x2), (3, .int x3), (4, .int x4), (5, .int x5)] → W p l e R s m args below meth c H locs 0 0 Q (F0 m 13 ls [])) (fun _ _ _ _ _ _ _ _ _ h _ => by cases h) (fun k_13 hk_13 => K_13 k_13 hk_13) ez_N
  refine lv_iload_n hx hb dX12_isLegalBy_0 rfl (lv_at hl 1 rfl) ?_
  refine lv_istore_n (lv' := [(3, .int x1), (0, .ref (B + h0)), (1, .int x1), (2, .int x2)]) hx hb dX12_isLegalBy_1 rfl hl (by decide) rfl (fun ls hl => ?_)
  refine lv_iload_n hx hb dX12_isLegalBy_2 rfl (lv_at hl 0 rfl) ?_
  refine lv_aload_n hx hb dX12_isLegalBy_3 rfl (lv_at hl 1 rfl) ?_
  refine ez_cVpi (As := []) (rest := [.int x1]) h (fun _ q => c_X12_deep q) hC k_X12_deep ql_RX12_429 rfl (by decide) hS (fun _ q => ez_rcv q) rfl hl.1 rfl (Nat.le_of_ble_eq_true rfl) ⟨Nat.zero_le _, Nat.zero_le _⟩ dX12_isLegalBy_4 (fun t_4 H locs hS h => ?_)
  obtain ⟨nz_7, h⟩ := ez_nz_sp h
  refine lv_irem hx hb dX12_isLegalBy_7 nz_7 ?_
  refine ez_top h (fun t_7 h => ?_)
  refine lv_istore (lv' := [(4, .int t_7), (3, .int x1), (0, .ref (B + h0)), (1, .int x1), (2, .int x2)]) hx hb dX12_isLegalBy_8 hl (by decide) rfl (fun ls hl => ?_)
  refine lv_iconst (v := 1) hx hb dX12_isLegalBy_10 (by decide) ?_
  refine lv_istore (lv' := [(5, .int 1), (4, .int t_7), (3, .int x1), (0, .ref (B + h0)), (1, .int x1), (2, .int x2)]) hx hb dX12_isLegalBy_11 hl (by decide) rfl (fun ls hl => ?_)
  exact E_13  h0 x2 x1 t_7 (1 : Int32) _ _ _ hS h (lv_sub hl [3, 5, 2, 1, 0] rfl)
set_option maxHeartbeats 4000000 in
set_option maxRecDepth 100000 in
theorem c_X12_isLegal {l : Launch} {X : ez_X} {B : Nat} {σ : ez_H} {h0 : Nat} {x1 : Int32} {z : Int32} (h : z_X12_isLegal σ h0 x1 = some z) : ez_M l X B σ yX12_isLegal cX12_isLegal 2 (some .boolean) 2 [.ref (B + h0), .int x1] (some (.int z)) σ := by
  refine ez_startip (z := z) (by decide) (Nat.le_of_ble_eq_true rfl) (fun p e R s m args below meth c Q hC hret hS ls hl => ?_)
  have hC : ez_C p R s m args c X B RX12 cX12_isLegal 2 2 := hC
  have hx := hC.1.1
  have hb := hC.1.2.1
  have hown := hC.1.2.2.2.1
  have hts := hC.1.2.2.2.2
  have hl : lv_has ls 2 [(0, .ref (B + h0)), (1, .int x1)] := hl
  obtain ⟨n0, e0⟩ : ∃ n0 : Nat, n0 = σ.length := ⟨_, rfl⟩
  rw [← e0] at hret hS
  obtain ⟨-, h⟩ := ez_in h
  have K_36 : ∀ (y0 : Int32) (H : Heap) (locs : List Loc) (ls : Array Slot), ez_S X B s.heap (n0) σ H locs → z_X12_isLegal_36 σ y0 = some z → lv_has ls 2 [] → W p l e R s m args below meth c H locs 0 0 Q (F0 m 36 ls [.int y0]) := by
    intro y0 H locs ls hS h hl
    obtain ⟨hn, h⟩ := ez_nr_sp rfl h
    exact hret _ _ _ _ _ (Option.some.inj h) hn hS dX12_isLegal_36
  have K_35 : ∀ (H : Heap) (locs : List Loc) (ls : Array Slot), ez_S X B s.heap (n0) σ H locs → z_X12_isLegal_35 σ = some z → lv_has ls 2 [] → W p l e R s m args below meth c H locs 0 0 Q (F0 m 35 ls []) := by
    intro  H locs ls hS h hl
    refine lv_iconst (v := 0) hx hb dX12_isLegal_35 (by decide) ?_
    exact K_36  (0 : Int32) _ _ _ hS h (lv_sub hl [] rfl)
  refine lv_iload_n hx hb dX12_isLegal_0 rfl (lv_at hl 1 rfl) ?_
  refine lv_iconst (v := 0) hx hb dX12_isLegal_1 (by decide) ?_
  refine lv_aload_n hx hb dX12_isLegal_2 rfl (lv_at hl 0 rfl) ?_
  refine ez_cVpi (As := []) (rest := [.int 0, .int x1]) h (fun _ q => c_X12_bittings q) hC k_X12_bittings ql_RX12_438 rfl (by decide) hS (fun _ q => ez_rcv q) rfl hl.1 rfl (Nat.le_of_ble_eq_true rfl) ⟨Nat.zero_le _, Nat.zero_le _⟩ dX12_isLegal_3 (fun t_3 H locs hS h => ?_)
  refine lv_iconst (v := 1) hx hb dX12_isLegal_6 (by decide) ?_
  refine lv_isub hx hb dX12_isLegal_7 ?_
  refine ez_top h (fun t_7 h => ?_)
  refine ez_cSpi (As := [.int x1, .int 0, .int t_7]) (rest := []) h (fun _ q => c_X12_isIn q) hC k_X12_isIn ql_RX12_407 rfl (by decide) hS hl.1 rfl (Nat.le_of_ble_eq_true rfl) ⟨Nat.zero_le _, Nat.zero_le _⟩ dX12_isLegal_8 (fun t_8 H locs hS h => ?_)
  refine lv_if_eq (tgt := 35) hx hb dX12_isLegal_11 (by decide) (fun c_11 => ?_) (fun c_11 => ?_)
  · replace h := ez_ifp h c_11
    exact K_35   _ _ _ hS h (lv_sub hl [] rfl)
  · replace h := ez_ifn h c_11
    refine lv_aload_n hx hb dX12_isLegal_14 rfl (lv_at hl 0 rfl) ?_
    refine lv_iload_n hx hb dX12_isLegal_15 rfl (lv_at hl 1 rfl) ?_
    refine lv_aload_n hx hb dX12_isLegal_16 rfl (lv_at hl 0 rfl) ?_
    refine eg_RX12_27 hC hS h dX12_isLegal_17 (fun t_17 h => ?_)
    refine lv_aload_n hx hb dX12_isLegal_20 rfl (lv_at hl 0 rfl) ?_
    refine eg_RX12_274 hC hS h dX12_isLegal_21 (fun t_21 h => ?_)
    refine ez_ial hC hS h dX12_isLegal_24 (fun t_24 h => ?_)
    refine ez_cVpi (As := [.int x1, .int t_24]) (rest := []) h (fun _ q => c_X12_isLegalBy q) hC k_X12_isLegalBy ql_RX12_441 rfl (by decide) hS (fun _ q => ez_rcv q) rfl hl.1 rfl (Nat.le_of_ble_eq_true rfl) ⟨Nat.zero_le _, Nat.zero_le _⟩ dX12_isLegal_25 (fun t_25 H locs hS h => ?_)
    refine lv_if_eq (tgt := 35) hx hb dX12_isLegal_28 (by decide) (fun c_28 => ?_) (fun c_28 => ?_)
    · replace h := ez_ifp h c_28
      exact K_35   _ _ _ hS h (lv_sub hl [] rfl)
    · replace h := ez_ifn h c_28
      refine lv_iconst (v := 1) hx hb dX12_isLegal_31 (by decide) ?_
      refine lv_goto (tgt := 36) hx hb dX12_isLegal_32 (by decide) ?_
      exact K_36  (1 : Int32) _ _ _ hS h (lv_sub hl [] rfl)
set_option maxHeartbeats 4000000 in
set_option maxRecDepth 100000 in
theorem c_X12_bit {l : Launch} {X : ez_X} {B : Nat} {σ : ez_H} {x0 : Int32} {x1 : Int32} {z : Int32} (h : z_X12_bit σ x0 x1 = some z) : ez_M l X B σ yX12_bit cX12_bit 2 (some .boolean) 0 [.int x0, .int x1] (some (.int z)) σ := by
  refine ez_startip (z := z) (by decide) (Nat.le_of_ble_eq_true rfl) (fun p e R s m args below meth c Q hC hret hS ls hl => ?_)
  have hC : ez_C p R s m args c X B RX12 cX12_bit 2 0 := hC
  have hx := hC.1.1
  have hb := hC.1.2.1
  have hown := hC.1.2.2.2.1
  have hts := hC.1.2.2.2.2
  have hl : lv_has ls 2 [(0, .int x0), (1, .int x1)] := hl
  obtain ⟨n0, e0⟩ : ∃ n0 : Nat, n0 = σ.length := ⟨_, rfl⟩
  rw [← e0] at hret hS
  have K_14 : ∀ (y0 : Int32) (H : Heap) (locs : List Loc) (ls : Array Slot), ez_S X B s.heap (n0) σ H locs → z_X12_bit_14 σ y0 = some z → lv_has ls 2 [] → W p l e R s m args below meth c H locs 0 0 Q (F0 m 14 ls [.int y0]) := by
    intro y0 H locs ls hS h hl
    obtain ⟨hn, h⟩ := ez_nr_sp rfl h
    exact hret _ _ _ _ _ (Option.some.inj h) hn hS dX12_bit_14
  refine lv_iload_n hx hb dX12_bit_0 rfl (lv_at hl 0 rfl) ?_
  refine lv_iload_n hx hb dX12_bit_1 rfl (lv_at hl 1 rfl) ?_
  refine lv_ishr hx hb dX12_bit_2 ?_
  refine ez_top h (fun t_2 h => ?_)
  refine lv_iconst (v := 1) hx hb dX12_bit_3 (by decide) ?_
  refine lv_iand hx hb dX12_bit_4 ?_
  refine ez_top h (fun t_4 h => ?_)
  refine lv_iconst (v := 1) hx hb dX12_bit_5 (by decide) ?_
  refine lv_icmp_ne (tgt := 13) hx hb dX12_bit_6 (by decide) (fun c_6 => ?_) (fun c_6 => ?_)
  · replace h := ez_ifn h c_6
    refine lv_iconst (v := 0) hx hb dX12_bit_13 (by decide) ?_
    exact K_14  (0 : Int32) _ _ _ hS h (lv_sub hl [] rfl)
  · replace h := ez_ifp h c_6
    refine lv_iconst (v := 1) hx hb dX12_bit_9 (by decide) ?_
    refine lv_goto (tgt := 14) hx hb dX12_bit_10 (by decide) ?_
    exact K_14  (1 : Int32) _ _ _ hS h (lv_sub hl [] rfl)
set_option maxHeartbeats 4000000 in
set_option maxRecDepth 100000 in
theorem c_X12_openedAsTold {l : Launch} {X : ez_X} {B : Nat} {σ : ez_H} {h0 : Nat} {x1 : Int32} {x2 : Int32} {z : Int32} (h : z_X12_openedAsTold σ h0 x1 x2 = some z) : ez_M l X B σ yX12_openedAsTold cX12_openedAsTold 5 (some .int) 1 [.ref (B + h0), .int x1, .int x2] (some (.int z)) σ := by
  refine ez_startip (z := z) (by decide) (Nat.le_of_ble_eq_true rfl) (fun p e R s m args below meth c Q hC hret hS ls hl => ?_)
  have hC : ez_C p R s m args c X B RX12 cX12_openedAsTold 5 1 := hC
  have hx := hC.1.1
  have hb := hC.1.2.1
  have hown := hC.1.2.2.2.1
  have hts := hC.1.2.2.2.2
  have hl : lv_has ls 5 [(0, .ref (B + h0)), (1, .int x1), (2, .int x2)] := hl
  obtain ⟨n0, e0⟩ : ∃ n0 : Nat, n0 = σ.length := ⟨_, rfl⟩
  rw [← e0] at hret hS
  obtain ⟨-, h⟩ := ez_in h
  have K_10 : ∀ (k_10 : Nat → Int32 → Int32 → Int32 → Option (Int32)) (hk_10 : ∀ (h0 : Nat) (x2 : Int32) (x3 : Int32) (x4 : Int32) (H : Heap) (locs : List Loc) (ls : Array Slot), ez_S X B s.heap (n0) σ H locs → k_10 h0 x2 x3 x4 = some z → lv_has ls 5 [(0, .ref (B + h0)), (2, .int x2), (3, .int x3), (4, .int x4)] → W p l e R s m args below meth c H locs 0 0 Q (F0 m 10 ls [])), ∀ (h0 : Nat) (x2 : Int32) (x3 : Int32) (x4 : Int32) (H : Heap) (locs : List Loc) (ls : Array Slot), ez_S X B s.heap (n0) σ H locs → z_X12_openedAsTold_10 σ k_10 h0 x2 x3 x4 = some z → lv_has ls 5 [(0, .ref (B + h0)), (2, .int x2), (3, .int x3), (4, .int x4)] → W p l e R s m args below meth c H locs 0 0 Q (F0 m 10 ls []) := by
    intro k_10 hk_10 h0 x2 x3 x4 H locs ls hS h hl
    refine lv_iload hx hb dX12_openedAsTold_10 (lv_at hl 3 rfl) ?_
    refine lv_if_lt (tgt := 61) hx hb dX12_openedAsTold_12 (by decide) (fun c_12 => ?_) (fun c_12 => ?_)
    · replace h := ez_ifp h c_12
      refine lv_iconst (v := 1) hx hb dX12_openedAsTold_61 (by decide) ?_
      exact hret _ _ _ _ _ (Option.some.inj h) rfl hS dX12_openedAsTold_62
    · replace h := ez_ifn h c_12
      refine lv_aload_n hx hb dX12_openedAsTold_15 rfl (lv_at hl 0 rfl) ?_
      refine eg_RX12_57 hC hS h dX12_openedAsTold_16 (fun t_16 h => ?_)
      refine lv_iconst (v := 5) hx hb dX12_openedAsTold_19 (by decide) ?_
      refine lv_bipush (v := 6) hx hb dX12_openedAsTold_20 (by decide) ?_
      refine lv_aload_n hx hb dX12_openedAsTold_22 rfl (lv_at hl 0 rfl) ?_
      refine eg_RX12_274 hC hS h dX12_openedAsTold_23 (fun t_23 h => ?_)
      refine lv_imul hx hb dX12_openedAsTold_26 ?_
      refine ez_top h (fun t_26 h => ?_)
      refine lv_iload_n hx hb dX12_openedAsTold_27 rfl (lv_at hl 1 rfl) ?_
      refine lv_iadd hx hb dX12_openedAsTold_28 ?_
      refine ez_top h (fun t_28 h => ?_)
      refine lv_imul hx hb dX12_openedAsTold_29 ?_
      refine ez_top h (fun t_29 h => ?_)
      refine lv_iload hx hb dX12_openedAsTold_30 (lv_at hl 3 rfl) ?_
      refine lv_iadd hx hb dX12_openedAsTold_32 ?_
      refine ez_top h (fun t_32 h => ?_)
      refine ez_ial hC hS h dX12_openedAsTold_33 (fun t_33 h => ?_)
      refine lv_iload_n hx hb dX12_openedAsTold_34 rfl (lv_at hl 2 rfl) ?_
      refine lv_aload_n hx hb dX12_openedAsTold_35 rfl (lv_at hl 0 rfl) ?_
      refine ez_cVpi (As := []) (rest := [.int x3, .int t_33]) h (fun _ q => c_X12_deep q) hC k_X12_deep ql_RX12_429 rfl (by decide) hS (fun _ q => ez_rcv q) rfl hl.1 rfl (Nat.le_of_ble_eq_true rfl) ⟨Nat.zero_le _, Nat.zero_le _⟩ dX12_openedAsTold_36 (fun t_36 H locs hS h => ?_)
      obtain ⟨nz_39, h⟩ := ez_nz_sp h
      refine lv_irem hx hb dX12_openedAsTold_39 nz_39 ?_
      refine ez_top h (fun t_39 h => ?_)
      refine ez_cSpi (As := [.int t_33, .int t_39]) (rest := []) h (fun _ q => c_X12_bit q) hC k_X12_bit ql_RX12_261 rfl (by decide) hS hl.1 rfl (Nat.le_of_ble_eq_true rfl) ⟨Nat.zero_le _, Nat.zero_le _⟩ dX12_openedAsTold_40 (fun t_40 H locs hS h => ?_)
      refine lv_if_ne (tgt := 48) hx hb dX12_openedAsTold_43 (by decide) (fun c_43 => ?_) (fun c_43 => ?_)
      · replace h := ez_ifn h c_43
        refine lv_iload_n hx hb dX12_openedAsTold_48 rfl (lv_at hl 2 rfl) ?_
        refine lv_aload_n hx hb dX12_openedAsTold_49 rfl (lv_at hl 0 rfl) ?_
        refine ez_cVpi (As := []) (rest := [.int x3]) h (fun _ q => c_X12_deep q) hC k_X12_deep ql_RX12_429 rfl (by decide) hS (fun _ q => ez_rcv q) rfl hl.1 rfl (Nat.le_of_ble_eq_true rfl) ⟨Nat.zero_le _, Nat.zero_le _⟩ dX12_openedAsTold_50 (fun t_50 H locs hS h => ?_)
        obtain ⟨nz_53, h⟩ := ez_nz_sp h
        refine lv_idiv hx hb dX12_openedAsTold_53 nz_53 ?_
        refine ez_top h (fun t_53 h => ?_)
        refine lv_istore_n (lv' := [(3, .int t_53), (0, .ref (B + h0)), (2, .int x2), (4, .int x4)]) hx hb dX12_openedAsTold_54 rfl hl (by decide) rfl (fun ls hl => ?_)
        obtain ⟨t_55, e_55, h⟩ := ez_let_sp h
        refine lv_iinc (v := t_55) (lv' := [(4, .int t_55), (3, .int t_53), (0, .ref (B + h0)), (2, .int x2)]) hx hb dX12_openedAsTold_55 hl (k := 3) rfl (by rw [e_55]; rfl) (by decide) rfl (fun ls hl => ?_)
        refine lv_goto (tgt := 10) hx hb dX12_openedAsTold_58 (by decide) ?_
        exact hk_10 h0 x2 t_53 t_55 _ _ _ hS h (lv_sub hl [2, 3, 1, 0] rfl)
      · replace h := ez_ifp h c_43
        refine lv_iconst (v := 0) hx hb dX12_openedAsTold_46 (by decide) ?_
        exact hret _ _ _ _ _ (Option.some.inj h) rfl hS dX12_openedAsTold_47
  have E_10 : ∀ (h0 : Nat) (x2 : Int32) (x3 : Int32) (x4 : Int32) (H : Heap) (locs : List Loc) (ls : Array Slot), ez_S X B s.heap (n0) σ H locs → (ez_fix (fun _ _ _ _ => none) (z_X12_openedAsTold_10 σ) ez_N) h0 x2 x3 x4 = some z → lv_has ls 5 [(0, .ref (B + h0)), (2, .int x2), (3, .int x3), (4, .int x4)] → W p l e R s m args below meth c H locs 0 0 Q (F0 m 10 ls []) := ez_fix_ind (fun k_10 : Nat → Int32 → Int32 → Int32 → Option (Int32) => ∀ (h0 : Nat) (x2 : Int32) (x3 : Int32) (x4 : Int32) (H : Heap) (locs : List Loc) (ls : Array Slot), ez_S X B s.heap (n0) σ H locs → k_10 h0 x2 x3 x4 = some z → lv_has ls 5 [(0, .ref (B + h0)), (2, .int x2), (3, .int x3), (4, .int x4)] → W p l e R s m args below meth c H locs 0 0 Q (F0 m 10 ls [])) (fun _ _ _ _ _ _ _ _ h _ => by cases h) (fun k_10 hk_10 => K_10 k_10 hk_10) ez_N
  refine lv_iload_n hx hb dX12_openedAsTold_0 rfl (lv_at hl 1 rfl) ?_
  refine lv_istore_n (lv' := [(3, .int x1), (0, .ref (B + h0)), (1, .int x1), (2, .int x2)]) hx hb dX12_openedAsTold_1 rfl hl (by decide) rfl (fun ls hl => ?_)
  refine lv_aload_n hx hb dX12_openedAsTold_2 rfl (lv_at hl 1 rfl) ?_
  refine ez_cVpi (As := []) (rest := []) h (fun _ q => c_X12_wide q) hC k_X12_wide ql_RX12_414 rfl (by decide) hS (fun _ q => ez_rcv q) rfl hl.1 rfl (Nat.le_of_ble_eq_true rfl) ⟨Nat.zero_le _, Nat.zero_le _⟩ dX12_openedAsTold_3 (fun t_3 H locs hS h => ?_)
  refine lv_iconst (v := 1) hx hb dX12_openedAsTold_6 (by decide) ?_
  refine lv_isub hx hb dX12_openedAsTold_7 ?_
  refine ez_top h (fun t_7 h => ?_)
  refine lv_istore (lv' := [(4, .int t_7), (3, .int x1), (0, .ref (B + h0)), (1, .int x1), (2, .int x2)]) hx hb dX12_openedAsTold_8 hl (by decide) rfl (fun ls hl => ?_)
  exact E_10  h0 x2 x1 t_7 _ _ _ hS h (lv_sub hl [2, 4, 1, 0] rfl)
set_option maxHeartbeats 4000000 in
set_option maxRecDepth 100000 in
theorem c_X12_doesFit {l : Launch} {X : ez_X} {B : Nat} {σ : ez_H} {h0 : Nat} {x1 : Int32} {x2 : Int32} {z : Int32} (h : z_X12_doesFit σ h0 x1 x2 = some z) : ez_M l X B σ yX12_doesFit cX12_doesFit 4 (some .boolean) 3 [.ref (B + h0), .int x1, .int x2] (some (.int z)) σ := by
  refine ez_startip (z := z) (by decide) (Nat.le_of_ble_eq_true rfl) (fun p e R s m args below meth c Q hC hret hS ls hl => ?_)
  have hC : ez_C p R s m args c X B RX12 cX12_doesFit 4 3 := hC
  have hx := hC.1.1
  have hb := hC.1.2.1
  have hown := hC.1.2.2.2.1
  have hts := hC.1.2.2.2.2
  have hl : lv_has ls 4 [(0, .ref (B + h0)), (1, .int x1), (2, .int x2)] := hl
  obtain ⟨n0, e0⟩ : ∃ n0 : Nat, n0 = σ.length := ⟨_, rfl⟩
  rw [← e0] at hret hS
  obtain ⟨-, h⟩ := ez_in h
  have K_74 : ∀ (k_12 : Nat → Int32 → Int32 → Int32 → Option (Int32)) (hk_12 : ∀ (h0 : Nat) (x1 : Int32) (x2 : Int32) (x3 : Int32) (H : Heap) (locs : List Loc) (ls : Array Slot), ez_S X B s.heap (n0) σ H locs → k_12 h0 x1 x2 x3 = some z → lv_has ls 4 [(0, .ref (B + h0)), (1, .int x1), (2, .int x2), (3, .int x3)] → W p l e R s m args below meth c H locs 0 0 Q (F0 m 12 ls [])), ∀ (h0 : Nat) (x1 : Int32) (x2 : Int32) (x3 : Int32) (H : Heap) (locs : List Loc) (ls : Array Slot), ez_S X B s.heap (n0) σ H locs → z_X12_doesFit_74 σ k_12 h0 x1 x2 x3 = some z → lv_has ls 4 [(0, .ref (B + h0)), (1, .int x1), (2, .int x2), (3, .int x3)] → W p l e R s m args below meth c H locs 0 0 Q (F0 m 74 ls []) := by
    intro k_12 hk_12 h0 x1 x2 x3 H locs ls hS h hl
    obtain ⟨t_74, e_74, h⟩ := ez_let_sp h
    refine lv_iinc (v := t_74) (lv' := [(3, .int t_74), (0, .ref (B + h0)), (1, .int x1), (2, .int x2)]) hx hb dX12_doesFit_74 hl (k := 3) rfl (by rw [e_74]; rfl) (by decide) rfl (fun ls hl => ?_)
    refine lv_goto (tgt := 12) hx hb dX12_doesFit_77 (by decide) ?_
    exact hk_12 h0 x1 x2 t_74 _ _ _ hS h (lv_sub hl [1, 2, 3, 0] rfl)
  have K_52 : ∀ (k_12 : Nat → Int32 → Int32 → Int32 → Option (Int32)) (hk_12 : ∀ (h0 : Nat) (x1 : Int32) (x2 : Int32) (x3 : Int32) (H : Heap) (locs : List Loc) (ls : Array Slot), ez_S X B s.heap (n0) σ H locs → k_12 h0 x1 x2 x3 = some z → lv_has ls 4 [(0, .ref (B + h0)), (1, .int x1), (2, .int x2), (3, .int x3)] → W p l e R s m args below meth c H locs 0 0 Q (F0 m 12 ls [])), ∀ (h0 : Nat) (x1 : Int32) (x2 : Int32) (x3 : Int32) (H : Heap) (locs : List Loc) (ls : Array Slot), ez_S X B s.heap (n0) σ H locs → z_X12_doesFit_52 σ k_12 h0 x1 x2 x3 = some z → lv_has ls 4 [(0, .ref (B + h0)), (1, .int x1), (2, .int x2), (3, .int x3)] → W p l e R s m args below meth c H locs 0 0 Q (F0 m 52 ls []) := by
    intro k_12 hk_12 h0 x1 x2 x3 H locs ls hS h hl
    refine lv_aload_n hx hb dX12_doesFit_52 rfl (lv_at hl 0 rfl) ?_
    refine lv_iload_n hx hb dX12_doesFit_53 rfl (lv_at hl 1 rfl) ?_
    refine lv_aload_n hx hb dX12_doesFit_54 rfl (lv_at hl 0 rfl) ?_
    refine eg_RX12_136 hC hS h dX12_doesFit_55 (fun t_55 h => ?_)
    refine lv_iload_n hx hb dX12_doesFit_58 rfl (lv_at hl 3 rfl) ?_
    refine ez_ial hC hS h dX12_doesFit_59 (fun t_59 h => ?_)
    refine ez_cVpi (As := [.int x1, .int t_59]) (rest := []) h (fun _ q => c_X12_openedAsTold q) hC k_X12_openedAsTold ql_RX12_612 rfl (by decide) hS (fun _ q => ez_rcv q) rfl hl.1 rfl (Nat.le_of_ble_eq_true rfl) ⟨Nat.zero_le _, Nat.zero_le _⟩ dX12_doesFit_60 (fun t_60 H locs hS h => ?_)
    refine lv_aload_n hx hb dX12_doesFit_63 rfl (lv_at hl 0 rfl) ?_
    refine eg_RX12_139 hC hS h dX12_doesFit_64 (fun t_64 h => ?_)
    refine lv_iload_n hx hb dX12_doesFit_67 rfl (lv_at hl 3 rfl) ?_
    refine ez_ial hC hS h dX12_doesFit_68 (fun t_68 h => ?_)
    refine lv_icmp_eq (tgt := 74) hx hb dX12_doesFit_69 (by decide) (fun c_69 => ?_) (fun c_69 => ?_)
    · replace h := ez_ifp h c_69
      exact K_74 k_12 hk_12 h0 x1 x2 x3 _ _ _ hS h (lv_sub hl [0, 1, 2, 3] rfl)
    · replace h := ez_ifn h c_69
      refine lv_iconst (v := 0) hx hb dX12_doesFit_72 (by decide) ?_
      have hn : narrow .boolean (.int 0) = .int 0 := by decide
      exact hret _ _ _ _ _ (Option.some.inj h) hn hS dX12_doesFit_73
  have K_12 : ∀ (k_12 : Nat → Int32 → Int32 → Int32 → Option (Int32)) (hk_12 : ∀ (h0 : Nat) (x1 : Int32) (x2 : Int32) (x3 : Int32) (H : Heap) (locs : List Loc) (ls : Array Slot), ez_S X B s.heap (n0) σ H locs → k_12 h0 x1 x2 x3 = some z → lv_has ls 4 [(0, .ref (B + h0)), (1, .int x1), (2, .int x2), (3, .int x3)] → W p l e R s m args below meth c H locs 0 0 Q (F0 m 12 ls [])), ∀ (h0 : Nat) (x1 : Int32) (x2 : Int32) (x3 : Int32) (H : Heap) (locs : List Loc) (ls : Array Slot), ez_S X B s.heap (n0) σ H locs → z_X12_doesFit_12 σ k_12 h0 x1 x2 x3 = some z → lv_has ls 4 [(0, .ref (B + h0)), (1, .int x1), (2, .int x2), (3, .int x3)] → W p l e R s m args below meth c H locs 0 0 Q (F0 m 12 ls []) := by
    intro k_12 hk_12 h0 x1 x2 x3 H locs ls hS h hl
    refine lv_iload_n hx hb dX12_doesFit_12 rfl (lv_at hl 3 rfl) ?_
    refine lv_aload_n hx hb dX12_doesFit_13 rfl (lv_at hl 0 rfl) ?_
    refine eg_RX12_423 hC hS h dX12_doesFit_14 (fun t_14 h => ?_)
    refine lv_icmp_ge (tgt := 80) hx hb dX12_doesFit_17 (by decide) (fun c_17 => ?_) (fun c_17 => ?_)
    · replace h := ez_ifp h c_17
      refine lv_iconst (v := 1) hx hb dX12_doesFit_80 (by decide) ?_
      have hn : narrow .boolean (.int 1) = .int 1 := by decide
      exact hret _ _ _ _ _ (Option.some.inj h) hn hS dX12_doesFit_81
    · replace h := ez_ifn h c_17
      refine lv_aload_n hx hb dX12_doesFit_20 rfl (lv_at hl 0 rfl) ?_
      refine eg_RX12_142 hC hS h dX12_doesFit_21 (fun t_21 h => ?_)
      refine lv_iload_n hx hb dX12_doesFit_24 rfl (lv_at hl 3 rfl) ?_
      refine ez_ial hC hS h dX12_doesFit_25 (fun t_25 h => ?_)
      refine lv_iload_n hx hb dX12_doesFit_26 rfl (lv_at hl 2 rfl) ?_
      refine lv_icmp_gt (tgt := 74) hx hb dX12_doesFit_27 (by decide) (fun c_27 => ?_) (fun c_27 => ?_)
      · replace h := ez_ifp h c_27
        exact K_74 k_12 hk_12 h0 x1 x2 x3 _ _ _ hS h (lv_sub hl [0, 1, 2, 3] rfl)
      · replace h := ez_ifn h c_27
        refine lv_aload_n hx hb dX12_doesFit_30 rfl (lv_at hl 0 rfl) ?_
        refine eg_RX12_145 hC hS h dX12_doesFit_31 (fun t_31 h => ?_)
        refine lv_iload_n hx hb dX12_doesFit_34 rfl (lv_at hl 3 rfl) ?_
        refine ez_ial hC hS h dX12_doesFit_35 (fun t_35 h => ?_)
        refine lv_if_lt (tgt := 52) hx hb dX12_doesFit_36 (by decide) (fun c_36 => ?_) (fun c_36 => ?_)
        · replace h := ez_ifp h c_36
          exact K_52 k_12 hk_12 h0 x1 x2 x3 _ _ _ hS h (lv_sub hl [0, 1, 2, 3] rfl)
        · replace h := ez_ifn h c_36
          refine lv_aload_n hx hb dX12_doesFit_39 rfl (lv_at hl 0 rfl) ?_
          refine eg_RX12_145 hC hS h dX12_doesFit_40 (fun t_40 h => ?_)
          refine lv_iload_n hx hb dX12_doesFit_43 rfl (lv_at hl 3 rfl) ?_
          refine ez_ial hC hS h dX12_doesFit_44 (fun t_44 h => ?_)
          refine lv_iload_n hx hb dX12_doesFit_45 rfl (lv_at hl 2 rfl) ?_
          refine lv_icmp_gt (tgt := 52) hx hb dX12_doesFit_46 (by decide) (fun c_46 => ?_) (fun c_46 => ?_)
          · replace h := ez_ifp h c_46
            exact K_52 k_12 hk_12 h0 x1 x2 x3 _ _ _ hS h (lv_sub hl [0, 1, 2, 3] rfl)
          · replace h := ez_ifn h c_46
            refine lv_goto (tgt := 74) hx hb dX12_doesFit_49 (by decide) ?_
            exact K_74 k_12 hk_12 h0 x1 x2 x3 _ _ _ hS h (lv_sub hl [0, 1, 2, 3] rfl)
  have E_12 : ∀ (h0 : Nat) (x1 : Int32) (x2 : Int32) (x3 : Int32) (H : Heap) (locs : List Loc) (ls : Array Slot), ez_S X B s.heap (n0) σ H locs → (ez_fix (fun _ _ _ _ => none) (z_X12_doesFit_12 σ) ez_N) h0 x1 x2 x3 = some z → lv_has ls 4 [(0, .ref (B + h0)), (1, .int x1), (2, .int x2), (3, .int x3)] → W p l e R s m args below meth c H locs 0 0 Q (F0 m 12 ls []) := ez_fix_ind (fun k_12 : Nat → Int32 → Int32 → Int32 → Option (Int32) => ∀ (h0 : Nat) (x1 : Int32) (x2 : Int32) (x3 : Int32) (H : Heap) (locs : List Loc) (ls : Array Slot), ez_S X B s.heap (n0) σ H locs → k_12 h0 x1 x2 x3 = some z → lv_has ls 4 [(0, .ref (B + h0)), (1, .int x1), (2, .int x2), (3, .int x3)] → W p l e R s m args below meth c H locs 0 0 Q (F0 m 12 ls [])) (fun _ _ _ _ _ _ _ _ h _ => by cases h) (fun k_12 hk_12 => K_12 k_12 hk_12) ez_N
  refine lv_aload_n hx hb dX12_doesFit_0 rfl (lv_at hl 0 rfl) ?_
  refine lv_iload_n hx hb dX12_doesFit_1 rfl (lv_at hl 1 rfl) ?_
  refine ez_cVpi (As := [.int x1]) (rest := []) h (fun _ q => c_X12_isLegal q) hC k_X12_isLegal ql_RX12_456 rfl (by decide) hS (fun _ q => ez_rcv q) rfl hl.1 rfl (Nat.le_of_ble_eq_true rfl) ⟨Nat.zero_le _, Nat.zero_le _⟩ dX12_doesFit_2 (fun t_2 H locs hS h => ?_)
  refine lv_if_ne (tgt := 10) hx hb dX12_doesFit_5 (by decide) (fun c_5 => ?_) (fun c_5 => ?_)
  · replace h := ez_ifn h c_5
    refine lv_iconst (v := 0) hx hb dX12_doesFit_10 (by decide) ?_
    refine lv_istore_n (lv' := [(3, .int 0), (0, .ref (B + h0)), (1, .int x1), (2, .int x2)]) hx hb dX12_doesFit_11 rfl hl (by decide) rfl (fun ls hl => ?_)
    exact E_12  h0 x1 x2 (0 : Int32) _ _ _ hS h (lv_sub hl [1, 2, 3, 0] rfl)
  · replace h := ez_ifp h c_5
    refine lv_iconst (v := 0) hx hb dX12_doesFit_8 (by decide) ?_
    have hn : narrow .boolean (.int 0) = .int 0 := by decide
    exact hret _ _ _ _ _ (Option.some.inj h) hn hS dX12_doesFit_9
set_option maxHeartbeats 4000000 in
set_option maxRecDepth 100000 in
theorem c_X12_fits {l : Launch} {X : ez_X} {B : Nat} {σ : ez_H} {h0 : Nat} {x1 : Int32} {z : Int32} (h : z_X12_fits σ h0 x1 = some z) : ez_M l X B σ yX12_fits cX12_fits 4 (some .int) 4 [.ref (B + h0), .int x1] (some (.int z)) σ := by
  refine ez_startip (z := z) (by decide) (Nat.le_of_ble_eq_true rfl) (fun p e R s m args below meth c Q hC hret hS ls hl => ?_)
  have hC : ez_C p R s m args c X B RX12 cX12_fits 4 4 := hC
  have hx := hC.1.1
  have hb := hC.1.2.1
  have hown := hC.1.2.2.2.1
  have hts := hC.1.2.2.2.2
  have hl : lv_has ls 4 [(0, .ref (B + h0)), (1, .int x1)] := hl
  obtain ⟨n0, e0⟩ : ∃ n0 : Nat, n0 = σ.length := ⟨_, rfl⟩
  rw [← e0] at hret hS
  obtain ⟨-, h⟩ := ez_in h
  have K_24 : ∀ (k_4 : Nat → Int32 → Int32 → Int32 → Option (Int32)) (hk_4 : ∀ (h0 : Nat) (x1 : Int32) (x2 : Int32) (x3 : Int32) (H : Heap) (locs : List Loc) (ls : Array Slot), ez_S X B s.heap (n0) σ H locs → k_4 h0 x1 x2 x3 = some z → lv_has ls 4 [(0, .ref (B + h0)), (1, .int x1), (2, .int x2), (3, .int x3)] → W p l e R s m args below meth c H locs 0 0 Q (F0 m 4 ls [])), ∀ (h0 : Nat) (x1 : Int32) (x2 : Int32) (x3 : Int32) (H : Heap) (locs : List Loc) (ls : Array Slot), ez_S X B s.heap (n0) σ H locs → z_X12_fits_24 σ k_4 h0 x1 x2 x3 = some z → lv_has ls 4 [(0, .ref (B + h0)), (1, .int x1), (2, .int x2), (3, .int x3)] → W p l e R s m args below meth c H locs 0 0 Q (F0 m 24 ls []) := by
    intro k_4 hk_4 h0 x1 x2 x3 H locs ls hS h hl
    obtain ⟨t_24, e_24, h⟩ := ez_let_sp h
    refine lv_iinc (v := t_24) (lv' := [(3, .int t_24), (0, .ref (B + h0)), (1, .int x1), (2, .int x2)]) hx hb dX12_fits_24 hl (k := 3) rfl (by rw [e_24]; rfl) (by decide) rfl (fun ls hl => ?_)
    refine lv_goto (tgt := 4) hx hb dX12_fits_27 (by decide) ?_
    exact hk_4 h0 x1 x2 t_24 _ _ _ hS h (lv_sub hl [1, 2, 3, 0] rfl)
  have K_4 : ∀ (k_4 : Nat → Int32 → Int32 → Int32 → Option (Int32)) (hk_4 : ∀ (h0 : Nat) (x1 : Int32) (x2 : Int32) (x3 : Int32) (H : Heap) (locs : List Loc) (ls : Array Slot), ez_S X B s.heap (n0) σ H locs → k_4 h0 x1 x2 x3 = some z → lv_has ls 4 [(0, .ref (B + h0)), (1, .int x1), (2, .int x2), (3, .int x3)] → W p l e R s m args below meth c H locs 0 0 Q (F0 m 4 ls [])), ∀ (h0 : Nat) (x1 : Int32) (x2 : Int32) (x3 : Int32) (H : Heap) (locs : List Loc) (ls : Array Slot), ez_S X B s.heap (n0) σ H locs → z_X12_fits_4 σ k_4 h0 x1 x2 x3 = some z → lv_has ls 4 [(0, .ref (B + h0)), (1, .int x1), (2, .int x2), (3, .int x3)] → W p l e R s m args below meth c H locs 0 0 Q (F0 m 4 ls []) := by
    intro k_4 hk_4 h0 x1 x2 x3 H locs ls hS h hl
    refine lv_iload_n hx hb dX12_fits_4 rfl (lv_at hl 3 rfl) ?_
    refine lv_aload_n hx hb dX12_fits_5 rfl (lv_at hl 0 rfl) ?_
    refine ez_cVpi (As := []) (rest := [.int x3]) h (fun _ q => c_X12_bittings q) hC k_X12_bittings ql_RX12_438 rfl (by decide) hS (fun _ q => ez_rcv q) rfl hl.1 rfl (Nat.le_of_ble_eq_true rfl) ⟨Nat.zero_le _, Nat.zero_le _⟩ dX12_fits_6 (fun t_6 H locs hS h => ?_)
    refine lv_icmp_ge (tgt := 30) hx hb dX12_fits_9 (by decide) (fun c_9 => ?_) (fun c_9 => ?_)
    · replace h := ez_ifp h c_9
      refine lv_iload_n hx hb dX12_fits_30 rfl (lv_at hl 2 rfl) ?_
      exact hret _ _ _ _ _ (Option.some.inj h) rfl hS dX12_fits_31
    · replace h := ez_ifn h c_9
      refine lv_aload_n hx hb dX12_fits_12 rfl (lv_at hl 0 rfl) ?_
      refine lv_iload_n hx hb dX12_fits_13 rfl (lv_at hl 3 rfl) ?_
      refine lv_iload_n hx hb dX12_fits_14 rfl (lv_at hl 1 rfl) ?_
      refine ez_cVpi (As := [.int x3, .int x1]) (rest := []) h (fun _ q => c_X12_doesFit q) hC k_X12_doesFit ql_RX12_615 rfl (by decide) hS (fun _ q => ez_rcv q) rfl hl.1 rfl (Nat.le_of_ble_eq_true rfl) ⟨Nat.zero_le _, Nat.zero_le _⟩ dX12_fits_15 (fun t_15 H locs hS h => ?_)
      refine lv_if_eq (tgt := 24) hx hb dX12_fits_18 (by decide) (fun c_18 => ?_) (fun c_18 => ?_)
      · replace h := ez_ifp h c_18
        exact K_24 k_4 hk_4 h0 x1 x2 x3 _ _ _ hS h (lv_sub hl [0, 1, 2, 3] rfl)
      · replace h := ez_ifn h c_18
        obtain ⟨t_21, e_21, h⟩ := ez_let_sp h
        refine lv_iinc (v := t_21) (lv' := [(2, .int t_21), (0, .ref (B + h0)), (1, .int x1), (3, .int x3)]) hx hb dX12_fits_21 hl (k := 2) rfl (by rw [e_21]; rfl) (by decide) rfl (fun ls hl => ?_)
        exact K_24 k_4 hk_4 h0 x1 t_21 x3 _ _ _ hS h (lv_sub hl [1, 2, 0, 3] rfl)
  have E_4 : ∀ (h0 : Nat) (x1 : Int32) (x2 : Int32) (x3 : Int32) (H : Heap) (locs : List Loc) (ls : Array Slot), ez_S X B s.heap (n0) σ H locs → (ez_fix (fun _ _ _ _ => none) (z_X12_fits_4 σ) ez_N) h0 x1 x2 x3 = some z → lv_has ls 4 [(0, .ref (B + h0)), (1, .int x1), (2, .int x2), (3, .int x3)] → W p l e R s m args below meth c H locs 0 0 Q (F0 m 4 ls []) := ez_fix_ind (fun k_4 : Nat → Int32 → Int32 → Int32 → Option (Int32) => ∀ (h0 : Nat) (x1 : Int32) (x2 : Int32) (x3 : Int32) (H : Heap) (locs : List Loc) (ls : Array Slot), ez_S X B s.heap (n0) σ H locs → k_4 h0 x1 x2 x3 = some z → lv_has ls 4 [(0, .ref (B + h0)), (1, .int x1), (2, .int x2), (3, .int x3)] → W p l e R s m args below meth c H locs 0 0 Q (F0 m 4 ls [])) (fun _ _ _ _ _ _ _ _ h _ => by cases h) (fun k_4 hk_4 => K_4 k_4 hk_4) ez_N
  refine lv_iconst (v := 0) hx hb dX12_fits_0 (by decide) ?_
  refine lv_istore_n (lv' := [(2, .int 0), (0, .ref (B + h0)), (1, .int x1)]) hx hb dX12_fits_1 rfl hl (by decide) rfl (fun ls hl => ?_)
  refine lv_iconst (v := 0) hx hb dX12_fits_2 (by decide) ?_
  refine lv_istore_n (lv' := [(3, .int 0), (2, .int 0), (0, .ref (B + h0)), (1, .int x1)]) hx hb dX12_fits_3 rfl hl (by decide) rfl (fun ls hl => ?_)
  exact E_4  h0 x1 (0 : Int32) (0 : Int32) _ _ _ hS h (lv_sub hl [2, 3, 1, 0] rfl)
set_option maxHeartbeats 4000000 in
set_option maxRecDepth 100000 in
theorem c_X12_mostBy {l : Launch} {X : ez_X} {B : Nat} {σ : ez_H} {h0 : Nat} {x1 : Int32} {x2 : Int32} {z : Int32} (h : z_X12_mostBy σ h0 x1 x2 = some z) : ez_M l X B σ yX12_mostBy cX12_mostBy 6 (some .int) 4 [.ref (B + h0), .int x1, .int x2] (some (.int z)) σ := by
  refine ez_startip (z := z) (by decide) (Nat.le_of_ble_eq_true rfl) (fun p e R s m args below meth c Q hC hret hS ls hl => ?_)
  have hC : ez_C p R s m args c X B RX12 cX12_mostBy 6 4 := hC
  have hx := hC.1.1
  have hb := hC.1.2.1
  have hown := hC.1.2.2.2.1
  have hts := hC.1.2.2.2.2
  have hl : lv_has ls 6 [(0, .ref (B + h0)), (1, .int x1), (2, .int x2)] := hl
  obtain ⟨n0, e0⟩ : ∃ n0 : Nat, n0 = σ.length := ⟨_, rfl⟩
  rw [← e0] at hret hS
  obtain ⟨-, h⟩ := ez_in h
  have K_68 : ∀ (y0 : Int32) (H : Heap) (locs : List Loc) (ls : Array Slot), ez_S X B s.heap (n0) σ H locs → z_X12_mostBy_68 σ y0 = some z → lv_has ls 6 [] → W p l e R s m args below meth c H locs 0 0 Q (F0 m 68 ls [.int y0]) := by
    intro y0 H locs ls hS h hl
    exact hret _ _ _ _ _ (Option.some.inj h) rfl hS dX12_mostBy_68
  have K_50 : ∀ (k_8 : Nat → Int32 → Int32 → Int32 → Int32 → Int32 → Option (Int32)) (hk_8 : ∀ (h0 : Nat) (x1 : Int32) (x2 : Int32) (x3 : Int32) (x4 : Int32) (x5 : Int32) (H : Heap) (locs : List Loc) (ls : Array Slot), ez_S X B s.heap (n0) σ H locs → k_8 h0 x1 x2 x3 x4 x5 = some z → lv_has ls 6 [(0, .ref (B + h0)), (1, .int x1), (2, .int x2), (3, .int x3), (4, .int x4), (5, .int x5)] → W p l e R s m args below meth c H locs 0 0 Q (F0 m 8 ls [])), ∀ (h0 : Nat) (x1 : Int32) (x2 : Int32) (x3 : Int32) (x4 : Int32) (x5 : Int32) (H : Heap) (locs : List Loc) (ls : Array Slot), ez_S X B s.heap (n0) σ H locs → z_X12_mostBy_50 σ k_8 h0 x1 x2 x3 x4 x5 = some z → lv_has ls 6 [(0, .ref (B + h0)), (1, .int x1), (2, .int x2), (3, .int x3), (4, .int x4), (5, .int x5)] → W p l e R s m args below meth c H locs 0 0 Q (F0 m 50 ls []) := by
    intro k_8 hk_8 h0 x1 x2 x3 x4 x5 H locs ls hS h hl
    obtain ⟨t_50, e_50, h⟩ := ez_let_sp h
    refine lv_iinc (v := t_50) (lv' := [(5, .int t_50), (0, .ref (B + h0)), (1, .int x1), (2, .int x2), (3, .int x3), (4, .int x4)]) hx hb dX12_mostBy_50 hl (k := 5) rfl (by rw [e_50]; rfl) (by decide) rfl (fun ls hl => ?_)
    refine lv_goto (tgt := 8) hx hb dX12_mostBy_53 (by decide) ?_
    exact hk_8 h0 x1 x2 x3 x4 t_50 _ _ _ hS h (lv_sub hl [1, 2, 3, 4, 5, 0] rfl)
  have K_8 : ∀ (k_8 : Nat → Int32 → Int32 → Int32 → Int32 → Int32 → Option (Int32)) (hk_8 : ∀ (h0 : Nat) (x1 : Int32) (x2 : Int32) (x3 : Int32) (x4 : Int32) (x5 : Int32) (H : Heap) (locs : List Loc) (ls : Array Slot), ez_S X B s.heap (n0) σ H locs → k_8 h0 x1 x2 x3 x4 x5 = some z → lv_has ls 6 [(0, .ref (B + h0)), (1, .int x1), (2, .int x2), (3, .int x3), (4, .int x4), (5, .int x5)] → W p l e R s m args below meth c H locs 0 0 Q (F0 m 8 ls [])), ∀ (h0 : Nat) (x1 : Int32) (x2 : Int32) (x3 : Int32) (x4 : Int32) (x5 : Int32) (H : Heap) (locs : List Loc) (ls : Array Slot), ez_S X B s.heap (n0) σ H locs → z_X12_mostBy_8 σ k_8 h0 x1 x2 x3 x4 x5 = some z → lv_has ls 6 [(0, .ref (B + h0)), (1, .int x1), (2, .int x2), (3, .int x3), (4, .int x4), (5, .int x5)] → W p l e R s m args below meth c H locs 0 0 Q (F0 m 8 ls []) := by
    intro k_8 hk_8 h0 x1 x2 x3 x4 x5 H locs ls hS h hl
    refine lv_iload hx hb dX12_mostBy_8 (lv_at hl 5 rfl) ?_
    refine lv_aload_n hx hb dX12_mostBy_10 rfl (lv_at hl 0 rfl) ?_
    refine ez_cVpi (As := []) (rest := [.int x5]) h (fun _ q => c_X12_bittings q) hC k_X12_bittings ql_RX12_438 rfl (by decide) hS (fun _ q => ez_rcv q) rfl hl.1 rfl (Nat.le_of_ble_eq_true rfl) ⟨Nat.zero_le _, Nat.zero_le _⟩ dX12_mostBy_11 (fun t_11 H locs hS h => ?_)
    refine lv_icmp_ge (tgt := 56) hx hb dX12_mostBy_14 (by decide) (fun c_14 => ?_) (fun c_14 => ?_)
    · replace h := ez_ifp h c_14
      refine lv_iload_n hx hb dX12_mostBy_56 rfl (lv_at hl 3 rfl) ?_
      refine lv_iload hx hb dX12_mostBy_57 (lv_at hl 4 rfl) ?_
      refine lv_icmp_le (tgt := 66) hx hb dX12_mostBy_59 (by decide) (fun c_59 => ?_) (fun c_59 => ?_)
      · replace h := ez_ifp h c_59
        refine lv_iload hx hb dX12_mostBy_66 (lv_at hl 4 rfl) ?_
        exact K_68  x4 _ _ _ hS h (lv_sub hl [] rfl)
      · replace h := ez_ifn h c_59
        refine lv_iload_n hx hb dX12_mostBy_62 rfl (lv_at hl 3 rfl) ?_
        refine lv_goto (tgt := 68) hx hb dX12_mostBy_63 (by decide) ?_
        exact K_68  x3 _ _ _ hS h (lv_sub hl [] rfl)
    · replace h := ez_ifn h c_14
      refine lv_aload_n hx hb dX12_mostBy_17 rfl (lv_at hl 0 rfl) ?_
      refine lv_iload hx hb dX12_mostBy_18 (lv_at hl 5 rfl) ?_
      refine lv_iload_n hx hb dX12_mostBy_20 rfl (lv_at hl 2 rfl) ?_
      refine ez_cVpi (As := [.int x5, .int x2]) (rest := []) h (fun _ q => c_X12_doesFit q) hC k_X12_doesFit ql_RX12_615 rfl (by decide) hS (fun _ q => ez_rcv q) rfl hl.1 rfl (Nat.le_of_ble_eq_true rfl) ⟨Nat.zero_le _, Nat.zero_le _⟩ dX12_mostBy_21 (fun t_21 H locs hS h => ?_)
      refine lv_if_ne (tgt := 30) hx hb dX12_mostBy_24 (by decide) (fun c_24 => ?_) (fun c_24 => ?_)
      · replace h := ez_ifn h c_24
        refine lv_aload_n hx hb dX12_mostBy_30 rfl (lv_at hl 0 rfl) ?_
        refine lv_iload hx hb dX12_mostBy_31 (lv_at hl 5 rfl) ?_
        refine lv_iload_n hx hb dX12_mostBy_33 rfl (lv_at hl 1 rfl) ?_
        refine ez_cVpi (As := [.int x5, .int x1]) (rest := []) h (fun _ q => c_X12_openedAsTold q) hC k_X12_openedAsTold ql_RX12_612 rfl (by decide) hS (fun _ q => ez_rcv q) rfl hl.1 rfl (Nat.le_of_ble_eq_true rfl) ⟨Nat.zero_le _, Nat.zero_le _⟩ dX12_mostBy_34 (fun t_34 H locs hS h => ?_)
        refine lv_iconst (v := 1) hx hb dX12_mostBy_37 (by decide) ?_
        refine lv_icmp_ne (tgt := 47) hx hb dX12_mostBy_38 (by decide) (fun c_38 => ?_) (fun c_38 => ?_)
        · replace h := ez_ifn h c_38
          obtain ⟨t_47, e_47, h⟩ := ez_let_sp h
          refine lv_iinc (v := t_47) (lv' := [(4, .int t_47), (0, .ref (B + h0)), (1, .int x1), (2, .int x2), (3, .int x3), (5, .int x5)]) hx hb dX12_mostBy_47 hl (k := 4) rfl (by rw [e_47]; rfl) (by decide) rfl (fun ls hl => ?_)
          exact K_50 k_8 hk_8 h0 x1 x2 x3 t_47 x5 _ _ _ hS h (lv_sub hl [1, 2, 3, 4, 0, 5] rfl)
        · replace h := ez_ifp h c_38
          obtain ⟨t_41, e_41, h⟩ := ez_let_sp h
          refine lv_iinc (v := t_41) (lv' := [(3, .int t_41), (0, .ref (B + h0)), (1, .int x1), (2, .int x2), (4, .int x4), (5, .int x5)]) hx hb dX12_mostBy_41 hl (k := 3) rfl (by rw [e_41]; rfl) (by decide) rfl (fun ls hl => ?_)
          refine lv_goto (tgt := 50) hx hb dX12_mostBy_44 (by decide) ?_
          exact K_50 k_8 hk_8 h0 x1 x2 t_41 x4 x5 _ _ _ hS h (lv_sub hl [1, 2, 3, 0, 4, 5] rfl)
      · replace h := ez_ifp h c_24
        refine lv_goto (tgt := 50) hx hb dX12_mostBy_27 (by decide) ?_
        exact K_50 k_8 hk_8 h0 x1 x2 x3 x4 x5 _ _ _ hS h (lv_sub hl [0, 1, 2, 3, 4, 5] rfl)
  have E_8 : ∀ (h0 : Nat) (x1 : Int32) (x2 : Int32) (x3 : Int32) (x4 : Int32) (x5 : Int32) (H : Heap) (locs : List Loc) (ls : Array Slot), ez_S X B s.heap (n0) σ H locs → (ez_fix (fun _ _ _ _ _ _ => none) (z_X12_mostBy_8 σ) ez_N) h0 x1 x2 x3 x4 x5 = some z → lv_has ls 6 [(0, .ref (B + h0)), (1, .int x1), (2, .int x2), (3, .int x3), (4, .int x4), (5, .int x5)] → W p l e R s m args below meth c H locs 0 0 Q (F0 m 8 ls []) := ez_fix_ind (fun k_8 : Nat → Int32 → Int32 → Int32 → Int32 → Int32 → Option (Int32) => ∀ (h0 : Nat) (x1 : Int32) (x2 : Int32) (x3 : Int32) (x4 : Int32) (x5 : Int32) (H : Heap) (locs : List Loc) (ls : Array Slot), ez_S X B s.heap (n0) σ H locs → k_8 h0 x1 x2 x3 x4 x5 = some z → lv_has ls 6 [(0, .ref (B + h0)), (1, .int x1), (2, .int x2), (3, .int x3), (4, .int x4), (5, .int x5)] → W p l e R s m args below meth c H locs 0 0 Q (F0 m 8 ls [])) (fun _ _ _ _ _ _ _ _ _ _ h _ => by cases h) (fun k_8 hk_8 => K_8 k_8 hk_8) ez_N
  refine lv_iconst (v := 0) hx hb dX12_mostBy_0 (by decide) ?_
  refine lv_istore_n (lv' := [(3, .int 0), (0, .ref (B + h0)), (1, .int x1), (2, .int x2)]) hx hb dX12_mostBy_1 rfl hl (by decide) rfl (fun ls hl => ?_)
  refine lv_iconst (v := 0) hx hb dX12_mostBy_2 (by decide) ?_
  refine lv_istore (lv' := [(4, .int 0), (3, .int 0), (0, .ref (B + h0)), (1, .int x1), (2, .int x2)]) hx hb dX12_mostBy_3 hl (by decide) rfl (fun ls hl => ?_)
  refine lv_iconst (v := 0) hx hb dX12_mostBy_5 (by decide) ?_
  refine lv_istore (lv' := [(5, .int 0), (4, .int 0), (3, .int 0), (0, .ref (B + h0)), (1, .int x1), (2, .int x2)]) hx hb dX12_mostBy_6 hl (by decide) rfl (fun ls hl => ?_)
  exact E_8  h0 x1 x2 (0 : Int32) (0 : Int32) (0 : Int32) _ _ _ hS h (lv_sub hl [3, 4, 5, 2, 1, 0] rfl)
set_option maxHeartbeats 4000000 in
set_option maxRecDepth 100000 in
theorem c_X12_ask {l : Launch} {X : ez_X} {B : Nat} {σ : ez_H} {h0 : Nat} {x1 : Int32} {x2 : Int32} {z : Int32} (h : z_X12_ask σ h0 x1 x2 = some z) : ez_M l X B σ yX12_ask cX12_ask 7 (some .int) 5 [.ref (B + h0), .int x1, .int x2] (some (.int z)) σ := by
  refine ez_startip (z := z) (by decide) (Nat.le_of_ble_eq_true rfl) (fun p e R s m args below meth c Q hC hret hS ls hl => ?_)
  have hC : ez_C p R s m args c X B RX12 cX12_ask 7 5 := hC
  have hx := hC.1.1
  have hb := hC.1.2.1
  have hown := hC.1.2.2.2.1
  have hts := hC.1.2.2.2.2
  have hl : lv_has ls 7 [(0, .ref (B + h0)), (1, .int x1), (2, .int x2)] := hl
  obtain ⟨n0, e0⟩ : ∃ n0 : Nat, n0 = σ.length := ⟨_, rfl⟩
  rw [← e0] at hret hS
  obtain ⟨-, h⟩ := ez_in h
  have K_24 : ∀ (H : Heap) (locs : List Loc) (ls : Array Slot), ez_S X B s.heap (n0) σ H locs → z_X12_ask_24 σ = some z → lv_has ls 7 [] → W p l e R s m args below meth c H locs 0 0 Q (F0 m 24 ls []) := by
    intro  H locs ls hS h hl
    refine lv_iconst (v := -1) hx hb dX12_ask_24 (by decide) ?_
    exact hret _ _ _ _ _ (Option.some.inj h) rfl hS dX12_ask_25
  have K_87 : ∀ (y0 : Int32) (H : Heap) (locs : List Loc) (ls : Array Slot), ez_S X B s.heap (n0) σ H locs → z_X12_ask_87 σ y0 = some z → lv_has ls 7 [] → W p l e R s m args below meth c H locs 0 0 Q (F0 m 87 ls [.int y0]) := by
    intro y0 H locs ls hS h hl
    exact hret _ _ _ _ _ (Option.some.inj h) rfl hS dX12_ask_87
  have K_71 : ∀ (k_36 : Nat → Int32 → Int32 → Int32 → Int32 → Int32 → Option (Int32)) (hk_36 : ∀ (h0 : Nat) (x1 : Int32) (x2 : Int32) (x3 : Int32) (x4 : Int32) (x5 : Int32) (H : Heap) (locs : List Loc) (ls : Array Slot), ez_S X B s.heap (n0) σ H locs → k_36 h0 x1 x2 x3 x4 x5 = some z → lv_has ls 7 [(0, .ref (B + h0)), (1, .int x1), (2, .int x2), (3, .int x3), (4, .int x4), (5, .int x5)] → W p l e R s m args below meth c H locs 0 0 Q (F0 m 36 ls [])), ∀ (h0 : Nat) (x1 : Int32) (x2 : Int32) (x3 : Int32) (x4 : Int32) (x5 : Int32) (H : Heap) (locs : List Loc) (ls : Array Slot), ez_S X B s.heap (n0) σ H locs → z_X12_ask_71 σ k_36 h0 x1 x2 x3 x4 x5 = some z → lv_has ls 7 [(0, .ref (B + h0)), (1, .int x1), (2, .int x2), (3, .int x3), (4, .int x4), (5, .int x5)] → W p l e R s m args below meth c H locs 0 0 Q (F0 m 71 ls []) := by
    intro k_36 hk_36 h0 x1 x2 x3 x4 x5 H locs ls hS h hl
    obtain ⟨t_71, e_71, h⟩ := ez_let_sp h
    refine lv_iinc (v := t_71) (lv' := [(5, .int t_71), (0, .ref (B + h0)), (1, .int x1), (2, .int x2), (3, .int x3), (4, .int x4)]) hx hb dX12_ask_71 hl (k := 5) rfl (by rw [e_71]; rfl) (by decide) rfl (fun ls hl => ?_)
    refine lv_goto (tgt := 36) hx hb dX12_ask_74 (by decide) ?_
    exact hk_36 h0 x1 x2 x3 x4 t_71 _ _ _ hS h (lv_sub hl [1, 2, 3, 4, 5, 0] rfl)
  have K_36 : ∀ (k_36 : Nat → Int32 → Int32 → Int32 → Int32 → Int32 → Option (Int32)) (hk_36 : ∀ (h0 : Nat) (x1 : Int32) (x2 : Int32) (x3 : Int32) (x4 : Int32) (x5 : Int32) (H : Heap) (locs : List Loc) (ls : Array Slot), ez_S X B s.heap (n0) σ H locs → k_36 h0 x1 x2 x3 x4 x5 = some z → lv_has ls 7 [(0, .ref (B + h0)), (1, .int x1), (2, .int x2), (3, .int x3), (4, .int x4), (5, .int x5)] → W p l e R s m args below meth c H locs 0 0 Q (F0 m 36 ls [])), ∀ (h0 : Nat) (x1 : Int32) (x2 : Int32) (x3 : Int32) (x4 : Int32) (x5 : Int32) (H : Heap) (locs : List Loc) (ls : Array Slot), ez_S X B s.heap (n0) σ H locs → z_X12_ask_36 σ k_36 h0 x1 x2 x3 x4 x5 = some z → lv_has ls 7 [(0, .ref (B + h0)), (1, .int x1), (2, .int x2), (3, .int x3), (4, .int x4), (5, .int x5)] → W p l e R s m args below meth c H locs 0 0 Q (F0 m 36 ls []) := by
    intro k_36 hk_36 h0 x1 x2 x3 x4 x5 H locs ls hS h hl
    refine lv_iload hx hb dX12_ask_36 (lv_at hl 5 rfl) ?_
    refine lv_aload_n hx hb dX12_ask_38 rfl (lv_at hl 0 rfl) ?_
    refine ez_cVpi (As := []) (rest := [.int x5]) h (fun _ q => c_X12_bolts q) hC k_X12_bolts ql_RX12_411 rfl (by decide) hS (fun _ q => ez_rcv q) rfl hl.1 rfl (Nat.le_of_ble_eq_true rfl) ⟨Nat.zero_le _, Nat.zero_le _⟩ dX12_ask_39 (fun t_39 H locs hS h => ?_)
    refine lv_icmp_ge (tgt := 77) hx hb dX12_ask_42 (by decide) (fun c_42 => ?_) (fun c_42 => ?_)
    · replace h := ez_ifp h c_42
      refine lv_iload_n hx hb dX12_ask_77 rfl (lv_at hl 1 rfl) ?_
      refine lv_if_ne (tgt := 85) hx hb dX12_ask_78 (by decide) (fun c_78 => ?_) (fun c_78 => ?_)
      · replace h := ez_ifn h c_78
        refine lv_iload hx hb dX12_ask_85 (lv_at hl 4 rfl) ?_
        exact K_87  x4 _ _ _ hS h (lv_sub hl [] rfl)
      · replace h := ez_ifp h c_78
        refine lv_iload_n hx hb dX12_ask_81 rfl (lv_at hl 3 rfl) ?_
        refine lv_goto (tgt := 87) hx hb dX12_ask_82 (by decide) ?_
        exact K_87  x3 _ _ _ hS h (lv_sub hl [] rfl)
    · replace h := ez_ifn h c_42
      refine lv_aload_n hx hb dX12_ask_45 rfl (lv_at hl 0 rfl) ?_
      refine lv_iload hx hb dX12_ask_46 (lv_at hl 5 rfl) ?_
      refine lv_iload_n hx hb dX12_ask_48 rfl (lv_at hl 2 rfl) ?_
      refine ez_cVpi (As := [.int x5, .int x2]) (rest := []) h (fun _ q => c_X12_mostBy q) hC k_X12_mostBy ql_RX12_621 rfl (by decide) hS (fun _ q => ez_rcv q) rfl hl.1 rfl (Nat.le_of_ble_eq_true rfl) ⟨Nat.zero_le _, Nat.zero_le _⟩ dX12_ask_49 (fun t_49 H locs hS h => ?_)
      refine lv_istore (lv' := [(6, .int t_49), (0, .ref (B + h0)), (1, .int x1), (2, .int x2), (3, .int x3), (4, .int x4), (5, .int x5)]) hx hb dX12_ask_52 hl (by decide) rfl (fun ls hl => ?_)
      refine lv_iload hx hb dX12_ask_54 (lv_at hl 0 rfl) ?_
      refine lv_iload hx hb dX12_ask_56 (lv_at hl 5 rfl) ?_
      refine lv_icmp_lt (tgt := 64) hx hb dX12_ask_58 (by decide) (fun c_58 => ?_) (fun c_58 => ?_)
      · replace h := ez_ifp h c_58
        refine lv_iload hx hb dX12_ask_64 (lv_at hl 6 rfl) ?_
        refine lv_istore_n (lv' := [(3, .int x5), (6, .int t_49), (0, .ref (B + h0)), (1, .int x1), (2, .int x2), (4, .int x4), (5, .int x5)]) hx hb dX12_ask_66 rfl hl (by decide) rfl (fun ls hl => ?_)
        refine lv_iload hx hb dX12_ask_67 (lv_at hl 1 rfl) ?_
        refine lv_istore (lv' := [(4, .int t_49), (3, .int x5), (6, .int t_49), (0, .ref (B + h0)), (1, .int x1), (2, .int x2), (5, .int x5)]) hx hb dX12_ask_69 hl (by decide) rfl (fun ls hl => ?_)
        exact K_71 k_36 hk_36 h0 x1 x2 x5 t_49 x5 _ _ _ hS h (lv_sub hl [3, 4, 5, 1, 0, 6] rfl)
      · replace h := ez_ifn h c_58
        refine lv_goto (tgt := 71) hx hb dX12_ask_61 (by decide) ?_
        exact K_71 k_36 hk_36 h0 x1 x2 x3 x4 x5 _ _ _ hS h (lv_sub hl [1, 2, 3, 4, 5, 6] rfl)
  have E_36 : ∀ (h0 : Nat) (x1 : Int32) (x2 : Int32) (x3 : Int32) (x4 : Int32) (x5 : Int32) (H : Heap) (locs : List Loc) (ls : Array Slot), ez_S X B s.heap (n0) σ H locs → (ez_fix (fun _ _ _ _ _ _ => none) (z_X12_ask_36 σ) ez_N) h0 x1 x2 x3 x4 x5 = some z → lv_has ls 7 [(0, .ref (B + h0)), (1, .int x1), (2, .int x2), (3, .int x3), (4, .int x4), (5, .int x5)] → W p l e R s m args below meth c H locs 0 0 Q (F0 m 36 ls []) := ez_fix_ind (fun k_36 : Nat → Int32 → Int32 → Int32 → Int32 → Int32 → Option (Int32) => ∀ (h0 : Nat) (x1 : Int32) (x2 : Int32) (x3 : Int32) (x4 : Int32) (x5 : Int32) (H : Heap) (locs : List Loc) (ls : Array Slot), ez_S X B s.heap (n0) σ H locs → k_36 h0 x1 x2 x3 x4 x5 = some z → lv_has ls 7 [(0, .ref (B + h0)), (1, .int x1), (2, .int x2), (3, .int x3), (4, .int x4), (5, .int x5)] → W p l e R s m args below meth c H locs 0 0 Q (F0 m 36 ls [])) (fun _ _ _ _ _ _ _ _ _ _ h _ => by cases h) (fun k_36 hk_36 => K_36 k_36 hk_36) ez_N
  refine lv_iload_n hx hb dX12_ask_0 rfl (lv_at hl 1 rfl) ?_
  refine lv_iconst (v := 0) hx hb dX12_ask_1 (by decide) ?_
  refine lv_iconst (v := 1) hx hb dX12_ask_2 (by decide) ?_
  refine ez_cSpi (As := [.int x1, .int 0, .int 1]) (rest := []) h (fun _ q => c_X12_isIn q) hC k_X12_isIn ql_RX12_407 rfl (by decide) hS hl.1 rfl (Nat.le_of_ble_eq_true rfl) ⟨Nat.zero_le _, Nat.zero_le _⟩ dX12_ask_3 (fun t_3 H locs hS h => ?_)
  refine lv_if_eq (tgt := 24) hx hb dX12_ask_6 (by decide) (fun c_6 => ?_) (fun c_6 => ?_)
  · replace h := ez_ifp h c_6
    exact K_24   _ _ _ hS h (lv_sub hl [] rfl)
  · replace h := ez_ifn h c_6
    refine lv_aload_n hx hb dX12_ask_9 rfl (lv_at hl 0 rfl) ?_
    refine ez_cVpi (As := []) (rest := []) h (fun _ q => c_X12_bolts q) hC k_X12_bolts ql_RX12_411 rfl (by decide) hS (fun _ q => ez_rcv q) rfl hl.1 rfl (Nat.le_of_ble_eq_true rfl) ⟨Nat.zero_le _, Nat.zero_le _⟩ dX12_ask_10 (fun t_10 H locs hS h => ?_)
    refine lv_if_eq (tgt := 24) hx hb dX12_ask_13 (by decide) (fun c_13 => ?_) (fun c_13 => ?_)
    · replace h := ez_ifp h c_13
      exact K_24   _ _ _ hS h (lv_sub hl [] rfl)
    · replace h := ez_ifn h c_13
      refine lv_aload_n hx hb dX12_ask_16 rfl (lv_at hl 0 rfl) ?_
      refine lv_iload_n hx hb dX12_ask_17 rfl (lv_at hl 2 rfl) ?_
      refine ez_cVpi (As := [.int x2]) (rest := []) h (fun _ q => c_X12_fits q) hC k_X12_fits ql_RX12_618 rfl (by decide) hS (fun _ q => ez_rcv q) rfl hl.1 rfl (Nat.le_of_ble_eq_true rfl) ⟨Nat.zero_le _, Nat.zero_le _⟩ dX12_ask_18 (fun t_18 H locs hS h => ?_)
      refine lv_if_ne (tgt := 26) hx hb dX12_ask_21 (by decide) (fun c_21 => ?_) (fun c_21 => ?_)
      · replace h := ez_ifn h c_21
        refine lv_iconst (v := -1) hx hb dX12_ask_26 (by decide) ?_
        refine lv_istore_n (lv' := [(3, .int (-1)), (0, .ref (B + h0)), (1, .int x1), (2, .int x2)]) hx hb dX12_ask_27 rfl hl (by decide) rfl (fun ls hl => ?_)
        refine lv_ldcw hx hb hown (hts _ qc_RX12_528) dX12_ask_28 ?_
        refine lv_istore (lv' := [(4, .int 100000), (3, .int (-1)), (0, .ref (B + h0)), (1, .int x1), (2, .int x2)]) hx hb dX12_ask_31 hl (by decide) rfl (fun ls hl => ?_)
        refine lv_iconst (v := 0) hx hb dX12_ask_33 (by decide) ?_
        refine lv_istore (lv' := [(5, .int 0), (4, .int 100000), (3, .int (-1)), (0, .ref (B + h0)), (1, .int x1), (2, .int x2)]) hx hb dX12_ask_34 hl (by decide) rfl (fun ls hl => ?_)
        exact E_36  h0 x1 x2 (-1 : Int32) (100000 : Int32) (0 : Int32) _ _ _ hS h (lv_sub hl [3, 4, 5, 2, 1, 0] rfl)
      · replace h := ez_ifp h c_21
        exact K_24   _ _ _ hS h (lv_sub hl [] rfl)
set_option maxHeartbeats 4000000 in
set_option maxRecDepth 100000 in
theorem c_X12_holderOf {l : Launch} {X : ez_X} {B : Nat} {σ : ez_H} {h0 : Nat} {x1 : Int32} {z : Int32} (h : z_X12_holderOf σ h0 x1 = some z) : ez_M l X B σ yX12_holderOf cX12_holderOf 2 (some .int) 0 [.ref (B + h0), .int x1] (some (.int z)) σ := by
  refine ez_startip (z := z) (by decide) (Nat.le_of_ble_eq_true rfl) (fun p e R s m args below meth c Q hC hret hS ls hl => ?_)
  have hC : ez_C p R s m args c X B RX12 cX12_holderOf 2 0 := hC
  have hx := hC.1.1
  have hb := hC.1.2.1
  have hown := hC.1.2.2.2.1
  have hts := hC.1.2.2.2.2
  have hl : lv_has ls 2 [(0, .ref (B + h0)), (1, .int x1)] := hl
  obtain ⟨n0, e0⟩ : ∃ n0 : Nat, n0 = σ.length := ⟨_, rfl⟩
  rw [← e0] at hret hS
  obtain ⟨-, h⟩ := ez_in h
  refine lv_aload_n hx hb dX12_holderOf_0 rfl (lv_at hl 0 rfl) ?_
  refine eg_RX12_118 hC hS h dX12_holderOf_1 (fun t_1 h => ?_)
  refine lv_bipush (v := 48) hx hb dX12_holderOf_4 (by decide) ?_
  refine lv_iload_n hx hb dX12_holderOf_6 rfl (lv_at hl 1 rfl) ?_
  refine lv_iadd hx hb dX12_holderOf_7 ?_
  refine ez_top h (fun t_7 h => ?_)
  refine ez_ial hC hS h dX12_holderOf_8 (fun t_8 h => ?_)
  exact hret _ _ _ _ _ (Option.some.inj h) rfl hS dX12_holderOf_9
set_option maxHeartbeats 4000000 in
set_option maxRecDepth 100000 in
theorem c_X12_keysBy {l : Launch} {X : ez_X} {B : Nat} {σ : ez_H} {h0 : Nat} {x1 : Int32} {z : Int32} (h : z_X12_keysBy σ h0 x1 = some z) : ez_M l X B σ yX12_keysBy cX12_keysBy 4 (some .int) 1 [.ref (B + h0), .int x1] (some (.int z)) σ := by
  refine ez_startip (z := z) (by decide) (Nat.le_of_ble_eq_true rfl) (fun p e R s m args below meth c Q hC hret hS ls hl => ?_)
  have hC : ez_C p R s m args c X B RX12 cX12_keysBy 4 1 := hC
  have hx := hC.1.1
  have hb := hC.1.2.1
  have hown := hC.1.2.2.2.1
  have hts := hC.1.2.2.2.2
  have hl : lv_has ls 4 [(0, .ref (B + h0)), (1, .int x1)] := hl
  obtain ⟨n0, e0⟩ : ∃ n0 : Nat, n0 = σ.length := ⟨_, rfl⟩
  rw [← e0] at hret hS
  obtain ⟨-, h⟩ := ez_in h
  have K_27 : ∀ (k_4 : Nat → Int32 → Int32 → Int32 → Option (Int32)) (hk_4 : ∀ (h0 : Nat) (x1 : Int32) (x2 : Int32) (x3 : Int32) (H : Heap) (locs : List Loc) (ls : Array Slot), ez_S X B s.heap (n0) σ H locs → k_4 h0 x1 x2 x3 = some z → lv_has ls 4 [(0, .ref (B + h0)), (1, .int x1), (2, .int x2), (3, .int x3)] → W p l e R s m args below meth c H locs 0 0 Q (F0 m 4 ls [])), ∀ (h0 : Nat) (x1 : Int32) (x2 : Int32) (x3 : Int32) (H : Heap) (locs : List Loc) (ls : Array Slot), ez_S X B s.heap (n0) σ H locs → z_X12_keysBy_27 σ k_4 h0 x1 x2 x3 = some z → lv_has ls 4 [(0, .ref (B + h0)), (1, .int x1), (2, .int x2), (3, .int x3)] → W p l e R s m args below meth c H locs 0 0 Q (F0 m 27 ls []) := by
    intro k_4 hk_4 h0 x1 x2 x3 H locs ls hS h hl
    obtain ⟨t_27, e_27, h⟩ := ez_let_sp h
    refine lv_iinc (v := t_27) (lv' := [(3, .int t_27), (0, .ref (B + h0)), (1, .int x1), (2, .int x2)]) hx hb dX12_keysBy_27 hl (k := 3) rfl (by rw [e_27]; rfl) (by decide) rfl (fun ls hl => ?_)
    refine lv_goto (tgt := 4) hx hb dX12_keysBy_30 (by decide) ?_
    exact hk_4 h0 x1 x2 t_27 _ _ _ hS h (lv_sub hl [1, 2, 3, 0] rfl)
  have K_4 : ∀ (k_4 : Nat → Int32 → Int32 → Int32 → Option (Int32)) (hk_4 : ∀ (h0 : Nat) (x1 : Int32) (x2 : Int32) (x3 : Int32) (H : Heap) (locs : List Loc) (ls : Array Slot), ez_S X B s.heap (n0) σ H locs → k_4 h0 x1 x2 x3 = some z → lv_has ls 4 [(0, .ref (B + h0)), (1, .int x1), (2, .int x2), (3, .int x3)] → W p l e R s m args below meth c H locs 0 0 Q (F0 m 4 ls [])), ∀ (h0 : Nat) (x1 : Int32) (x2 : Int32) (x3 : Int32) (H : Heap) (locs : List Loc) (ls : Array Slot), ez_S X B s.heap (n0) σ H locs → z_X12_keysBy_4 σ k_4 h0 x1 x2 x3 = some z → lv_has ls 4 [(0, .ref (B + h0)), (1, .int x1), (2, .int x2), (3, .int x3)] → W p l e R s m args below meth c H locs 0 0 Q (F0 m 4 ls []) := by
    intro k_4 hk_4 h0 x1 x2 x3 H locs ls hS h hl
    refine lv_iload_n hx hb dX12_keysBy_4 rfl (lv_at hl 3 rfl) ?_
    refine lv_aload_n hx hb dX12_keysBy_5 rfl (lv_at hl 0 rfl) ?_
    refine ez_cVpi (As := []) (rest := [.int x3]) h (fun _ q => c_X12_many q) hC k_X12_many ql_RX12_404 rfl (by decide) hS (fun _ q => ez_rcv q) rfl hl.1 rfl (Nat.le_of_ble_eq_true rfl) ⟨Nat.zero_le _, Nat.zero_le _⟩ dX12_keysBy_6 (fun t_6 H locs hS h => ?_)
    refine lv_icmp_ge (tgt := 33) hx hb dX12_keysBy_9 (by decide) (fun c_9 => ?_) (fun c_9 => ?_)
    · replace h := ez_ifp h c_9
      refine lv_iload_n hx hb dX12_keysBy_33 rfl (lv_at hl 2 rfl) ?_
      exact hret _ _ _ _ _ (Option.some.inj h) rfl hS dX12_keysBy_34
    · replace h := ez_ifn h c_9
      refine lv_aload_n hx hb dX12_keysBy_12 rfl (lv_at hl 0 rfl) ?_
      refine lv_iload_n hx hb dX12_keysBy_13 rfl (lv_at hl 3 rfl) ?_
      refine ez_cVpi (As := [.int x3]) (rest := []) h (fun _ q => c_X12_holderOf q) hC k_X12_holderOf ql_RX12_465 rfl (by decide) hS (fun _ q => ez_rcv q) rfl hl.1 rfl (Nat.le_of_ble_eq_true rfl) ⟨Nat.zero_le _, Nat.zero_le _⟩ dX12_keysBy_14 (fun t_14 H locs hS h => ?_)
      refine lv_iload_n hx hb dX12_keysBy_17 rfl (lv_at hl 1 rfl) ?_
      refine lv_icmp_ne (tgt := 27) hx hb dX12_keysBy_18 (by decide) (fun c_18 => ?_) (fun c_18 => ?_)
      · replace h := ez_ifn h c_18
        exact K_27 k_4 hk_4 h0 x1 x2 x3 _ _ _ hS h (lv_sub hl [0, 1, 2, 3] rfl)
      · replace h := ez_ifp h c_18
        refine lv_iload_n hx hb dX12_keysBy_21 rfl (lv_at hl 2 rfl) ?_
        refine lv_iconst (v := 1) hx hb dX12_keysBy_22 (by decide) ?_
        refine lv_iload_n hx hb dX12_keysBy_23 rfl (lv_at hl 3 rfl) ?_
        refine lv_ishl hx hb dX12_keysBy_24 ?_
        refine ez_top h (fun t_24 h => ?_)
        refine lv_ior hx hb dX12_keysBy_25 ?_
        refine ez_top h (fun t_25 h => ?_)
        refine lv_istore_n (lv' := [(2, .int t_25), (0, .ref (B + h0)), (1, .int x1), (3, .int x3)]) hx hb dX12_keysBy_26 rfl hl (by decide) rfl (fun ls hl => ?_)
        exact K_27 k_4 hk_4 h0 x1 t_25 x3 _ _ _ hS h (lv_sub hl [1, 2, 0, 3] rfl)
  have E_4 : ∀ (h0 : Nat) (x1 : Int32) (x2 : Int32) (x3 : Int32) (H : Heap) (locs : List Loc) (ls : Array Slot), ez_S X B s.heap (n0) σ H locs → (ez_fix (fun _ _ _ _ => none) (z_X12_keysBy_4 σ) ez_N) h0 x1 x2 x3 = some z → lv_has ls 4 [(0, .ref (B + h0)), (1, .int x1), (2, .int x2), (3, .int x3)] → W p l e R s m args below meth c H locs 0 0 Q (F0 m 4 ls []) := ez_fix_ind (fun k_4 : Nat → Int32 → Int32 → Int32 → Option (Int32) => ∀ (h0 : Nat) (x1 : Int32) (x2 : Int32) (x3 : Int32) (H : Heap) (locs : List Loc) (ls : Array Slot), ez_S X B s.heap (n0) σ H locs → k_4 h0 x1 x2 x3 = some z → lv_has ls 4 [(0, .ref (B + h0)), (1, .int x1), (2, .int x2), (3, .int x3)] → W p l e R s m args below meth c H locs 0 0 Q (F0 m 4 ls [])) (fun _ _ _ _ _ _ _ _ h _ => by cases h) (fun k_4 hk_4 => K_4 k_4 hk_4) ez_N
  refine lv_iconst (v := 0) hx hb dX12_keysBy_0 (by decide) ?_
  refine lv_istore_n (lv' := [(2, .int 0), (0, .ref (B + h0)), (1, .int x1)]) hx hb dX12_keysBy_1 rfl hl (by decide) rfl (fun ls hl => ?_)
  refine lv_iconst (v := 0) hx hb dX12_keysBy_2 (by decide) ?_
  refine lv_istore_n (lv' := [(3, .int 0), (2, .int 0), (0, .ref (B + h0)), (1, .int x1)]) hx hb dX12_keysBy_3 rfl hl (by decide) rfl (fun ls hl => ?_)
  exact E_4  h0 x1 (0 : Int32) (0 : Int32) _ _ _ hS h (lv_sub hl [2, 3, 1, 0] rfl)
set_option maxHeartbeats 4000000 in
set_option maxRecDepth 100000 in
theorem c_X12_bitsOf {l : Launch} {X : ez_X} {B : Nat} {σ : ez_H} {x0 : Int32} {z : Int32} (h : z_X12_bitsOf σ x0 = some z) : ez_M l X B σ yX12_bitsOf cX12_bitsOf 3 (some .int) 0 [.int x0] (some (.int z)) σ := by
  refine ez_startip (z := z) (by decide) (Nat.le_of_ble_eq_true rfl) (fun p e R s m args below meth c Q hC hret hS ls hl => ?_)
  have hC : ez_C p R s m args c X B RX12 cX12_bitsOf 3 0 := hC
  have hx := hC.1.1
  have hb := hC.1.2.1
  have hown := hC.1.2.2.2.1
  have hts := hC.1.2.2.2.2
  have hl : lv_has ls 3 [(0, .int x0)] := hl
  obtain ⟨n0, e0⟩ : ∃ n0 : Nat, n0 = σ.length := ⟨_, rfl⟩
  rw [← e0] at hret hS
  have K_4 : ∀ (k_4 : Int32 → Int32 → Option (Int32)) (hk_4 : ∀ (x1 : Int32) (x2 : Int32) (H : Heap) (locs : List Loc) (ls : Array Slot), ez_S X B s.heap (n0) σ H locs → k_4 x1 x2 = some z → lv_has ls 3 [(1, .int x1), (2, .int x2)] → W p l e R s m args below meth c H locs 0 0 Q (F0 m 4 ls [])), ∀ (x1 : Int32) (x2 : Int32) (H : Heap) (locs : List Loc) (ls : Array Slot), ez_S X B s.heap (n0) σ H locs → z_X12_bitsOf_4 σ k_4 x1 x2 = some z → lv_has ls 3 [(1, .int x1), (2, .int x2)] → W p l e R s m args below meth c H locs 0 0 Q (F0 m 4 ls []) := by
    intro k_4 hk_4 x1 x2 H locs ls hS h hl
    refine lv_iload_n hx hb dX12_bitsOf_4 rfl (lv_at hl 1 rfl) ?_
    refine lv_if_eq (tgt := 20) hx hb dX12_bitsOf_5 (by decide) (fun c_5 => ?_) (fun c_5 => ?_)
    · replace h := ez_ifp h c_5
      refine lv_iload_n hx hb dX12_bitsOf_20 rfl (lv_at hl 0 rfl) ?_
      exact hret _ _ _ _ _ (Option.some.inj h) rfl hS dX12_bitsOf_21
    · replace h := ez_ifn h c_5
      obtain ⟨t_8, e_8, h⟩ := ez_let_sp h
      refine lv_iinc (v := t_8) (lv' := [(1, .int t_8), (2, .int x2)]) hx hb dX12_bitsOf_8 hl (k := 0) rfl (by rw [e_8]; rfl) (by decide) rfl (fun ls hl => ?_)
      refine lv_iload_n hx hb dX12_bitsOf_11 rfl (lv_at hl 1 rfl) ?_
      refine lv_iload_n hx hb dX12_bitsOf_12 rfl (lv_at hl 1 rfl) ?_
      refine lv_iconst (v := 1) hx hb dX12_bitsOf_13 (by decide) ?_
      refine lv_isub hx hb dX12_bitsOf_14 ?_
      refine ez_top h (fun t_14 h => ?_)
      refine lv_iand hx hb dX12_bitsOf_15 ?_
      refine ez_top h (fun t_15 h => ?_)
      refine lv_istore_n (lv' := [(2, .int t_15), (1, .int t_8)]) hx hb dX12_bitsOf_16 rfl hl (by decide) rfl (fun ls hl => ?_)
      refine lv_goto (tgt := 4) hx hb dX12_bitsOf_17 (by decide) ?_
      exact hk_4 t_8 t_15 _ _ _ hS h (lv_sub hl [1, 0] rfl)
  have E_4 : ∀ (x1 : Int32) (x2 : Int32) (H : Heap) (locs : List Loc) (ls : Array Slot), ez_S X B s.heap (n0) σ H locs → (ez_fix (fun _ _ => none) (z_X12_bitsOf_4 σ) ez_N) x1 x2 = some z → lv_has ls 3 [(1, .int x1), (2, .int x2)] → W p l e R s m args below meth c H locs 0 0 Q (F0 m 4 ls []) := ez_fix_ind (fun k_4 : Int32 → Int32 → Option (Int32) => ∀ (x1 : Int32) (x2 : Int32) (H : Heap) (locs : List Loc) (ls : Array Slot), ez_S X B s.heap (n0) σ H locs → k_4 x1 x2 = some z → lv_has ls 3 [(1, .int x1), (2, .int x2)] → W p l e R s m args below meth c H locs 0 0 Q (F0 m 4 ls [])) (fun _ _ _ _ _ _ h _ => by cases h) (fun k_4 hk_4 => K_4 k_4 hk_4) ez_N
  refine lv_iconst (v := 0) hx hb dX12_bitsOf_0 (by decide) ?_
  refine lv_istore_n (lv' := [(1, .int 0), (0, .int x0)]) hx hb dX12_bitsOf_1 rfl hl (by decide) rfl (fun ls hl => ?_)
  refine lv_iload_n hx hb dX12_bitsOf_2 rfl (lv_at hl 1 rfl) ?_
  refine lv_istore_n (lv' := [(2, .int x0), (1, .int 0), (0, .int x0)]) hx hb dX12_bitsOf_3 rfl hl (by decide) rfl (fun ls hl => ?_)
  exact E_4  (0 : Int32) x0 _ _ _ hS h (lv_sub hl [1, 0] rfl)
set_option maxHeartbeats 4000000 in
set_option maxRecDepth 100000 in
theorem c_X12_back {l : Launch} {X : ez_X} {B : Nat} {σ : ez_H} {h0 : Nat} {x1 : Int32} {z : Int32 × ez_H} (h : z_X12_back σ h0 x1 = some z) : ez_M l X B σ yX12_back cX12_back 3 (some .int) 2 [.ref (B + h0), .int x1] (some (.int z.1)) z.2 := by
  refine ez_starti (z := z) (by decide) (Nat.le_of_ble_eq_true rfl) (fun p e R s m args below meth c Q hC hret hS ls hl => ?_)
  have hC : ez_C p R s m args c X B RX12 cX12_back 3 2 := hC
  have hx := hC.1.1
  have hb := hC.1.2.1
  have hown := hC.1.2.2.2.1
  have hts := hC.1.2.2.2.2
  have hl : lv_has ls 3 [(0, .ref (B + h0)), (1, .int x1)] := hl
  obtain ⟨σ0, eσ⟩ : ∃ σ0 : ez_H, σ0 = σ := ⟨_, rfl⟩
  rw [← eσ] at hret
  have hS : ez_S X B s.heap σ0.length σ s.heap [] := eσ ▸ hS
  obtain ⟨-, h⟩ := ez_in h
  have K_18 : ∀ (σ : ez_H) (H : Heap) (locs : List Loc) (ls : Array Slot), ez_S X B s.heap (σ0.length) σ H locs → z_X12_back_18 σ = some z → lv_has ls 3 [] → W p l e R s m args below meth c H locs 0 0 Q (F0 m 18 ls []) := by
    intro σ H locs ls hS h hl
    refine lv_iconst (v := -1) hx hb dX12_back_18 (by decide) ?_
    exact hret _ _ _ _ _ _ (Option.some.inj h) rfl hS dX12_back_19
  have K_22 : ∀ (k_22 : ez_H → Nat → Int32 → Int32 → Option (Int32 × ez_H)) (hk_22 : ∀ (σ : ez_H) (h0 : Nat) (x1 : Int32) (x2 : Int32) (H : Heap) (locs : List Loc) (ls : Array Slot), ez_S X B s.heap (σ0.length) σ H locs → k_22 σ h0 x1 x2 = some z → lv_has ls 3 [(0, .ref (B + h0)), (1, .int x1), (2, .int x2)] → W p l e R s m args below meth c H locs 0 0 Q (F0 m 22 ls [])), ∀ (σ : ez_H) (h0 : Nat) (x1 : Int32) (x2 : Int32) (H : Heap) (locs : List Loc) (ls : Array Slot), ez_S X B s.heap (σ0.length) σ H locs → z_X12_back_22 k_22 σ h0 x1 x2 = some z → lv_has ls 3 [(0, .ref (B + h0)), (1, .int x1), (2, .int x2)] → W p l e R s m args below meth c H locs 0 0 Q (F0 m 22 ls []) := by
    intro k_22 hk_22 σ h0 x1 x2 H locs ls hS h hl
    refine lv_iload_n hx hb dX12_back_22 rfl (lv_at hl 2 rfl) ?_
    refine lv_bipush (v := 91) hx hb dX12_back_23 (by decide) ?_
    refine lv_icmp_ge (tgt := 51) hx hb dX12_back_25 (by decide) (fun c_25 => ?_) (fun c_25 => ?_)
    · replace h := ez_ifp h c_25
      refine lv_aload_n hx hb dX12_back_51 rfl (lv_at hl 0 rfl) ?_
      refine lv_iconst (v := 0) hx hb dX12_back_52 (by decide) ?_
      refine ep_RX12_417 hC hS h dX12_back_53 (fun σ H locs hS h => ?_)
      refine lv_aload_n hx hb dX12_back_56 rfl (lv_at hl 0 rfl) ?_
      refine lv_iconst (v := 0) hx hb dX12_back_57 (by decide) ?_
      refine ep_RX12_420 hC hS h dX12_back_58 (fun σ H locs hS h => ?_)
      refine lv_aload_n hx hb dX12_back_61 rfl (lv_at hl 0 rfl) ?_
      refine lv_bipush (v := -2) hx hb dX12_back_62 (by decide) ?_
      refine ez_cVpi (As := [.int (-2)]) (rest := []) h (fun _ q => c_X12_keysBy q) hC k_X12_keysBy ql_RX12_538 rfl (by decide) hS (fun _ q => ez_rcv q) rfl hl.1 rfl (Nat.le_of_ble_eq_true rfl) ⟨Nat.zero_le _, Nat.zero_le _⟩ dX12_back_64 (fun t_64 H locs hS h => ?_)
      refine ez_cSpi (As := [.int t_64]) (rest := []) h (fun _ q => c_X12_bitsOf q) hC k_X12_bitsOf ql_RX12_471 rfl (by decide) hS hl.1 rfl (Nat.le_of_ble_eq_true rfl) ⟨Nat.zero_le _, Nat.zero_le _⟩ dX12_back_67 (fun t_67 H locs hS h => ?_)
      exact hret _ _ _ _ _ _ (Option.some.inj h) rfl hS dX12_back_70
    · replace h := ez_ifn h c_25
      refine lv_aload_n hx hb dX12_back_28 rfl (lv_at hl 0 rfl) ?_
      refine eg_RX12_118 hC hS h dX12_back_29 (fun t_29 h => ?_)
      refine lv_iload_n hx hb dX12_back_32 rfl (lv_at hl 2 rfl) ?_
      refine lv_aload_n hx hb dX12_back_33 rfl (lv_at hl 0 rfl) ?_
      refine eg_RX12_148 hC hS h dX12_back_34 (fun t_34 h => ?_)
      refine lv_bipush (v := 91) hx hb dX12_back_37 (by decide) ?_
      refine lv_iload_n hx hb dX12_back_39 rfl (lv_at hl 1 rfl) ?_
      refine lv_imul hx hb dX12_back_40 ?_
      refine ez_top h (fun t_40 h => ?_)
      refine lv_iload_n hx hb dX12_back_41 rfl (lv_at hl 2 rfl) ?_
      refine lv_iadd hx hb dX12_back_42 ?_
      refine ez_top h (fun t_42 h => ?_)
      refine ez_ial hC hS h dX12_back_43 (fun t_43 h => ?_)
      refine ez_ias hC hS h dX12_back_44 (fun σ H locs hS h => ?_)
      obtain ⟨t_45, e_45, h⟩ := ez_let_sp h
      refine lv_iinc (v := t_45) (lv' := [(2, .int t_45), (0, .ref (B + h0)), (1, .int x1)]) hx hb dX12_back_45 hl (k := 2) rfl (by rw [e_45]; rfl) (by decide) rfl (fun ls hl => ?_)
      refine lv_goto (tgt := 22) hx hb dX12_back_48 (by decide) ?_
      exact hk_22 σ h0 x1 t_45 _ _ _ hS h (lv_sub hl [1, 2, 0] rfl)
  have E_22 : ∀ (σ : ez_H) (h0 : Nat) (x1 : Int32) (x2 : Int32) (H : Heap) (locs : List Loc) (ls : Array Slot), ez_S X B s.heap (σ0.length) σ H locs → (ez_fix (fun _ _ _ _ => none) (z_X12_back_22) ez_N) σ h0 x1 x2 = some z → lv_has ls 3 [(0, .ref (B + h0)), (1, .int x1), (2, .int x2)] → W p l e R s m args below meth c H locs 0 0 Q (F0 m 22 ls []) := ez_fix_ind (fun k_22 : ez_H → Nat → Int32 → Int32 → Option (Int32 × ez_H) => ∀ (σ : ez_H) (h0 : Nat) (x1 : Int32) (x2 : Int32) (H : Heap) (locs : List Loc) (ls : Array Slot), ez_S X B s.heap (σ0.length) σ H locs → k_22 σ h0 x1 x2 = some z → lv_has ls 3 [(0, .ref (B + h0)), (1, .int x1), (2, .int x2)] → W p l e R s m args below meth c H locs 0 0 Q (F0 m 22 ls [])) (fun _ _ _ _ _ _ _ _ h _ => by cases h) (fun k_22 hk_22 => K_22 k_22 hk_22) ez_N
  refine lv_iload_n hx hb dX12_back_0 rfl (lv_at hl 1 rfl) ?_
  refine lv_iconst (v := 0) hx hb dX12_back_1 (by decide) ?_
  refine lv_iconst (v := 2) hx hb dX12_back_2 (by decide) ?_
  refine ez_cSpi (As := [.int x1, .int 0, .int 2]) (rest := []) h (fun _ q => c_X12_isIn q) hC k_X12_isIn ql_RX12_407 rfl (by decide) hS hl.1 rfl (Nat.le_of_ble_eq_true rfl) ⟨Nat.zero_le _, Nat.zero_le _⟩ dX12_back_3 (fun t_3 H locs hS h => ?_)
  refine lv_if_eq (tgt := 18) hx hb dX12_back_6 (by decide) (fun c_6 => ?_) (fun c_6 => ?_)
  · replace h := ez_ifp h c_6
    exact K_18  σ _ _ _ hS h (lv_sub hl [] rfl)
  · replace h := ez_ifn h c_6
    refine lv_aload_n hx hb dX12_back_9 rfl (lv_at hl 0 rfl) ?_
    refine eg_RX12_151 hC hS h dX12_back_10 (fun t_10 h => ?_)
    refine lv_iload_n hx hb dX12_back_13 rfl (lv_at hl 1 rfl) ?_
    refine ez_zal hC hS h dX12_back_14 (fun t_14 h => ?_)
    refine lv_if_ne (tgt := 20) hx hb dX12_back_15 (by decide) (fun c_15 => ?_) (fun c_15 => ?_)
    · replace h := ez_ifn h c_15
      refine lv_iconst (v := 0) hx hb dX12_back_20 (by decide) ?_
      refine lv_istore_n (lv' := [(2, .int 0), (0, .ref (B + h0)), (1, .int x1)]) hx hb dX12_back_21 rfl hl (by decide) rfl (fun ls hl => ?_)
      exact E_22  σ h0 x1 (0 : Int32) _ _ _ hS h (lv_sub hl [1, 2, 0] rfl)
    · replace h := ez_ifp h c_15
      exact K_18  σ _ _ _ hS h (lv_sub hl [] rfl)
set_option maxHeartbeats 4000000 in
set_option maxRecDepth 100000 in
theorem c_X12_keysOf {l : Launch} {X : ez_X} {B : Nat} {σ : ez_H} {h0 : Nat} {x1 : Int32} {z : Int32} (h : z_X12_keysOf σ h0 x1 = some z) : ez_M l X B σ yX12_keysOf cX12_keysOf 2 (some .int) 2 [.ref (B + h0), .int x1] (some (.int z)) σ := by
  refine ez_startip (z := z) (by decide) (Nat.le_of_ble_eq_true rfl) (fun p e R s m args below meth c Q hC hret hS ls hl => ?_)
  have hC : ez_C p R s m args c X B RX12 cX12_keysOf 2 2 := hC
  have hx := hC.1.1
  have hb := hC.1.2.1
  have hown := hC.1.2.2.2.1
  have hts := hC.1.2.2.2.2
  have hl : lv_has ls 2 [(0, .ref (B + h0)), (1, .int x1)] := hl
  obtain ⟨n0, e0⟩ : ∃ n0 : Nat, n0 = σ.length := ⟨_, rfl⟩
  rw [← e0] at hret hS
  obtain ⟨-, h⟩ := ez_in h
  refine lv_aload_n hx hb dX12_keysOf_0 rfl (lv_at hl 0 rfl) ?_
  refine lv_iload_n hx hb dX12_keysOf_1 rfl (lv_at hl 1 rfl) ?_
  refine ez_cVpi (As := [.int x1]) (rest := []) h (fun _ q => c_X12_keysBy q) hC k_X12_keysBy ql_RX12_538 rfl (by decide) hS (fun _ q => ez_rcv q) rfl hl.1 rfl (Nat.le_of_ble_eq_true rfl) ⟨Nat.zero_le _, Nat.zero_le _⟩ dX12_keysOf_2 (fun t_2 H locs hS h => ?_)
  exact hret _ _ _ _ _ (Option.some.inj h) rfl hS dX12_keysOf_5
set_option maxHeartbeats 4000000 in
set_option maxRecDepth 100000 in
theorem c_X12_cutOf {l : Launch} {X : ez_X} {B : Nat} {σ : ez_H} {h0 : Nat} {x1 : Int32} {x2 : Int32} {z : Int32} (h : z_X12_cutOf σ h0 x1 x2 = some z) : ez_M l X B σ yX12_cutOf cX12_cutOf 3 (some .int) 0 [.ref (B + h0), .int x1, .int x2] (some (.int z)) σ := by
  refine ez_startip (z := z) (by decide) (Nat.le_of_ble_eq_true rfl) (fun p e R s m args below meth c Q hC hret hS ls hl => ?_)
  have hC : ez_C p R s m args c X B RX12 cX12_cutOf 3 0 := hC
  have hx := hC.1.1
  have hb := hC.1.2.1
  have hown := hC.1.2.2.2.1
  have hts := hC.1.2.2.2.2
  have hl : lv_has ls 3 [(0, .ref (B + h0)), (1, .int x1), (2, .int x2)] := hl
  obtain ⟨n0, e0⟩ : ∃ n0 : Nat, n0 = σ.length := ⟨_, rfl⟩
  rw [← e0] at hret hS
  obtain ⟨-, h⟩ := ez_in h
  refine lv_aload_n hx hb dX12_cutOf_0 rfl (lv_at hl 0 rfl) ?_
  refine eg_RX12_118 hC hS h dX12_cutOf_1 (fun t_1 h => ?_)
  refine lv_iconst (v := 0) hx hb dX12_cutOf_4 (by decide) ?_
  refine lv_iconst (v := 5) hx hb dX12_cutOf_5 (by decide) ?_
  refine lv_iload_n hx hb dX12_cutOf_6 rfl (lv_at hl 1 rfl) ?_
  refine lv_imul hx hb dX12_cutOf_7 ?_
  refine ez_top h (fun t_7 h => ?_)
  refine lv_iadd hx hb dX12_cutOf_8 ?_
  refine ez_top h (fun t_8 h => ?_)
  refine lv_iload_n hx hb dX12_cutOf_9 rfl (lv_at hl 2 rfl) ?_
  refine lv_iadd hx hb dX12_cutOf_10 ?_
  refine ez_top h (fun t_10 h => ?_)
  refine ez_ial hC hS h dX12_cutOf_11 (fun t_11 h => ?_)
  exact hret _ _ _ _ _ (Option.some.inj h) rfl hS dX12_cutOf_12
set_option maxHeartbeats 4000000 in
set_option maxRecDepth 100000 in
theorem c_X12_numberOf {l : Launch} {X : ez_X} {B : Nat} {σ : ez_H} {h0 : Nat} {x1 : Int32} {z : Int32} (h : z_X12_numberOf σ h0 x1 = some z) : ez_M l X B σ yX12_numberOf cX12_numberOf 4 (some .int) 1 [.ref (B + h0), .int x1] (some (.int z)) σ := by
  refine ez_startip (z := z) (by decide) (Nat.le_of_ble_eq_true rfl) (fun p e R s m args below meth c Q hC hret hS ls hl => ?_)
  have hC : ez_C p R s m args c X B RX12 cX12_numberOf 4 1 := hC
  have hx := hC.1.1
  have hb := hC.1.2.1
  have hown := hC.1.2.2.2.1
  have hts := hC.1.2.2.2.2
  have hl : lv_has ls 4 [(0, .ref (B + h0)), (1, .int x1)] := hl
  obtain ⟨n0, e0⟩ : ∃ n0 : Nat, n0 = σ.length := ⟨_, rfl⟩
  rw [← e0] at hret hS
  obtain ⟨-, h⟩ := ez_in h
  have K_4 : ∀ (k_4 : Nat → Int32 → Int32 → Int32 → Option (Int32)) (hk_4 : ∀ (h0 : Nat) (x1 : Int32) (x2 : Int32) (x3 : Int32) (H : Heap) (locs : List Loc) (ls : Array Slot), ez_S X B s.heap (n0) σ H locs → k_4 h0 x1 x2 x3 = some z → lv_has ls 4 [(0, .ref (B + h0)), (1, .int x1), (2, .int x2), (3, .int x3)] → W p l e R s m args below meth c H locs 0 0 Q (F0 m 4 ls [])), ∀ (h0 : Nat) (x1 : Int32) (x2 : Int32) (x3 : Int32) (H : Heap) (locs : List Loc) (ls : Array Slot), ez_S X B s.heap (n0) σ H locs → z_X12_numberOf_4 σ k_4 h0 x1 x2 x3 = some z → lv_has ls 4 [(0, .ref (B + h0)), (1, .int x1), (2, .int x2), (3, .int x3)] → W p l e R s m args below meth c H locs 0 0 Q (F0 m 4 ls []) := by
    intro k_4 hk_4 h0 x1 x2 x3 H locs ls hS h hl
    refine lv_iload_n hx hb dX12_numberOf_4 rfl (lv_at hl 3 rfl) ?_
    refine lv_aload_n hx hb dX12_numberOf_5 rfl (lv_at hl 0 rfl) ?_
    refine ez_cVpi (As := []) (rest := [.int x3]) h (fun _ q => c_X12_wide q) hC k_X12_wide ql_RX12_414 rfl (by decide) hS (fun _ q => ez_rcv q) rfl hl.1 rfl (Nat.le_of_ble_eq_true rfl) ⟨Nat.zero_le _, Nat.zero_le _⟩ dX12_numberOf_6 (fun t_6 H locs hS h => ?_)
    refine lv_icmp_ge (tgt := 32) hx hb dX12_numberOf_9 (by decide) (fun c_9 => ?_) (fun c_9 => ?_)
    · replace h := ez_ifp h c_9
      refine lv_iload_n hx hb dX12_numberOf_32 rfl (lv_at hl 2 rfl) ?_
      exact hret _ _ _ _ _ (Option.some.inj h) rfl hS dX12_numberOf_33
    · replace h := ez_ifn h c_9
      refine lv_aload_n hx hb dX12_numberOf_12 rfl (lv_at hl 0 rfl) ?_
      refine ez_cVpi (As := []) (rest := []) h (fun _ q => c_X12_deep q) hC k_X12_deep ql_RX12_429 rfl (by decide) hS (fun _ q => ez_rcv q) rfl hl.1 rfl (Nat.le_of_ble_eq_true rfl) ⟨Nat.zero_le _, Nat.zero_le _⟩ dX12_numberOf_13 (fun t_13 H locs hS h => ?_)
      refine lv_iload_n hx hb dX12_numberOf_16 rfl (lv_at hl 2 rfl) ?_
      refine lv_imul hx hb dX12_numberOf_17 ?_
      refine ez_top h (fun t_17 h => ?_)
      refine lv_aload_n hx hb dX12_numberOf_18 rfl (lv_at hl 0 rfl) ?_
      refine lv_iload_n hx hb dX12_numberOf_19 rfl (lv_at hl 1 rfl) ?_
      refine lv_iload_n hx hb dX12_numberOf_20 rfl (lv_at hl 3 rfl) ?_
      refine ez_cVpi (As := [.int x1, .int x3]) (rest := [.int t_17]) h (fun _ q => c_X12_cutOf q) hC k_X12_cutOf ql_RX12_444 rfl (by decide) hS (fun _ q => ez_rcv q) rfl hl.1 rfl (Nat.le_of_ble_eq_true rfl) ⟨Nat.zero_le _, Nat.zero_le _⟩ dX12_numberOf_21 (fun t_21 H locs hS h => ?_)
      refine lv_iadd hx hb dX12_numberOf_24 ?_
      refine ez_top h (fun t_24 h => ?_)
      refine lv_istore_n (lv' := [(2, .int t_24), (0, .ref (B + h0)), (1, .int x1), (3, .int x3)]) hx hb dX12_numberOf_25 rfl hl (by decide) rfl (fun ls hl => ?_)
      obtain ⟨t_26, e_26, h⟩ := ez_let_sp h
      refine lv_iinc (v := t_26) (lv' := [(3, .int t_26), (2, .int t_24), (0, .ref (B + h0)), (1, .int x1)]) hx hb dX12_numberOf_26 hl (k := 3) rfl (by rw [e_26]; rfl) (by decide) rfl (fun ls hl => ?_)
      refine lv_goto (tgt := 4) hx hb dX12_numberOf_29 (by decide) ?_
      exact hk_4 h0 x1 t_24 t_26 _ _ _ hS h (lv_sub hl [2, 3, 1, 0] rfl)
  have E_4 : ∀ (h0 : Nat) (x1 : Int32) (x2 : Int32) (x3 : Int32) (H : Heap) (locs : List Loc) (ls : Array Slot), ez_S X B s.heap (n0) σ H locs → (ez_fix (fun _ _ _ _ => none) (z_X12_numberOf_4 σ) ez_N) h0 x1 x2 x3 = some z → lv_has ls 4 [(0, .ref (B + h0)), (1, .int x1), (2, .int x2), (3, .int x3)] → W p l e R s m args below meth c H locs 0 0 Q (F0 m 4 ls []) := ez_fix_ind (fun k_4 : Nat → Int32 → Int32 → Int32 → Option (Int32) => ∀ (h0 : Nat) (x1 : Int32) (x2 : Int32) (x3 : Int32) (H : Heap) (locs : List Loc) (ls : Array Slot), ez_S X B s.heap (n0) σ H locs → k_4 h0 x1 x2 x3 = some z → lv_has ls 4 [(0, .ref (B + h0)), (1, .int x1), (2, .int x2), (3, .int x3)] → W p l e R s m args below meth c H locs 0 0 Q (F0 m 4 ls [])) (fun _ _ _ _ _ _ _ _ h _ => by cases h) (fun k_4 hk_4 => K_4 k_4 hk_4) ez_N
  refine lv_iconst (v := 0) hx hb dX12_numberOf_0 (by decide) ?_
  refine lv_istore_n (lv' := [(2, .int 0), (0, .ref (B + h0)), (1, .int x1)]) hx hb dX12_numberOf_1 rfl hl (by decide) rfl (fun ls hl => ?_)
  refine lv_iconst (v := 0) hx hb dX12_numberOf_2 (by decide) ?_
  refine lv_istore_n (lv' := [(3, .int 0), (2, .int 0), (0, .ref (B + h0)), (1, .int x1)]) hx hb dX12_numberOf_3 rfl hl (by decide) rfl (fun ls hl => ?_)
  exact E_4  h0 x1 (0 : Int32) (0 : Int32) _ _ _ hS h (lv_sub hl [2, 3, 1, 0] rfl)
set_option maxHeartbeats 4000000 in
set_option maxRecDepth 100000 in
theorem c_X12_partsOf {l : Launch} {X : ez_X} {B : Nat} {σ : ez_H} {h0 : Nat} {x1 : Int32} {x2 : Int32} {z : Int32} (h : z_X12_partsOf σ h0 x1 x2 = some z) : ez_M l X B σ yX12_partsOf cX12_partsOf 3 (some .int) 0 [.ref (B + h0), .int x1, .int x2] (some (.int z)) σ := by
  refine ez_startip (z := z) (by decide) (Nat.le_of_ble_eq_true rfl) (fun p e R s m args below meth c Q hC hret hS ls hl => ?_)
  have hC : ez_C p R s m args c X B RX12 cX12_partsOf 3 0 := hC
  have hx := hC.1.1
  have hb := hC.1.2.1
  have hown := hC.1.2.2.2.1
  have hts := hC.1.2.2.2.2
  have hl : lv_has ls 3 [(0, .ref (B + h0)), (1, .int x1), (2, .int x2)] := hl
  obtain ⟨n0, e0⟩ : ∃ n0 : Nat, n0 = σ.length := ⟨_, rfl⟩
  rw [← e0] at hret hS
  obtain ⟨-, h⟩ := ez_in h
  refine lv_aload_n hx hb dX12_partsOf_0 rfl (lv_at hl 0 rfl) ?_
  refine eg_RX12_118 hC hS h dX12_partsOf_1 (fun t_1 h => ?_)
  refine lv_bipush (v := 56) hx hb dX12_partsOf_4 (by decide) ?_
  refine lv_iconst (v := 5) hx hb dX12_partsOf_6 (by decide) ?_
  refine lv_iload_n hx hb dX12_partsOf_7 rfl (lv_at hl 1 rfl) ?_
  refine lv_imul hx hb dX12_partsOf_8 ?_
  refine ez_top h (fun t_8 h => ?_)
  refine lv_iadd hx hb dX12_partsOf_9 ?_
  refine ez_top h (fun t_9 h => ?_)
  refine lv_iload_n hx hb dX12_partsOf_10 rfl (lv_at hl 2 rfl) ?_
  refine lv_iadd hx hb dX12_partsOf_11 ?_
  refine ez_top h (fun t_11 h => ?_)
  refine ez_ial hC hS h dX12_partsOf_12 (fun t_12 h => ?_)
  exact hret _ _ _ _ _ (Option.some.inj h) rfl hS dX12_partsOf_13
set_option maxHeartbeats 4000000 in
set_option maxRecDepth 100000 in
theorem c_X12_doesOpen {l : Launch} {X : ez_X} {B : Nat} {σ : ez_H} {h0 : Nat} {x1 : Int32} {x2 : Int32} {z : Int32} (h : z_X12_doesOpen σ h0 x1 x2 = some z) : ez_M l X B σ yX12_doesOpen cX12_doesOpen 5 (some .boolean) 1 [.ref (B + h0), .int x1, .int x2] (some (.int z)) σ := by
  refine ez_startip (z := z) (by decide) (Nat.le_of_ble_eq_true rfl) (fun p e R s m args below meth c Q hC hret hS ls hl => ?_)
  have hC : ez_C p R s m args c X B RX12 cX12_doesOpen 5 1 := hC
  have hx := hC.1.1
  have hb := hC.1.2.1
  have hown := hC.1.2.2.2.1
  have hts := hC.1.2.2.2.2
  have hl : lv_has ls 5 [(0, .ref (B + h0)), (1, .int x1), (2, .int x2)] := hl
  obtain ⟨n0, e0⟩ : ∃ n0 : Nat, n0 = σ.length := ⟨_, rfl⟩
  rw [← e0] at hret hS
  obtain ⟨-, h⟩ := ez_in h
  have K_10 : ∀ (k_10 : Nat → Int32 → Int32 → Int32 → Option (Int32)) (hk_10 : ∀ (h0 : Nat) (x2 : Int32) (x3 : Int32) (x4 : Int32) (H : Heap) (locs : List Loc) (ls : Array Slot), ez_S X B s.heap (n0) σ H locs → k_10 h0 x2 x3 x4 = some z → lv_has ls 5 [(0, .ref (B + h0)), (2, .int x2), (3, .int x3), (4, .int x4)] → W p l e R s m args below meth c H locs 0 0 Q (F0 m 10 ls [])), ∀ (h0 : Nat) (x2 : Int32) (x3 : Int32) (x4 : Int32) (H : Heap) (locs : List Loc) (ls : Array Slot), ez_S X B s.heap (n0) σ H locs → z_X12_doesOpen_10 σ k_10 h0 x2 x3 x4 = some z → lv_has ls 5 [(0, .ref (B + h0)), (2, .int x2), (3, .int x3), (4, .int x4)] → W p l e R s m args below meth c H locs 0 0 Q (F0 m 10 ls []) := by
    intro k_10 hk_10 h0 x2 x3 x4 H locs ls hS h hl
    refine lv_iload hx hb dX12_doesOpen_10 (lv_at hl 3 rfl) ?_
    refine lv_if_lt (tgt := 49) hx hb dX12_doesOpen_12 (by decide) (fun c_12 => ?_) (fun c_12 => ?_)
    · replace h := ez_ifp h c_12
      refine lv_iconst (v := 1) hx hb dX12_doesOpen_49 (by decide) ?_
      have hn : narrow .boolean (.int 1) = .int 1 := by decide
      exact hret _ _ _ _ _ (Option.some.inj h) hn hS dX12_doesOpen_50
    · replace h := ez_ifn h c_12
      refine lv_aload_n hx hb dX12_doesOpen_15 rfl (lv_at hl 0 rfl) ?_
      refine lv_iload_n hx hb dX12_doesOpen_16 rfl (lv_at hl 1 rfl) ?_
      refine lv_iload hx hb dX12_doesOpen_17 (lv_at hl 3 rfl) ?_
      refine ez_cVpi (As := [.int x2, .int x4]) (rest := []) h (fun _ q => c_X12_partsOf q) hC k_X12_partsOf ql_RX12_447 rfl (by decide) hS (fun _ q => ez_rcv q) rfl hl.1 rfl (Nat.le_of_ble_eq_true rfl) ⟨Nat.zero_le _, Nat.zero_le _⟩ dX12_doesOpen_19 (fun t_19 H locs hS h => ?_)
      refine lv_iload_n hx hb dX12_doesOpen_22 rfl (lv_at hl 2 rfl) ?_
      refine lv_aload_n hx hb dX12_doesOpen_23 rfl (lv_at hl 0 rfl) ?_
      refine ez_cVpi (As := []) (rest := [.int x3, .int t_19]) h (fun _ q => c_X12_deep q) hC k_X12_deep ql_RX12_429 rfl (by decide) hS (fun _ q => ez_rcv q) rfl hl.1 rfl (Nat.le_of_ble_eq_true rfl) ⟨Nat.zero_le _, Nat.zero_le _⟩ dX12_doesOpen_24 (fun t_24 H locs hS h => ?_)
      obtain ⟨nz_27, h⟩ := ez_nz_sp h
      refine lv_irem hx hb dX12_doesOpen_27 nz_27 ?_
      refine ez_top h (fun t_27 h => ?_)
      refine ez_cSpi (As := [.int t_19, .int t_27]) (rest := []) h (fun _ q => c_X12_bit q) hC k_X12_bit ql_RX12_261 rfl (by decide) hS hl.1 rfl (Nat.le_of_ble_eq_true rfl) ⟨Nat.zero_le _, Nat.zero_le _⟩ dX12_doesOpen_28 (fun t_28 H locs hS h => ?_)
      refine lv_if_ne (tgt := 36) hx hb dX12_doesOpen_31 (by decide) (fun c_31 => ?_) (fun c_31 => ?_)
      · replace h := ez_ifn h c_31
        refine lv_iload_n hx hb dX12_doesOpen_36 rfl (lv_at hl 2 rfl) ?_
        refine lv_aload_n hx hb dX12_doesOpen_37 rfl (lv_at hl 0 rfl) ?_
        refine ez_cVpi (As := []) (rest := [.int x3]) h (fun _ q => c_X12_deep q) hC k_X12_deep ql_RX12_429 rfl (by decide) hS (fun _ q => ez_rcv q) rfl hl.1 rfl (Nat.le_of_ble_eq_true rfl) ⟨Nat.zero_le _, Nat.zero_le _⟩ dX12_doesOpen_38 (fun t_38 H locs hS h => ?_)
        obtain ⟨nz_41, h⟩ := ez_nz_sp h
        refine lv_idiv hx hb dX12_doesOpen_41 nz_41 ?_
        refine ez_top h (fun t_41 h => ?_)
        refine lv_istore_n (lv' := [(3, .int t_41), (0, .ref (B + h0)), (2, .int x2), (4, .int x4)]) hx hb dX12_doesOpen_42 rfl hl (by decide) rfl (fun ls hl => ?_)
        obtain ⟨t_43, e_43, h⟩ := ez_let_sp h
        refine lv_iinc (v := t_43) (lv' := [(4, .int t_43), (3, .int t_41), (0, .ref (B + h0)), (2, .int x2)]) hx hb dX12_doesOpen_43 hl (k := 3) rfl (by rw [e_43]; rfl) (by decide) rfl (fun ls hl => ?_)
        refine lv_goto (tgt := 10) hx hb dX12_doesOpen_46 (by decide) ?_
        exact hk_10 h0 x2 t_41 t_43 _ _ _ hS h (lv_sub hl [2, 3, 1, 0] rfl)
      · replace h := ez_ifp h c_31
        refine lv_iconst (v := 0) hx hb dX12_doesOpen_34 (by decide) ?_
        have hn : narrow .boolean (.int 0) = .int 0 := by decide
        exact hret _ _ _ _ _ (Option.some.inj h) hn hS dX12_doesOpen_35
  have E_10 : ∀ (h0 : Nat) (x2 : Int32) (x3 : Int32) (x4 : Int32) (H : Heap) (locs : List Loc) (ls : Array Slot), ez_S X B s.heap (n0) σ H locs → (ez_fix (fun _ _ _ _ => none) (z_X12_doesOpen_10 σ) ez_N) h0 x2 x3 x4 = some z → lv_has ls 5 [(0, .ref (B + h0)), (2, .int x2), (3, .int x3), (4, .int x4)] → W p l e R s m args below meth c H locs 0 0 Q (F0 m 10 ls []) := ez_fix_ind (fun k_10 : Nat → Int32 → Int32 → Int32 → Option (Int32) => ∀ (h0 : Nat) (x2 : Int32) (x3 : Int32) (x4 : Int32) (H : Heap) (locs : List Loc) (ls : Array Slot), ez_S X B s.heap (n0) σ H locs → k_10 h0 x2 x3 x4 = some z → lv_has ls 5 [(0, .ref (B + h0)), (2, .int x2), (3, .int x3), (4, .int x4)] → W p l e R s m args below meth c H locs 0 0 Q (F0 m 10 ls [])) (fun _ _ _ _ _ _ _ _ h _ => by cases h) (fun k_10 hk_10 => K_10 k_10 hk_10) ez_N
  refine lv_iload_n hx hb dX12_doesOpen_0 rfl (lv_at hl 1 rfl) ?_
  refine lv_istore_n (lv' := [(3, .int x1), (0, .ref (B + h0)), (1, .int x1), (2, .int x2)]) hx hb dX12_doesOpen_1 rfl hl (by decide) rfl (fun ls hl => ?_)
  refine lv_aload_n hx hb dX12_doesOpen_2 rfl (lv_at hl 1 rfl) ?_
  refine ez_cVpi (As := []) (rest := []) h (fun _ q => c_X12_wide q) hC k_X12_wide ql_RX12_414 rfl (by decide) hS (fun _ q => ez_rcv q) rfl hl.1 rfl (Nat.le_of_ble_eq_true rfl) ⟨Nat.zero_le _, Nat.zero_le _⟩ dX12_doesOpen_3 (fun t_3 H locs hS h => ?_)
  refine lv_iconst (v := 1) hx hb dX12_doesOpen_6 (by decide) ?_
  refine lv_isub hx hb dX12_doesOpen_7 ?_
  refine ez_top h (fun t_7 h => ?_)
  refine lv_istore (lv' := [(4, .int t_7), (3, .int x1), (0, .ref (B + h0)), (1, .int x1), (2, .int x2)]) hx hb dX12_doesOpen_8 hl (by decide) rfl (fun ls hl => ?_)
  exact E_10  h0 x2 x1 t_7 _ _ _ hS h (lv_sub hl [2, 4, 1, 0] rfl)
set_option maxHeartbeats 4000000 in
set_option maxRecDepth 100000 in
theorem c_X12_opensBy {l : Launch} {X : ez_X} {B : Nat} {σ : ez_H} {h0 : Nat} {x1 : Int32} {x2 : Int32} {z : Int32} (h : z_X12_opensBy σ h0 x1 x2 = some z) : ez_M l X B σ yX12_opensBy cX12_opensBy 3 (some .boolean) 2 [.ref (B + h0), .int x1, .int x2] (some (.int z)) σ := by
  refine ez_startip (z := z) (by decide) (Nat.le_of_ble_eq_true rfl) (fun p e R s m args below meth c Q hC hret hS ls hl => ?_)
  have hC : ez_C p R s m args c X B RX12 cX12_opensBy 3 2 := hC
  have hx := hC.1.1
  have hb := hC.1.2.1
  have hown := hC.1.2.2.2.1
  have hts := hC.1.2.2.2.2
  have hl : lv_has ls 3 [(0, .ref (B + h0)), (1, .int x1), (2, .int x2)] := hl
  obtain ⟨n0, e0⟩ : ∃ n0 : Nat, n0 = σ.length := ⟨_, rfl⟩
  rw [← e0] at hret hS
  obtain ⟨-, h⟩ := ez_in h
  refine lv_aload_n hx hb dX12_opensBy_0 rfl (lv_at hl 0 rfl) ?_
  refine lv_aload_n hx hb dX12_opensBy_1 rfl (lv_at hl 0 rfl) ?_
  refine lv_iload_n hx hb dX12_opensBy_2 rfl (lv_at hl 1 rfl) ?_
  refine ez_cVpi (As := [.int x1]) (rest := [.ref (B + h0)]) h (fun _ q => c_X12_numberOf q) hC k_X12_numberOf ql_RX12_450 rfl (by decide) hS (fun _ q => ez_rcv q) rfl hl.1 rfl (Nat.le_of_ble_eq_true rfl) ⟨Nat.zero_le _, Nat.zero_le _⟩ dX12_opensBy_3 (fun t_3 H locs hS h => ?_)
  refine lv_iload_n hx hb dX12_opensBy_6 rfl (lv_at hl 2 rfl) ?_
  refine ez_cVpi (As := [.int t_3, .int x2]) (rest := []) h (fun _ q => c_X12_doesOpen q) hC k_X12_doesOpen ql_RX12_453 rfl (by decide) hS (fun _ q => ez_rcv q) rfl hl.1 rfl (Nat.le_of_ble_eq_true rfl) ⟨Nat.zero_le _, Nat.zero_le _⟩ dX12_opensBy_7 (fun t_7 H locs hS h => ?_)
  obtain ⟨hn, h⟩ := ez_nr_sp rfl h
  exact hret _ _ _ _ _ (Option.some.inj h) hn hS dX12_opensBy_10
set_option maxHeartbeats 4000000 in
set_option maxRecDepth 100000 in
theorem c_X12_openedWith {l : Launch} {X : ez_X} {B : Nat} {σ : ez_H} {h0 : Nat} {x1 : Int32} {x2 : Int32} {z : Int32} (h : z_X12_openedWith σ h0 x1 x2 = some z) : ez_M l X B σ yX12_openedWith cX12_openedWith 4 (some .boolean) 3 [.ref (B + h0), .int x1, .int x2] (some (.int z)) σ := by
  refine ez_startip (z := z) (by decide) (Nat.le_of_ble_eq_true rfl) (fun p e R s m args below meth c Q hC hret hS ls hl => ?_)
  have hC : ez_C p R s m args c X B RX12 cX12_openedWith 4 3 := hC
  have hx := hC.1.1
  have hb := hC.1.2.1
  have hown := hC.1.2.2.2.1
  have hts := hC.1.2.2.2.2
  have hl : lv_has ls 4 [(0, .ref (B + h0)), (1, .int x1), (2, .int x2)] := hl
  obtain ⟨n0, e0⟩ : ∃ n0 : Nat, n0 = σ.length := ⟨_, rfl⟩
  rw [← e0] at hret hS
  obtain ⟨-, h⟩ := ez_in h
  have K_29 : ∀ (k_2 : Nat → Int32 → Int32 → Int32 → Option (Int32)) (hk_2 : ∀ (h0 : Nat) (x1 : Int32) (x2 : Int32) (x3 : Int32) (H : Heap) (locs : List Loc) (ls : Array Slot), ez_S X B s.heap (n0) σ H locs → k_2 h0 x1 x2 x3 = some z → lv_has ls 4 [(0, .ref (B + h0)), (1, .int x1), (2, .int x2), (3, .int x3)] → W p l e R s m args below meth c H locs 0 0 Q (F0 m 2 ls [])), ∀ (h0 : Nat) (x1 : Int32) (x2 : Int32) (x3 : Int32) (H : Heap) (locs : List Loc) (ls : Array Slot), ez_S X B s.heap (n0) σ H locs → z_X12_openedWith_29 σ k_2 h0 x1 x2 x3 = some z → lv_has ls 4 [(0, .ref (B + h0)), (1, .int x1), (2, .int x2), (3, .int x3)] → W p l e R s m args below meth c H locs 0 0 Q (F0 m 29 ls []) := by
    intro k_2 hk_2 h0 x1 x2 x3 H locs ls hS h hl
    obtain ⟨t_29, e_29, h⟩ := ez_let_sp h
    refine lv_iinc (v := t_29) (lv' := [(3, .int t_29), (0, .ref (B + h0)), (1, .int x1), (2, .int x2)]) hx hb dX12_openedWith_29 hl (k := 3) rfl (by rw [e_29]; rfl) (by decide) rfl (fun ls hl => ?_)
    refine lv_goto (tgt := 2) hx hb dX12_openedWith_32 (by decide) ?_
    exact hk_2 h0 x1 x2 t_29 _ _ _ hS h (lv_sub hl [1, 2, 3, 0] rfl)
  have K_2 : ∀ (k_2 : Nat → Int32 → Int32 → Int32 → Option (Int32)) (hk_2 : ∀ (h0 : Nat) (x1 : Int32) (x2 : Int32) (x3 : Int32) (H : Heap) (locs : List Loc) (ls : Array Slot), ez_S X B s.heap (n0) σ H locs → k_2 h0 x1 x2 x3 = some z → lv_has ls 4 [(0, .ref (B + h0)), (1, .int x1), (2, .int x2), (3, .int x3)] → W p l e R s m args below meth c H locs 0 0 Q (F0 m 2 ls [])), ∀ (h0 : Nat) (x1 : Int32) (x2 : Int32) (x3 : Int32) (H : Heap) (locs : List Loc) (ls : Array Slot), ez_S X B s.heap (n0) σ H locs → z_X12_openedWith_2 σ k_2 h0 x1 x2 x3 = some z → lv_has ls 4 [(0, .ref (B + h0)), (1, .int x1), (2, .int x2), (3, .int x3)] → W p l e R s m args below meth c H locs 0 0 Q (F0 m 2 ls []) := by
    intro k_2 hk_2 h0 x1 x2 x3 H locs ls hS h hl
    refine lv_iload_n hx hb dX12_openedWith_2 rfl (lv_at hl 3 rfl) ?_
    refine lv_aload_n hx hb dX12_openedWith_3 rfl (lv_at hl 0 rfl) ?_
    refine ez_cVpi (As := []) (rest := [.int x3]) h (fun _ q => c_X12_many q) hC k_X12_many ql_RX12_404 rfl (by decide) hS (fun _ q => ez_rcv q) rfl hl.1 rfl (Nat.le_of_ble_eq_true rfl) ⟨Nat.zero_le _, Nat.zero_le _⟩ dX12_openedWith_4 (fun t_4 H locs hS h => ?_)
    refine lv_icmp_ge (tgt := 35) hx hb dX12_openedWith_7 (by decide) (fun c_7 => ?_) (fun c_7 => ?_)
    · replace h := ez_ifp h c_7
      refine lv_iconst (v := 0) hx hb dX12_openedWith_35 (by decide) ?_
      have hn : narrow .boolean (.int 0) = .int 0 := by decide
      exact hret _ _ _ _ _ (Option.some.inj h) hn hS dX12_openedWith_36
    · replace h := ez_ifn h c_7
      refine lv_iload_n hx hb dX12_openedWith_10 rfl (lv_at hl 2 rfl) ?_
      refine lv_iload_n hx hb dX12_openedWith_11 rfl (lv_at hl 3 rfl) ?_
      refine ez_cSpi (As := [.int x2, .int x3]) (rest := []) h (fun _ q => c_X12_bit q) hC k_X12_bit ql_RX12_261 rfl (by decide) hS hl.1 rfl (Nat.le_of_ble_eq_true rfl) ⟨Nat.zero_le _, Nat.zero_le _⟩ dX12_openedWith_12 (fun t_12 H locs hS h => ?_)
      refine lv_if_eq (tgt := 29) hx hb dX12_openedWith_15 (by decide) (fun c_15 => ?_) (fun c_15 => ?_)
      · replace h := ez_ifp h c_15
        exact K_29 k_2 hk_2 h0 x1 x2 x3 _ _ _ hS h (lv_sub hl [0, 1, 2, 3] rfl)
      · replace h := ez_ifn h c_15
        refine lv_aload_n hx hb dX12_openedWith_18 rfl (lv_at hl 0 rfl) ?_
        refine lv_iload_n hx hb dX12_openedWith_19 rfl (lv_at hl 3 rfl) ?_
        refine lv_iload_n hx hb dX12_openedWith_20 rfl (lv_at hl 1 rfl) ?_
        refine ez_cVpi (As := [.int x3, .int x1]) (rest := []) h (fun _ q => c_X12_opensBy q) hC k_X12_opensBy ql_RX12_474 rfl (by decide) hS (fun _ q => ez_rcv q) rfl hl.1 rfl (Nat.le_of_ble_eq_true rfl) ⟨Nat.zero_le _, Nat.zero_le _⟩ dX12_openedWith_21 (fun t_21 H locs hS h => ?_)
        refine lv_if_eq (tgt := 29) hx hb dX12_openedWith_24 (by decide) (fun c_24 => ?_) (fun c_24 => ?_)
        · replace h := ez_ifp h c_24
          exact K_29 k_2 hk_2 h0 x1 x2 x3 _ _ _ hS h (lv_sub hl [0, 1, 2, 3] rfl)
        · replace h := ez_ifn h c_24
          refine lv_iconst (v := 1) hx hb dX12_openedWith_27 (by decide) ?_
          have hn : narrow .boolean (.int 1) = .int 1 := by decide
          exact hret _ _ _ _ _ (Option.some.inj h) hn hS dX12_openedWith_28
  have E_2 : ∀ (h0 : Nat) (x1 : Int32) (x2 : Int32) (x3 : Int32) (H : Heap) (locs : List Loc) (ls : Array Slot), ez_S X B s.heap (n0) σ H locs → (ez_fix (fun _ _ _ _ => none) (z_X12_openedWith_2 σ) ez_N) h0 x1 x2 x3 = some z → lv_has ls 4 [(0, .ref (B + h0)), (1, .int x1), (2, .int x2), (3, .int x3)] → W p l e R s m args below meth c H locs 0 0 Q (F0 m 2 ls []) := ez_fix_ind (fun k_2 : Nat → Int32 → Int32 → Int32 → Option (Int32) => ∀ (h0 : Nat) (x1 : Int32) (x2 : Int32) (x3 : Int32) (H : Heap) (locs : List Loc) (ls : Array Slot), ez_S X B s.heap (n0) σ H locs → k_2 h0 x1 x2 x3 = some z → lv_has ls 4 [(0, .ref (B + h0)), (1, .int x1), (2, .int x2), (3, .int x3)] → W p l e R s m args below meth c H locs 0 0 Q (F0 m 2 ls [])) (fun _ _ _ _ _ _ _ _ h _ => by cases h) (fun k_2 hk_2 => K_2 k_2 hk_2) ez_N
  refine lv_iconst (v := 0) hx hb dX12_openedWith_0 (by decide) ?_
  refine lv_istore_n (lv' := [(3, .int 0), (0, .ref (B + h0)), (1, .int x1), (2, .int x2)]) hx hb dX12_openedWith_1 rfl hl (by decide) rfl (fun ls hl => ?_)
  exact E_2  h0 x1 x2 (0 : Int32) _ _ _ hS h (lv_sub hl [1, 2, 3, 0] rfl)
