set_option maxHeartbeats 4000000 in
set_option maxRecDepth 100000 in
theorem c_X6_everythingBut {l : Launch} {X : ez_X} {B : Nat} {σ : ez_H} {h0 : Nat} {x1 : Int32} {z : Int32} (h : z_X6_everythingBut σ h0 x1 = some z) : ez_M l X B σ yX6_everythingBut cX6_everythingBut 4 (some .int) 1 [.ref (B + h0), .int x1] (some (.int z)) σ := by
  refine ez_startip (z := z) (by decide) (Nat.le_of_ble_eq_true rfl) (fun p e R s m args below meth c Q hC hret hS ls hl => ?_)
  have hC : ez_C p R s m args c X B RX6 cX6_everythingBut 4 1 := hC
  have hx := hC.1.1
  have hb := hC.1.2.1
  have hown := hC.1.2.2.2.1
  have hts := hC.1.2.2.2.2
  have hl : lv_has ls 4 [(0, .ref (B + h0)), (1, .int x1)] := hl
  obtain ⟨n0, e0⟩ : ∃ n0 : Nat, n0 = σ.length := ⟨_, rfl⟩
  rw [← e0] at hret hS
  obtain ⟨-, h⟩ := ez_in h
  have K_36 : ∀ (k_4 : Nat → Int32 → Int32 → Int32 → Option (Int32)) (hk_4 : ∀ (h0 : Nat) (x1 : Int32) (x2 : Int32) (x3 : Int32) (H : Heap) (locs : List Loc) (ls : Array Slot), ez_S X B s.heap (n0) σ H locs → k_4 h0 x1 x2 x3 = some z → lv_has ls 4 [(0, .ref (B + h0)), (1, .int x1), (2, .int x2), (3, .int x3)] → W p l e R s m args below meth c H locs 0 0 Q (F0 m 4 ls [])), ∀ (h0 : Nat) (x1 : Int32) (x2 : Int32) (x3 : Int32) (H : Heap) (locs : List Loc) (ls : Array Slot), ez_S X B s.heap (n0) σ H locs → z_X6_everythingBut_36 σ k_4 h0 x1 x2 x3 = some z → lv_has ls 4 [(0, .ref (B + h0)), (1, .int x1), (2, .int x2), (3, .int x3)] → W p l e R s m args below meth c H locs 0 0 Q (F0 m 36 ls []) := by
    intro k_4 hk_4 h0 x1 x2 x3 H locs ls hS h hl
    obtain ⟨t_36, e_36, h⟩ := ez_let_sp h
    refine lv_iinc (v := t_36) (lv' := [(3, .int t_36), (0, .ref (B + h0)), (1, .int x1), (2, .int x2)]) hx hb dX6_everythingBut_36 hl (k := 3) rfl (by rw [e_36]; rfl) (by decide) rfl (fun ls hl => ?_)
    refine lv_goto (tgt := 4) hx hb dX6_everythingBut_39 (by decide) ?_
    exact hk_4 h0 x1 x2 t_36 _ _ _ hS h (lv_sub hl [1, 2, 3, 0] rfl)
  have K_4 : ∀ (k_4 : Nat → Int32 → Int32 → Int32 → Option (Int32)) (hk_4 : ∀ (h0 : Nat) (x1 : Int32) (x2 : Int32) (x3 : Int32) (H : Heap) (locs : List Loc) (ls : Array Slot), ez_S X B s.heap (n0) σ H locs → k_4 h0 x1 x2 x3 = some z → lv_has ls 4 [(0, .ref (B + h0)), (1, .int x1), (2, .int x2), (3, .int x3)] → W p l e R s m args below meth c H locs 0 0 Q (F0 m 4 ls [])), ∀ (h0 : Nat) (x1 : Int32) (x2 : Int32) (x3 : Int32) (H : Heap) (locs : List Loc) (ls : Array Slot), ez_S X B s.heap (n0) σ H locs → z_X6_everythingBut_4 σ k_4 h0 x1 x2 x3 = some z → lv_has ls 4 [(0, .ref (B + h0)), (1, .int x1), (2, .int x2), (3, .int x3)] → W p l e R s m args below meth c H locs 0 0 Q (F0 m 4 ls []) := by
    intro k_4 hk_4 h0 x1 x2 x3 H locs ls hS h hl
    refine lv_iload_n hx hb dX6_everythingBut_4 rfl (lv_at hl 3 rfl) ?_
    refine lv_aload_n hx hb dX6_everythingBut_5 rfl (lv_at hl 0 rfl) ?_
    refine eg_RX6_18 hC hS h dX6_everythingBut_6 (fun t_6 h => ?_)
    refine lv_icmp_ge (tgt := 42) hx hb dX6_everythingBut_9 (by decide) (fun c_9 => ?_) (fun c_9 => ?_)
    · replace h := ez_ifp h c_9
      refine lv_iload_n hx hb dX6_everythingBut_42 rfl (lv_at hl 2 rfl) ?_
      exact hret _ _ _ _ _ (Option.some.inj h) rfl hS dX6_everythingBut_43
    · replace h := ez_ifn h c_9
      refine lv_iload_n hx hb dX6_everythingBut_12 rfl (lv_at hl 1 rfl) ?_
      refine lv_iload_n hx hb dX6_everythingBut_13 rfl (lv_at hl 3 rfl) ?_
      refine ez_cSpi (As := [.int x1, .int x3]) (rest := []) h (fun _ q => c_X6_depthsAt q) hC k_X6_depthsAt ql_RX6_28 rfl (by decide) hS hl.1 rfl (Nat.le_of_ble_eq_true rfl) ⟨Nat.zero_le _, Nat.zero_le _⟩ dX6_everythingBut_14 (fun t_14 H locs hS h => ?_)
      refine lv_if_ne (tgt := 36) hx hb dX6_everythingBut_17 (by decide) (fun c_17 => ?_) (fun c_17 => ?_)
      · replace h := ez_ifn h c_17
        exact K_36 k_4 hk_4 h0 x1 x2 x3 _ _ _ hS h (lv_sub hl [0, 1, 2, 3] rfl)
      · replace h := ez_ifp h c_17
        refine lv_iload_n hx hb dX6_everythingBut_20 rfl (lv_at hl 2 rfl) ?_
        refine lv_iconst (v := 1) hx hb dX6_everythingBut_21 (by decide) ?_
        refine lv_aload_n hx hb dX6_everythingBut_22 rfl (lv_at hl 0 rfl) ?_
        refine eg_RX6_22 hC hS h dX6_everythingBut_23 (fun t_23 h => ?_)
        refine lv_ishl hx hb dX6_everythingBut_26 ?_
        refine ez_top h (fun t_26 h => ?_)
        refine lv_iconst (v := 1) hx hb dX6_everythingBut_27 (by decide) ?_
        refine lv_isub hx hb dX6_everythingBut_28 ?_
        refine ez_top h (fun t_28 h => ?_)
        refine lv_iload_n hx hb dX6_everythingBut_29 rfl (lv_at hl 3 rfl) ?_
        refine lv_bipush (v := 6) hx hb dX6_everythingBut_30 (by decide) ?_
        refine lv_imul hx hb dX6_everythingBut_32 ?_
        refine ez_top h (fun t_32 h => ?_)
        refine lv_ishl hx hb dX6_everythingBut_33 ?_
        refine ez_top h (fun t_33 h => ?_)
        refine lv_ior hx hb dX6_everythingBut_34 ?_
        refine ez_top h (fun t_34 h => ?_)
        refine lv_istore_n (lv' := [(2, .int t_34), (0, .ref (B + h0)), (1, .int x1), (3, .int x3)]) hx hb dX6_everythingBut_35 rfl hl (by decide) rfl (fun ls hl => ?_)
        exact K_36 k_4 hk_4 h0 x1 t_34 x3 _ _ _ hS h (lv_sub hl [1, 2, 0, 3] rfl)
  have E_4 : ∀ (h0 : Nat) (x1 : Int32) (x2 : Int32) (x3 : Int32) (H : Heap) (locs : List Loc) (ls : Array Slot), ez_S X B s.heap (n0) σ H locs → (ez_fix (fun _ _ _ _ => none) (z_X6_everythingBut_4 σ) ez_N) h0 x1 x2 x3 = some z → lv_has ls 4 [(0, .ref (B + h0)), (1, .int x1), (2, .int x2), (3, .int x3)] → W p l e R s m args below meth c H locs 0 0 Q (F0 m 4 ls []) := ez_fix_ind (fun k_4 : Nat → Int32 → Int32 → Int32 → Option (Int32) => ∀ (h0 : Nat) (x1 : Int32) (x2 : Int32) (x3 : Int32) (H : Heap) (locs : List Loc) (ls : Array Slot), ez_S X B s.heap (n0) σ H locs → k_4 h0 x1 x2 x3 = some z → lv_has ls 4 [(0, .ref (B + h0)), (1, .int x1), (2, .int x2), (3, .int x3)] → W p l e R s m args below meth c H locs 0 0 Q (F0 m 4 ls [])) (fun _ _ _ _ _ _ _ _ h _ => by cases h) (fun k_4 hk_4 => K_4 k_4 hk_4) ez_N
  refine lv_iconst (v := 0) hx hb dX6_everythingBut_0 (by decide) ?_
  refine lv_istore_n (lv' := [(2, .int 0), (0, .ref (B + h0)), (1, .int x1)]) hx hb dX6_everythingBut_1 rfl hl (by decide) rfl (fun ls hl => ?_)
  refine lv_iconst (v := 0) hx hb dX6_everythingBut_2 (by decide) ?_
  refine lv_istore_n (lv' := [(3, .int 0), (2, .int 0), (0, .ref (B + h0)), (1, .int x1)]) hx hb dX6_everythingBut_3 rfl hl (by decide) rfl (fun ls hl => ?_)
  exact E_4  h0 x1 (0 : Int32) (0 : Int32) _ _ _ hS h (lv_sub hl [2, 3, 1, 0] rfl)
set_option maxHeartbeats 4000000 in
set_option maxRecDepth 100000 in
theorem c_X6_everything {l : Launch} {X : ez_X} {B : Nat} {σ : ez_H} {h0 : Nat} {z : Int32} (h : z_X6_everything σ h0 = some z) : ez_M l X B σ yX6_everything cX6_everything 1 (some .int) 2 [.ref (B + h0)] (some (.int z)) σ := by
  refine ez_startip (z := z) (by decide) (Nat.le_of_ble_eq_true rfl) (fun p e R s m args below meth c Q hC hret hS ls hl => ?_)
  have hC : ez_C p R s m args c X B RX6 cX6_everything 1 2 := hC
  have hx := hC.1.1
  have hb := hC.1.2.1
  have hown := hC.1.2.2.2.1
  have hts := hC.1.2.2.2.2
  have hl : lv_has ls 1 [(0, .ref (B + h0))] := hl
  obtain ⟨n0, e0⟩ : ∃ n0 : Nat, n0 = σ.length := ⟨_, rfl⟩
  rw [← e0] at hret hS
  obtain ⟨-, h⟩ := ez_in h
  refine lv_aload_n hx hb dX6_everything_0 rfl (lv_at hl 0 rfl) ?_
  refine lv_iconst (v := 0) hx hb dX6_everything_1 (by decide) ?_
  refine ez_cVpi (As := [.int 0]) (rest := []) h (fun _ q => c_X6_everythingBut q) hC k_X6_everythingBut ql_RX6_38 rfl (by decide) hS (fun _ q => ez_rcv q) rfl hl.1 rfl (Nat.le_of_ble_eq_true rfl) ⟨Nat.zero_le _, Nat.zero_le _⟩ dX6_everything_2 (fun t_2 H locs hS h => ?_)
  exact hret _ _ _ _ _ (Option.some.inj h) rfl hS dX6_everything_5
set_option maxHeartbeats 4000000 in
set_option maxRecDepth 100000 in
theorem c_X6_onwardAt {l : Launch} {X : ez_X} {B : Nat} {σ : ez_H} {h0 : Nat} {x1 : Int32} {x2 : Int32} {z : Int32} (h : z_X6_onwardAt σ h0 x1 x2 = some z) : ez_M l X B σ yX6_onwardAt cX6_onwardAt 4 (some .int) 0 [.ref (B + h0), .int x1, .int x2] (some (.int z)) σ := by
  refine ez_startip (z := z) (by decide) (Nat.le_of_ble_eq_true rfl) (fun p e R s m args below meth c Q hC hret hS ls hl => ?_)
  have hC : ez_C p R s m args c X B RX6 cX6_onwardAt 4 0 := hC
  have hx := hC.1.1
  have hb := hC.1.2.1
  have hown := hC.1.2.2.2.1
  have hts := hC.1.2.2.2.2
  have hl : lv_has ls 4 [(0, .ref (B + h0)), (1, .int x1), (2, .int x2)] := hl
  obtain ⟨n0, e0⟩ : ∃ n0 : Nat, n0 = σ.length := ⟨_, rfl⟩
  rw [← e0] at hret hS
  obtain ⟨-, h⟩ := ez_in h
  have K_30 : ∀ (y0 : Int32) (H : Heap) (locs : List Loc) (ls : Array Slot), ez_S X B s.heap (n0) σ H locs → z_X6_onwardAt_30 σ y0 = some z → lv_has ls 4 [] → W p l e R s m args below meth c H locs 0 0 Q (F0 m 30 ls [.int y0]) := by
    intro y0 H locs ls hS h hl
    exact hret _ _ _ _ _ (Option.some.inj h) rfl hS dX6_onwardAt_30
  have K_29 : ∀ (H : Heap) (locs : List Loc) (ls : Array Slot), ez_S X B s.heap (n0) σ H locs → z_X6_onwardAt_29 σ = some z → lv_has ls 4 [] → W p l e R s m args below meth c H locs 0 0 Q (F0 m 29 ls []) := by
    intro  H locs ls hS h hl
    refine lv_iconst (v := 0) hx hb dX6_onwardAt_29 (by decide) ?_
    exact K_30  (0 : Int32) _ _ _ hS h (lv_sub hl [] rfl)
  refine lv_iload_n hx hb dX6_onwardAt_0 rfl (lv_at hl 1 rfl) ?_
  refine lv_bipush (v := 6) hx hb dX6_onwardAt_1 (by decide) ?_
  refine lv_imul hx hb dX6_onwardAt_3 ?_
  refine ez_top h (fun t_3 h => ?_)
  refine lv_iload_n hx hb dX6_onwardAt_4 rfl (lv_at hl 2 rfl) ?_
  refine lv_iadd hx hb dX6_onwardAt_5 ?_
  refine ez_top h (fun t_5 h => ?_)
  refine lv_istore_n (lv' := [(3, .int t_5), (0, .ref (B + h0)), (1, .int x1), (2, .int x2)]) hx hb dX6_onwardAt_6 rfl hl (by decide) rfl (fun ls hl => ?_)
  refine lv_iload_n hx hb dX6_onwardAt_7 rfl (lv_at hl 0 rfl) ?_
  refine lv_if_lt (tgt := 29) hx hb dX6_onwardAt_8 (by decide) (fun c_8 => ?_) (fun c_8 => ?_)
  · replace h := ez_ifp h c_8
    exact K_29   _ _ _ hS h (lv_sub hl [] rfl)
  · replace h := ez_ifn h c_8
    refine lv_iload_n hx hb dX6_onwardAt_11 rfl (lv_at hl 0 rfl) ?_
    refine lv_aload_n hx hb dX6_onwardAt_12 rfl (lv_at hl 1 rfl) ?_
    refine eg_RX6_9 hC hS h dX6_onwardAt_13 (fun t_13 h => ?_)
    refine ez_lnA hC hS h dX6_onwardAt_16 (fun t_16 h => ?_)
    refine lv_icmp_ge (tgt := 29) hx hb dX6_onwardAt_17 (by decide) (fun c_17 => ?_) (fun c_17 => ?_)
    · replace h := ez_ifp h c_17
      exact K_29   _ _ _ hS h (lv_sub hl [] rfl)
    · replace h := ez_ifn h c_17
      refine lv_aload_n hx hb dX6_onwardAt_20 rfl (lv_at hl 1 rfl) ?_
      refine eg_RX6_9 hC hS h dX6_onwardAt_21 (fun t_21 h => ?_)
      refine lv_iload_n hx hb dX6_onwardAt_24 rfl (lv_at hl 0 rfl) ?_
      refine ez_ial hC hS h dX6_onwardAt_25 (fun t_25 h => ?_)
      refine lv_goto (tgt := 30) hx hb dX6_onwardAt_26 (by decide) ?_
      exact K_30  t_25 _ _ _ hS h (lv_sub hl [] rfl)
set_option maxHeartbeats 4000000 in
set_option maxRecDepth 100000 in
theorem c_X6_waysFrom {l : Launch} {X : ez_X} {B : Nat} {σ : ez_H} {h0 : Nat} {x1 : Int32} {x2 : Int32} {x3 : Int32} {z : Int32} (h : z_X6_waysFrom σ h0 x1 x2 x3 = some z) : ez_M l X B σ yX6_waysFrom cX6_waysFrom 6 (some .int) 1 [.ref (B + h0), .int x1, .int x2, .int x3] (some (.int z)) σ := by
  refine ez_startip (z := z) (by decide) (Nat.le_of_ble_eq_true rfl) (fun p e R s m args below meth c Q hC hret hS ls hl => ?_)
  have hC : ez_C p R s m args c X B RX6 cX6_waysFrom 6 1 := hC
  have hx := hC.1.1
  have hb := hC.1.2.1
  have hown := hC.1.2.2.2.1
  have hts := hC.1.2.2.2.2
  have hl : lv_has ls 6 [(0, .ref (B + h0)), (1, .int x1), (2, .int x2), (3, .int x3)] := hl
  obtain ⟨n0, e0⟩ : ∃ n0 : Nat, n0 = σ.length := ⟨_, rfl⟩
  rw [← e0] at hret hS
  obtain ⟨-, h⟩ := ez_in h
  have K_52 : ∀ (k_18 : Nat → Int32 → Int32 → Int32 → Int32 → Int32 → Option (Int32)) (hk_18 : ∀ (h0 : Nat) (x1 : Int32) (x2 : Int32) (x3 : Int32) (x4 : Int32) (x5 : Int32) (H : Heap) (locs : List Loc) (ls : Array Slot), ez_S X B s.heap (n0) σ H locs → k_18 h0 x1 x2 x3 x4 x5 = some z → lv_has ls 6 [(0, .ref (B + h0)), (1, .int x1), (2, .int x2), (3, .int x3), (4, .int x4), (5, .int x5)] → W p l e R s m args below meth c H locs 0 0 Q (F0 m 18 ls [])), ∀ (h0 : Nat) (x1 : Int32) (x2 : Int32) (x3 : Int32) (x4 : Int32) (x5 : Int32) (H : Heap) (locs : List Loc) (ls : Array Slot), ez_S X B s.heap (n0) σ H locs → z_X6_waysFrom_52 σ k_18 h0 x1 x2 x3 x4 x5 = some z → lv_has ls 6 [(0, .ref (B + h0)), (1, .int x1), (2, .int x2), (3, .int x3), (4, .int x4), (5, .int x5)] → W p l e R s m args below meth c H locs 0 0 Q (F0 m 52 ls []) := by
    intro k_18 hk_18 h0 x1 x2 x3 x4 x5 H locs ls hS h hl
    obtain ⟨t_52, e_52, h⟩ := ez_let_sp h
    refine lv_iinc (v := t_52) (lv' := [(5, .int t_52), (0, .ref (B + h0)), (1, .int x1), (2, .int x2), (3, .int x3), (4, .int x4)]) hx hb dX6_waysFrom_52 hl (k := 5) rfl (by rw [e_52]; rfl) (by decide) rfl (fun ls hl => ?_)
    refine lv_goto (tgt := 18) hx hb dX6_waysFrom_55 (by decide) ?_
    exact hk_18 h0 x1 x2 x3 x4 t_52 _ _ _ hS h (lv_sub hl [1, 2, 3, 4, 5, 0] rfl)
  have K_18 : ∀ (k_18 : Nat → Int32 → Int32 → Int32 → Int32 → Int32 → Option (Int32)) (hk_18 : ∀ (h0 : Nat) (x1 : Int32) (x2 : Int32) (x3 : Int32) (x4 : Int32) (x5 : Int32) (H : Heap) (locs : List Loc) (ls : Array Slot), ez_S X B s.heap (n0) σ H locs → k_18 h0 x1 x2 x3 x4 x5 = some z → lv_has ls 6 [(0, .ref (B + h0)), (1, .int x1), (2, .int x2), (3, .int x3), (4, .int x4), (5, .int x5)] → W p l e R s m args below meth c H locs 0 0 Q (F0 m 18 ls [])), ∀ (h0 : Nat) (x1 : Int32) (x2 : Int32) (x3 : Int32) (x4 : Int32) (x5 : Int32) (H : Heap) (locs : List Loc) (ls : Array Slot), ez_S X B s.heap (n0) σ H locs → z_X6_waysFrom_18 σ k_18 h0 x1 x2 x3 x4 x5 = some z → lv_has ls 6 [(0, .ref (B + h0)), (1, .int x1), (2, .int x2), (3, .int x3), (4, .int x4), (5, .int x5)] → W p l e R s m args below meth c H locs 0 0 Q (F0 m 18 ls []) := by
    intro k_18 hk_18 h0 x1 x2 x3 x4 x5 H locs ls hS h hl
    refine lv_iload hx hb dX6_waysFrom_18 (lv_at hl 5 rfl) ?_
    refine lv_aload_n hx hb dX6_waysFrom_20 rfl (lv_at hl 0 rfl) ?_
    refine eg_RX6_22 hC hS h dX6_waysFrom_21 (fun t_21 h => ?_)
    refine lv_icmp_ge (tgt := 58) hx hb dX6_waysFrom_24 (by decide) (fun c_24 => ?_) (fun c_24 => ?_)
    · replace h := ez_ifp h c_24
      refine lv_iload hx hb dX6_waysFrom_58 (lv_at hl 4 rfl) ?_
      exact hret _ _ _ _ _ (Option.some.inj h) rfl hS dX6_waysFrom_60
    · replace h := ez_ifn h c_24
      refine lv_iload hx hb dX6_waysFrom_27 (lv_at hl 5 rfl) ?_
      refine lv_iload_n hx hb dX6_waysFrom_29 rfl (lv_at hl 2 rfl) ?_
      refine lv_isub hx hb dX6_waysFrom_30 ?_
      refine ez_top h (fun t_30 h => ?_)
      refine va_mabs hx hb (hC.1.2.2.1.trans hl.1.symm) hown (hts _ ql_RX6_59) (hts _ qm_abs_s) (hts _ qm_i) (hts _ qm_abs_c) (Nat.le_trans (by decide) hC.2.2.1) (Nat.le_trans (Nat.le_of_ble_eq_true rfl) hC.2.2.2.1) (Nat.zero_le _) (Nat.zero_le _) dX6_waysFrom_31 ?_
      refine ez_top h (fun t_31 h => ?_)
      refine lv_iload_n hx hb dX6_waysFrom_34 rfl (lv_at hl 3 rfl) ?_
      refine lv_icmp_gt (tgt := 52) hx hb dX6_waysFrom_35 (by decide) (fun c_35 => ?_) (fun c_35 => ?_)
      · replace h := ez_ifp h c_35
        exact K_52 k_18 hk_18 h0 x1 x2 x3 x4 x5 _ _ _ hS h (lv_sub hl [0, 1, 2, 3, 4, 5] rfl)
      · replace h := ez_ifn h c_35
        refine lv_iload hx hb dX6_waysFrom_38 (lv_at hl 4 rfl) ?_
        refine lv_aload_n hx hb dX6_waysFrom_40 rfl (lv_at hl 0 rfl) ?_
        refine lv_iload_n hx hb dX6_waysFrom_41 rfl (lv_at hl 1 rfl) ?_
        refine lv_iconst (v := 1) hx hb dX6_waysFrom_42 (by decide) ?_
        refine lv_iadd hx hb dX6_waysFrom_43 ?_
        refine ez_top h (fun t_43 h => ?_)
        refine lv_iload hx hb dX6_waysFrom_44 (lv_at hl 5 rfl) ?_
        refine ez_cVpi (As := [.int t_43, .int x5]) (rest := [.int x4]) h (fun _ q => c_X6_onwardAt q) hC k_X6_onwardAt ql_RX6_79 rfl (by decide) hS (fun _ q => ez_rcv q) rfl hl.1 rfl (Nat.le_of_ble_eq_true rfl) ⟨Nat.zero_le _, Nat.zero_le _⟩ dX6_waysFrom_46 (fun t_46 H locs hS h => ?_)
        refine lv_iadd hx hb dX6_waysFrom_49 ?_
        refine ez_top h (fun t_49 h => ?_)
        refine lv_istore (lv' := [(4, .int t_49), (0, .ref (B + h0)), (1, .int x1), (2, .int x2), (3, .int x3), (5, .int x5)]) hx hb dX6_waysFrom_50 hl (by decide) rfl (fun ls hl => ?_)
        exact K_52 k_18 hk_18 h0 x1 x2 x3 t_49 x5 _ _ _ hS h (lv_sub hl [1, 2, 3, 4, 0, 5] rfl)
  have E_18 : ∀ (h0 : Nat) (x1 : Int32) (x2 : Int32) (x3 : Int32) (x4 : Int32) (x5 : Int32) (H : Heap) (locs : List Loc) (ls : Array Slot), ez_S X B s.heap (n0) σ H locs → (ez_fix (fun _ _ _ _ _ _ => none) (z_X6_waysFrom_18 σ) ez_N) h0 x1 x2 x3 x4 x5 = some z → lv_has ls 6 [(0, .ref (B + h0)), (1, .int x1), (2, .int x2), (3, .int x3), (4, .int x4), (5, .int x5)] → W p l e R s m args below meth c H locs 0 0 Q (F0 m 18 ls []) := ez_fix_ind (fun k_18 : Nat → Int32 → Int32 → Int32 → Int32 → Int32 → Option (Int32) => ∀ (h0 : Nat) (x1 : Int32) (x2 : Int32) (x3 : Int32) (x4 : Int32) (x5 : Int32) (H : Heap) (locs : List Loc) (ls : Array Slot), ez_S X B s.heap (n0) σ H locs → k_18 h0 x1 x2 x3 x4 x5 = some z → lv_has ls 6 [(0, .ref (B + h0)), (1, .int x1), (2, .int x2), (3, .int x3), (4, .int x4), (5, .int x5)] → W p l e R s m args below meth c H locs 0 0 Q (F0 m 18 ls [])) (fun _ _ _ _ _ _ _ _ _ _ h _ => by cases h) (fun k_18 hk_18 => K_18 k_18 hk_18) ez_N
  refine lv_iload_n hx hb dX6_waysFrom_0 rfl (lv_at hl 1 rfl) ?_
  refine lv_iconst (v := 1) hx hb dX6_waysFrom_1 (by decide) ?_
  refine lv_iadd hx hb dX6_waysFrom_2 ?_
  refine ez_top h (fun t_2 h => ?_)
  refine lv_aload_n hx hb dX6_waysFrom_3 rfl (lv_at hl 0 rfl) ?_
  refine eg_RX6_18 hC hS h dX6_waysFrom_4 (fun t_4 h => ?_)
  refine lv_icmp_lt (tgt := 12) hx hb dX6_waysFrom_7 (by decide) (fun c_7 => ?_) (fun c_7 => ?_)
  · replace h := ez_ifp h c_7
    refine lv_iconst (v := 0) hx hb dX6_waysFrom_12 (by decide) ?_
    refine lv_istore (lv' := [(4, .int 0), (0, .ref (B + h0)), (1, .int x1), (2, .int x2), (3, .int x3)]) hx hb dX6_waysFrom_13 hl (by decide) rfl (fun ls hl => ?_)
    refine lv_iconst (v := 0) hx hb dX6_waysFrom_15 (by decide) ?_
    refine lv_istore (lv' := [(5, .int 0), (4, .int 0), (0, .ref (B + h0)), (1, .int x1), (2, .int x2), (3, .int x3)]) hx hb dX6_waysFrom_16 hl (by decide) rfl (fun ls hl => ?_)
    exact E_18  h0 x1 x2 x3 (0 : Int32) (0 : Int32) _ _ _ hS h (lv_sub hl [2, 3, 4, 5, 1, 0] rfl)
  · replace h := ez_ifn h c_7
    refine lv_iconst (v := 1) hx hb dX6_waysFrom_10 (by decide) ?_
    exact hret _ _ _ _ _ (Option.some.inj h) rfl hS dX6_waysFrom_11
set_option maxHeartbeats 4000000 in
set_option maxRecDepth 100000 in
theorem c_X6_putOnward {l : Launch} {X : ez_X} {B : Nat} {σ : ez_H} {h0 : Nat} {x1 : Int32} {x2 : Int32} {x3 : Int32} {z : Unit × ez_H} (h : z_X6_putOnward σ h0 x1 x2 x3 = some z) : ez_M l X B σ yX6_putOnward cX6_putOnward 5 (none) 0 [.ref (B + h0), .int x1, .int x2, .int x3] (none) z.2 := by
  refine ez_startv (z := z) (by decide) (Nat.le_of_ble_eq_true rfl) (fun p e R s m args below meth c Q hC hret hS ls hl => ?_)
  have hC : ez_C p R s m args c X B RX6 cX6_putOnward 5 0 := hC
  have hx := hC.1.1
  have hb := hC.1.2.1
  have hown := hC.1.2.2.2.1
  have hts := hC.1.2.2.2.2
  have hl : lv_has ls 5 [(0, .ref (B + h0)), (1, .int x1), (2, .int x2), (3, .int x3)] := hl
  obtain ⟨σ0, eσ⟩ : ∃ σ0 : ez_H, σ0 = σ := ⟨_, rfl⟩
  rw [← eσ] at hret
  have hS : ez_S X B s.heap σ0.length σ s.heap [] := eσ ▸ hS
  obtain ⟨-, h⟩ := ez_in h
  have K_31 : ∀ (σ : ez_H) (H : Heap) (locs : List Loc) (ls : Array Slot), ez_S X B s.heap (σ0.length) σ H locs → z_X6_putOnward_31 σ = some z → lv_has ls 5 [] → W p l e R s m args below meth c H locs 0 0 Q (F0 m 31 ls []) := by
    intro σ H locs ls hS h hl
    exact hret _ _ _ _ _ _ (Option.some.inj h) hS dX6_putOnward_31
  refine lv_iload_n hx hb dX6_putOnward_0 rfl (lv_at hl 1 rfl) ?_
  refine lv_bipush (v := 6) hx hb dX6_putOnward_1 (by decide) ?_
  refine lv_imul hx hb dX6_putOnward_3 ?_
  refine ez_top h (fun t_3 h => ?_)
  refine lv_iload_n hx hb dX6_putOnward_4 rfl (lv_at hl 2 rfl) ?_
  refine lv_iadd hx hb dX6_putOnward_5 ?_
  refine ez_top h (fun t_5 h => ?_)
  refine lv_istore (lv' := [(4, .int t_5), (0, .ref (B + h0)), (1, .int x1), (2, .int x2), (3, .int x3)]) hx hb dX6_putOnward_6 hl (by decide) rfl (fun ls hl => ?_)
  refine lv_iload hx hb dX6_putOnward_8 (lv_at hl 0 rfl) ?_
  refine lv_if_lt (tgt := 31) hx hb dX6_putOnward_10 (by decide) (fun c_10 => ?_) (fun c_10 => ?_)
  · replace h := ez_ifp h c_10
    exact K_31  σ _ _ _ hS h (lv_sub hl [] rfl)
  · replace h := ez_ifn h c_10
    refine lv_iload hx hb dX6_putOnward_13 (lv_at hl 0 rfl) ?_
    refine lv_aload_n hx hb dX6_putOnward_15 rfl (lv_at hl 1 rfl) ?_
    refine eg_RX6_9 hC hS h dX6_putOnward_16 (fun t_16 h => ?_)
    refine ez_lnA hC hS h dX6_putOnward_19 (fun t_19 h => ?_)
    refine lv_icmp_ge (tgt := 31) hx hb dX6_putOnward_20 (by decide) (fun c_20 => ?_) (fun c_20 => ?_)
    · replace h := ez_ifp h c_20
      exact K_31  σ _ _ _ hS h (lv_sub hl [] rfl)
    · replace h := ez_ifn h c_20
      refine lv_aload_n hx hb dX6_putOnward_23 rfl (lv_at hl 1 rfl) ?_
      refine eg_RX6_9 hC hS h dX6_putOnward_24 (fun t_24 h => ?_)
      refine lv_iload hx hb dX6_putOnward_27 (lv_at hl 0 rfl) ?_
      refine lv_iload_n hx hb dX6_putOnward_29 rfl (lv_at hl 4 rfl) ?_
      refine ez_ias hC hS h dX6_putOnward_30 (fun σ H locs hS h => ?_)
      exact K_31  σ _ _ _ hS h (lv_sub hl [] rfl)
set_option maxHeartbeats 4000000 in
set_option maxRecDepth 100000 in
theorem c_X6_howMany {l : Launch} {X : ez_X} {B : Nat} {σ : ez_H} {h0 : Nat} {x1 : Int32} {x2 : Int32} {z : Int32 × ez_H} (h : z_X6_howMany σ h0 x1 x2 = some z) : ez_M l X B σ yX6_howMany cX6_howMany 5 (some .int) 2 [.ref (B + h0), .int x1, .int x2] (some (.int z.1)) z.2 := by
  refine ez_starti (z := z) (by decide) (Nat.le_of_ble_eq_true rfl) (fun p e R s m args below meth c Q hC hret hS ls hl => ?_)
  have hC : ez_C p R s m args c X B RX6 cX6_howMany 5 2 := hC
  have hx := hC.1.1
  have hb := hC.1.2.1
  have hown := hC.1.2.2.2.1
  have hts := hC.1.2.2.2.2
  have hl : lv_has ls 5 [(0, .ref (B + h0)), (1, .int x1), (2, .int x2)] := hl
  obtain ⟨σ0, eσ⟩ : ∃ σ0 : ez_H, σ0 = σ := ⟨_, rfl⟩
  rw [← eσ] at hret
  have hS : ez_S X B s.heap σ0.length σ s.heap [] := eσ ▸ hS
  obtain ⟨-, h⟩ := ez_in h
  have K_70 : ∀ (k_70 : ez_H → Nat → Int32 → Int32 → Option (Int32 × ez_H)) (hk_70 : ∀ (σ : ez_H) (h0 : Nat) (x3 : Int32) (x4 : Int32) (H : Heap) (locs : List Loc) (ls : Array Slot), ez_S X B s.heap (σ0.length) σ H locs → k_70 σ h0 x3 x4 = some z → lv_has ls 5 [(0, .ref (B + h0)), (3, .int x3), (4, .int x4)] → W p l e R s m args below meth c H locs 0 0 Q (F0 m 70 ls [])), ∀ (σ : ez_H) (h0 : Nat) (x3 : Int32) (x4 : Int32) (H : Heap) (locs : List Loc) (ls : Array Slot), ez_S X B s.heap (σ0.length) σ H locs → z_X6_howMany_70 k_70 σ h0 x3 x4 = some z → lv_has ls 5 [(0, .ref (B + h0)), (3, .int x3), (4, .int x4)] → W p l e R s m args below meth c H locs 0 0 Q (F0 m 70 ls []) := by
    intro k_70 hk_70 σ h0 x3 x4 H locs ls hS h hl
    refine lv_iload hx hb dX6_howMany_70 (lv_at hl 2 rfl) ?_
    refine lv_aload_n hx hb dX6_howMany_72 rfl (lv_at hl 0 rfl) ?_
    refine eg_RX6_22 hC hS h dX6_howMany_73 (fun t_73 h => ?_)
    refine lv_icmp_ge (tgt := 95) hx hb dX6_howMany_76 (by decide) (fun c_76 => ?_) (fun c_76 => ?_)
    · replace h := ez_ifp h c_76
      refine lv_iload_n hx hb dX6_howMany_95 rfl (lv_at hl 1 rfl) ?_
      exact hret _ _ _ _ _ _ (Option.some.inj h) rfl hS dX6_howMany_96
    · replace h := ez_ifn h c_76
      refine lv_iload_n hx hb dX6_howMany_79 rfl (lv_at hl 1 rfl) ?_
      refine lv_aload_n hx hb dX6_howMany_80 rfl (lv_at hl 0 rfl) ?_
      refine lv_iconst (v := 0) hx hb dX6_howMany_81 (by decide) ?_
      refine lv_iload hx hb dX6_howMany_82 (lv_at hl 2 rfl) ?_
      refine ez_cVpi (As := [.int 0, .int x4]) (rest := [.int x3]) h (fun _ q => c_X6_onwardAt q) hC k_X6_onwardAt ql_RX6_79 rfl (by decide) hS (fun _ q => ez_rcv q) rfl hl.1 rfl (Nat.le_of_ble_eq_true rfl) ⟨Nat.zero_le _, Nat.zero_le _⟩ dX6_howMany_84 (fun t_84 H locs hS h => ?_)
      refine lv_iadd hx hb dX6_howMany_87 ?_
      refine ez_top h (fun t_87 h => ?_)
      refine lv_istore_n (lv' := [(3, .int t_87), (0, .ref (B + h0)), (4, .int x4)]) hx hb dX6_howMany_88 rfl hl (by decide) rfl (fun ls hl => ?_)
      obtain ⟨t_89, e_89, h⟩ := ez_let_sp h
      refine lv_iinc (v := t_89) (lv' := [(4, .int t_89), (3, .int t_87), (0, .ref (B + h0))]) hx hb dX6_howMany_89 hl (k := 2) rfl (by rw [e_89]; rfl) (by decide) rfl (fun ls hl => ?_)
      refine lv_goto (tgt := 70) hx hb dX6_howMany_92 (by decide) ?_
      exact hk_70 σ h0 t_87 t_89 _ _ _ hS h (lv_sub hl [2, 1, 0] rfl)
  have E_70 : ∀ (σ : ez_H) (h0 : Nat) (x3 : Int32) (x4 : Int32) (H : Heap) (locs : List Loc) (ls : Array Slot), ez_S X B s.heap (σ0.length) σ H locs → (ez_fix (fun _ _ _ _ => none) (z_X6_howMany_70) ez_N) σ h0 x3 x4 = some z → lv_has ls 5 [(0, .ref (B + h0)), (3, .int x3), (4, .int x4)] → W p l e R s m args below meth c H locs 0 0 Q (F0 m 70 ls []) := ez_fix_ind (fun k_70 : ez_H → Nat → Int32 → Int32 → Option (Int32 × ez_H) => ∀ (σ : ez_H) (h0 : Nat) (x3 : Int32) (x4 : Int32) (H : Heap) (locs : List Loc) (ls : Array Slot), ez_S X B s.heap (σ0.length) σ H locs → k_70 σ h0 x3 x4 = some z → lv_has ls 5 [(0, .ref (B + h0)), (3, .int x3), (4, .int x4)] → W p l e R s m args below meth c H locs 0 0 Q (F0 m 70 ls [])) (fun _ _ _ _ _ _ _ _ h _ => by cases h) (fun k_70 hk_70 => K_70 k_70 hk_70) ez_N
  have K_50 : ∀ (k_7 : ez_H → Nat → Int32 → Int32 → Int32 → Option (Int32 × ez_H)) (hk_7 : ∀ (σ : ez_H) (h0 : Nat) (x1 : Int32) (x2 : Int32) (x3 : Int32) (H : Heap) (locs : List Loc) (ls : Array Slot), ez_S X B s.heap (σ0.length) σ H locs → k_7 σ h0 x1 x2 x3 = some z → lv_has ls 5 [(0, .ref (B + h0)), (1, .int x1), (2, .int x2), (3, .int x3)] → W p l e R s m args below meth c H locs 0 0 Q (F0 m 7 ls [])) (k_14 : ez_H → Nat → Int32 → Int32 → Int32 → Int32 → Option (Int32 × ez_H)) (hk_14 : ∀ (σ : ez_H) (h0 : Nat) (x1 : Int32) (x2 : Int32) (x3 : Int32) (x4 : Int32) (H : Heap) (locs : List Loc) (ls : Array Slot), ez_S X B s.heap (σ0.length) σ H locs → k_14 σ h0 x1 x2 x3 x4 = some z → lv_has ls 5 [(0, .ref (B + h0)), (1, .int x1), (2, .int x2), (3, .int x3), (4, .int x4)] → W p l e R s m args below meth c H locs 0 0 Q (F0 m 14 ls [])), ∀ (σ : ez_H) (h0 : Nat) (x1 : Int32) (x2 : Int32) (x3 : Int32) (x4 : Int32) (y0 : Nat) (y1 : Int32) (y2 : Int32) (y3 : Int32) (H : Heap) (locs : List Loc) (ls : Array Slot), ez_S X B s.heap (σ0.length) σ H locs → z_X6_howMany_50 k_7 k_14 σ h0 x1 x2 x3 x4 y0 y1 y2 y3 = some z → lv_has ls 5 [(0, .ref (B + h0)), (1, .int x1), (2, .int x2), (3, .int x3), (4, .int x4)] → W p l e R s m args below meth c H locs 0 0 Q (F0 m 50 ls [.int y3, .int y2, .int y1, .ref (B + y0)]) := by
    intro k_7 hk_7 k_14 hk_14 σ h0 x1 x2 x3 x4 y0 y1 y2 y3 H locs ls hS h hl
    refine ez_cVv (As := [.int y1, .int y2, .int y3]) (rest := []) h (fun _ q => c_X6_putOnward q) hC k_X6_putOnward ql_RX6_75 rfl (by decide) hS (fun _ q => ez_rcv q) rfl hl.1 rfl (Nat.le_of_ble_eq_true rfl) ⟨Nat.zero_le _, Nat.zero_le _⟩ dX6_howMany_50 (fun _ σ H locs hS h => ?_)
    obtain ⟨t_53, e_53, h⟩ := ez_let_sp h
    refine lv_iinc (v := t_53) (lv' := [(4, .int t_53), (0, .ref (B + h0)), (1, .int x1), (2, .int x2), (3, .int x3)]) hx hb dX6_howMany_53 hl (k := 4) rfl (by rw [e_53]; rfl) (by decide) rfl (fun ls hl => ?_)
    refine lv_goto (tgt := 14) hx hb dX6_howMany_56 (by decide) ?_
    exact hk_14 σ h0 x1 x2 x3 t_53 _ _ _ hS h (lv_sub hl [1, 2, 3, 4, 0] rfl)
  have K_14 : ∀ (k_7 : ez_H → Nat → Int32 → Int32 → Int32 → Option (Int32 × ez_H)) (hk_7 : ∀ (σ : ez_H) (h0 : Nat) (x1 : Int32) (x2 : Int32) (x3 : Int32) (H : Heap) (locs : List Loc) (ls : Array Slot), ez_S X B s.heap (σ0.length) σ H locs → k_7 σ h0 x1 x2 x3 = some z → lv_has ls 5 [(0, .ref (B + h0)), (1, .int x1), (2, .int x2), (3, .int x3)] → W p l e R s m args below meth c H locs 0 0 Q (F0 m 7 ls [])) (k_14 : ez_H → Nat → Int32 → Int32 → Int32 → Int32 → Option (Int32 × ez_H)) (hk_14 : ∀ (σ : ez_H) (h0 : Nat) (x1 : Int32) (x2 : Int32) (x3 : Int32) (x4 : Int32) (H : Heap) (locs : List Loc) (ls : Array Slot), ez_S X B s.heap (σ0.length) σ H locs → k_14 σ h0 x1 x2 x3 x4 = some z → lv_has ls 5 [(0, .ref (B + h0)), (1, .int x1), (2, .int x2), (3, .int x3), (4, .int x4)] → W p l e R s m args below meth c H locs 0 0 Q (F0 m 14 ls [])), ∀ (σ : ez_H) (h0 : Nat) (x1 : Int32) (x2 : Int32) (x3 : Int32) (x4 : Int32) (H : Heap) (locs : List Loc) (ls : Array Slot), ez_S X B s.heap (σ0.length) σ H locs → z_X6_howMany_14 k_7 k_14 σ h0 x1 x2 x3 x4 = some z → lv_has ls 5 [(0, .ref (B + h0)), (1, .int x1), (2, .int x2), (3, .int x3), (4, .int x4)] → W p l e R s m args below meth c H locs 0 0 Q (F0 m 14 ls []) := by
    intro k_7 hk_7 k_14 hk_14 σ h0 x1 x2 x3 x4 H locs ls hS h hl
    refine lv_iload hx hb dX6_howMany_14 (lv_at hl 4 rfl) ?_
    refine lv_aload_n hx hb dX6_howMany_16 rfl (lv_at hl 0 rfl) ?_
    refine eg_RX6_22 hC hS h dX6_howMany_17 (fun t_17 h => ?_)
    refine lv_icmp_ge (tgt := 59) hx hb dX6_howMany_20 (by decide) (fun c_20 => ?_) (fun c_20 => ?_)
    · replace h := ez_ifp h c_20
      obtain ⟨t_59, e_59, h⟩ := ez_let_sp h
      refine lv_iinc (v := t_59) (lv' := [(3, .int t_59), (0, .ref (B + h0)), (1, .int x1), (2, .int x2), (4, .int x4)]) hx hb dX6_howMany_59 hl (k := 3) rfl (by rw [e_59]; rfl) (by decide) rfl (fun ls hl => ?_)
      refine lv_goto (tgt := 7) hx hb dX6_howMany_62 (by decide) ?_
      exact hk_7 σ h0 x1 x2 t_59 _ _ _ hS h (lv_sub hl [1, 2, 3, 0] rfl)
    · replace h := ez_ifn h c_20
      refine lv_aload_n hx hb dX6_howMany_23 rfl (lv_at hl 0 rfl) ?_
      refine lv_iload_n hx hb dX6_howMany_24 rfl (lv_at hl 3 rfl) ?_
      refine lv_iload hx hb dX6_howMany_25 (lv_at hl 4 rfl) ?_
      refine lv_iload_n hx hb dX6_howMany_27 rfl (lv_at hl 1 rfl) ?_
      refine lv_iload_n hx hb dX6_howMany_28 rfl (lv_at hl 3 rfl) ?_
      refine lv_iload hx hb dX6_howMany_29 (lv_at hl 4 rfl) ?_
      refine ez_cSpi (As := [.int x3, .int x4]) (rest := [.int x1, .int x4, .int x3, .ref (B + h0)]) h (fun _ q => c_X6_notch q) hC k_X6_notch ql_RX6_44 rfl (by decide) hS hl.1 rfl (Nat.le_of_ble_eq_true rfl) ⟨Nat.zero_le _, Nat.zero_le _⟩ dX6_howMany_31 (fun t_31 H locs hS h => ?_)
      refine lv_iand hx hb dX6_howMany_34 ?_
      refine ez_top h (fun t_34 h => ?_)
      refine lv_if_ne (tgt := 42) hx hb dX6_howMany_35 (by decide) (fun c_35 => ?_) (fun c_35 => ?_)
      · replace h := ez_ifn h c_35
        refine lv_aload_n hx hb dX6_howMany_42 rfl (lv_at hl 0 rfl) ?_
        refine lv_iload_n hx hb dX6_howMany_43 rfl (lv_at hl 3 rfl) ?_
        refine lv_iload hx hb dX6_howMany_44 (lv_at hl 4 rfl) ?_
        refine lv_iload_n hx hb dX6_howMany_46 rfl (lv_at hl 2 rfl) ?_
        refine ez_cVpi (As := [.int x3, .int x4, .int x2]) (rest := [.int x4, .int x3, .ref (B + h0)]) h (fun _ q => c_X6_waysFrom q) hC k_X6_waysFrom ql_RX6_72 rfl (by decide) hS (fun _ q => ez_rcv q) rfl hl.1 rfl (Nat.le_of_ble_eq_true rfl) ⟨Nat.zero_le _, Nat.zero_le _⟩ dX6_howMany_47 (fun t_47 H locs hS h => ?_)
        exact K_50 k_7 hk_7 k_14 hk_14 σ h0 x1 x2 x3 x4 h0 x3 x4 t_47 _ _ _ hS h (lv_sub hl [0, 1, 2, 3, 4] rfl)
      · replace h := ez_ifp h c_35
        refine lv_iconst (v := 0) hx hb dX6_howMany_38 (by decide) ?_
        refine lv_goto (tgt := 50) hx hb dX6_howMany_39 (by decide) ?_
        exact K_50 k_7 hk_7 k_14 hk_14 σ h0 x1 x2 x3 x4 h0 x3 x4 (0 : Int32) _ _ _ hS h (lv_sub hl [0, 1, 2, 3, 4] rfl)
  have E_14 : ∀ (k_7 : ez_H → Nat → Int32 → Int32 → Int32 → Option (Int32 × ez_H)) (hk_7 : ∀ (σ : ez_H) (h0 : Nat) (x1 : Int32) (x2 : Int32) (x3 : Int32) (H : Heap) (locs : List Loc) (ls : Array Slot), ez_S X B s.heap (σ0.length) σ H locs → k_7 σ h0 x1 x2 x3 = some z → lv_has ls 5 [(0, .ref (B + h0)), (1, .int x1), (2, .int x2), (3, .int x3)] → W p l e R s m args below meth c H locs 0 0 Q (F0 m 7 ls [])), ∀ (σ : ez_H) (h0 : Nat) (x1 : Int32) (x2 : Int32) (x3 : Int32) (x4 : Int32) (H : Heap) (locs : List Loc) (ls : Array Slot), ez_S X B s.heap (σ0.length) σ H locs → (ez_fix (fun _ _ _ _ _ _ => none) (z_X6_howMany_14 k_7) ez_N) σ h0 x1 x2 x3 x4 = some z → lv_has ls 5 [(0, .ref (B + h0)), (1, .int x1), (2, .int x2), (3, .int x3), (4, .int x4)] → W p l e R s m args below meth c H locs 0 0 Q (F0 m 14 ls []) := fun k_7 hk_7 => ez_fix_ind (fun k_14 : ez_H → Nat → Int32 → Int32 → Int32 → Int32 → Option (Int32 × ez_H) => ∀ (σ : ez_H) (h0 : Nat) (x1 : Int32) (x2 : Int32) (x3 : Int32) (x4 : Int32) (H : Heap) (locs : List Loc) (ls : Array Slot), ez_S X B s.heap (σ0.length) σ H locs → k_14 σ h0 x1 x2 x3 x4 = some z → lv_has ls 5 [(0, .ref (B + h0)), (1, .int x1), (2, .int x2), (3, .int x3), (4, .int x4)] → W p l e R s m args below meth c H locs 0 0 Q (F0 m 14 ls [])) (fun _ _ _ _ _ _ _ _ _ _ h _ => by cases h) (fun k_14 hk_14 => K_14 k_7 hk_7 k_14 hk_14) ez_N
  have K_7 : ∀ (k_7 : ez_H → Nat → Int32 → Int32 → Int32 → Option (Int32 × ez_H)) (hk_7 : ∀ (σ : ez_H) (h0 : Nat) (x1 : Int32) (x2 : Int32) (x3 : Int32) (H : Heap) (locs : List Loc) (ls : Array Slot), ez_S X B s.heap (σ0.length) σ H locs → k_7 σ h0 x1 x2 x3 = some z → lv_has ls 5 [(0, .ref (B + h0)), (1, .int x1), (2, .int x2), (3, .int x3)] → W p l e R s m args below meth c H locs 0 0 Q (F0 m 7 ls [])), ∀ (σ : ez_H) (h0 : Nat) (x1 : Int32) (x2 : Int32) (x3 : Int32) (H : Heap) (locs : List Loc) (ls : Array Slot), ez_S X B s.heap (σ0.length) σ H locs → z_X6_howMany_7 k_7 σ h0 x1 x2 x3 = some z → lv_has ls 5 [(0, .ref (B + h0)), (1, .int x1), (2, .int x2), (3, .int x3)] → W p l e R s m args below meth c H locs 0 0 Q (F0 m 7 ls []) := by
    intro k_7 hk_7 σ h0 x1 x2 x3 H locs ls hS h hl
    refine lv_iload_n hx hb dX6_howMany_7 rfl (lv_at hl 3 rfl) ?_
    refine lv_if_lt (tgt := 65) hx hb dX6_howMany_8 (by decide) (fun c_8 => ?_) (fun c_8 => ?_)
    · replace h := ez_ifp h c_8
      refine lv_iconst (v := 0) hx hb dX6_howMany_65 (by decide) ?_
      refine lv_istore_n (lv' := [(3, .int 0), (0, .ref (B + h0)), (1, .int x1), (2, .int x2)]) hx hb dX6_howMany_66 rfl hl (by decide) rfl (fun ls hl => ?_)
      refine lv_iconst (v := 0) hx hb dX6_howMany_67 (by decide) ?_
      refine lv_istore (lv' := [(4, .int 0), (3, .int 0), (0, .ref (B + h0)), (1, .int x1), (2, .int x2)]) hx hb dX6_howMany_68 hl (by decide) rfl (fun ls hl => ?_)
      exact E_70  σ h0 (0 : Int32) (0 : Int32) _ _ _ hS h (lv_sub hl [2, 1, 0] rfl)
    · replace h := ez_ifn h c_8
      refine lv_iconst (v := 0) hx hb dX6_howMany_11 (by decide) ?_
      refine lv_istore (lv' := [(4, .int 0), (0, .ref (B + h0)), (1, .int x1), (2, .int x2), (3, .int x3)]) hx hb dX6_howMany_12 hl (by decide) rfl (fun ls hl => ?_)
      exact E_14 k_7 hk_7 σ h0 x1 x2 x3 (0 : Int32) _ _ _ hS h (lv_sub hl [1, 2, 3, 4, 0] rfl)
  have E_7 : ∀ (σ : ez_H) (h0 : Nat) (x1 : Int32) (x2 : Int32) (x3 : Int32) (H : Heap) (locs : List Loc) (ls : Array Slot), ez_S X B s.heap (σ0.length) σ H locs → (ez_fix (fun _ _ _ _ _ => none) (z_X6_howMany_7) ez_N) σ h0 x1 x2 x3 = some z → lv_has ls 5 [(0, .ref (B + h0)), (1, .int x1), (2, .int x2), (3, .int x3)] → W p l e R s m args below meth c H locs 0 0 Q (F0 m 7 ls []) := ez_fix_ind (fun k_7 : ez_H → Nat → Int32 → Int32 → Int32 → Option (Int32 × ez_H) => ∀ (σ : ez_H) (h0 : Nat) (x1 : Int32) (x2 : Int32) (x3 : Int32) (H : Heap) (locs : List Loc) (ls : Array Slot), ez_S X B s.heap (σ0.length) σ H locs → k_7 σ h0 x1 x2 x3 = some z → lv_has ls 5 [(0, .ref (B + h0)), (1, .int x1), (2, .int x2), (3, .int x3)] → W p l e R s m args below meth c H locs 0 0 Q (F0 m 7 ls [])) (fun _ _ _ _ _ _ _ _ _ h _ => by cases h) (fun k_7 hk_7 => K_7 k_7 hk_7) ez_N
  refine lv_aload_n hx hb dX6_howMany_0 rfl (lv_at hl 0 rfl) ?_
  refine eg_RX6_18 hC hS h dX6_howMany_1 (fun t_1 h => ?_)
  refine lv_iconst (v := 1) hx hb dX6_howMany_4 (by decide) ?_
  refine lv_isub hx hb dX6_howMany_5 ?_
  refine ez_top h (fun t_5 h => ?_)
  refine lv_istore_n (lv' := [(3, .int t_5), (0, .ref (B + h0)), (1, .int x1), (2, .int x2)]) hx hb dX6_howMany_6 rfl hl (by decide) rfl (fun ls hl => ?_)
  exact E_7  σ h0 x1 x2 t_5 _ _ _ hS h (lv_sub hl [1, 2, 3, 0] rfl)
set_option maxHeartbeats 4000000 in
set_option maxRecDepth 100000 in
theorem c_X6_nth {l : Launch} {X : ez_X} {B : Nat} {σ : ez_H} {h0 : Nat} {x1 : Int32} {x2 : Int32} {z : Int32 × ez_H} (h : z_X6_nth σ h0 x1 x2 = some z) : ez_M l X B σ yX6_nth cX6_nth 9 (some .int) 3 [.ref (B + h0), .int x1, .int x2] (some (.int z.1)) z.2 := by
  refine ez_starti (z := z) (by decide) (Nat.le_of_ble_eq_true rfl) (fun p e R s m args below meth c Q hC hret hS ls hl => ?_)
  have hC : ez_C p R s m args c X B RX6 cX6_nth 9 3 := hC
  have hx := hC.1.1
  have hb := hC.1.2.1
  have hown := hC.1.2.2.2.1
  have hts := hC.1.2.2.2.2
  have hl : lv_has ls 9 [(0, .ref (B + h0)), (1, .int x1), (2, .int x2)] := hl
  obtain ⟨σ0, eσ⟩ : ∃ σ0 : ez_H, σ0 = σ := ⟨_, rfl⟩
  rw [← eσ] at hret
  have hS : ez_S X B s.heap σ0.length σ s.heap [] := eσ ▸ hS
  obtain ⟨-, h⟩ := ez_in h
  have K_17 : ∀ (σ : ez_H) (H : Heap) (locs : List Loc) (ls : Array Slot), ez_S X B s.heap (σ0.length) σ H locs → z_X6_nth_17 σ = some z → lv_has ls 9 [] → W p l e R s m args below meth c H locs 0 0 Q (F0 m 17 ls []) := by
    intro σ H locs ls hS h hl
    refine lv_iconst (v := 0) hx hb dX6_nth_17 (by decide) ?_
    exact hret _ _ _ _ _ _ (Option.some.inj h) rfl hS dX6_nth_18
  have K_87 : ∀ (k_38 : ez_H → Nat → Int32 → Int32 → Int32 → Int32 → Int32 → Option (Int32 × ez_H)) (hk_38 : ∀ (σ : ez_H) (h0 : Nat) (x3 : Int32) (x4 : Int32) (x5 : Int32) (x6 : Int32) (x7 : Int32) (H : Heap) (locs : List Loc) (ls : Array Slot), ez_S X B s.heap (σ0.length) σ H locs → k_38 σ h0 x3 x4 x5 x6 x7 = some z → lv_has ls 9 [(0, .ref (B + h0)), (3, .int x3), (4, .int x4), (5, .int x5), (6, .int x6), (7, .int x7)] → W p l e R s m args below meth c H locs 0 0 Q (F0 m 38 ls [])), ∀ (σ : ez_H) (h0 : Nat) (x3 : Int32) (x4 : Int32) (x7 : Int32) (x8 : Int32) (H : Heap) (locs : List Loc) (ls : Array Slot), ez_S X B s.heap (σ0.length) σ H locs → z_X6_nth_87 k_38 σ h0 x3 x4 x7 x8 = some z → lv_has ls 9 [(0, .ref (B + h0)), (3, .int x3), (4, .int x4), (7, .int x7), (8, .int x8)] → W p l e R s m args below meth c H locs 0 0 Q (F0 m 87 ls []) := by
    intro k_38 hk_38 σ h0 x3 x4 x7 x8 H locs ls hS h hl
    refine lv_iload hx hb dX6_nth_87 (lv_at hl 2 rfl) ?_
    refine lv_iload hx hb dX6_nth_89 (lv_at hl 3 rfl) ?_
    refine lv_iload hx hb dX6_nth_91 (lv_at hl 4 rfl) ?_
    refine ez_cSpi (As := [.int x7, .int x8]) (rest := [.int x4]) h (fun _ q => c_X6_notch q) hC k_X6_notch ql_RX6_44 rfl (by decide) hS hl.1 rfl (Nat.le_of_ble_eq_true rfl) ⟨Nat.zero_le _, Nat.zero_le _⟩ dX6_nth_93 (fun t_93 H locs hS h => ?_)
    refine lv_ior hx hb dX6_nth_96 ?_
    refine ez_top h (fun t_96 h => ?_)
    refine lv_istore (lv' := [(4, .int t_96), (0, .ref (B + h0)), (3, .int x3), (7, .int x7), (8, .int x8)]) hx hb dX6_nth_97 hl (by decide) rfl (fun ls hl => ?_)
    refine lv_aload_n hx hb dX6_nth_99 rfl (lv_at hl 1 rfl) ?_
    refine lv_iload hx hb dX6_nth_100 (lv_at hl 4 rfl) ?_
    refine ez_cVpi (As := [.int x8]) (rest := []) h (fun _ q => c_X6_lowest q) hC k_X6_lowest ql_RX6_66 rfl (by decide) hS (fun _ q => ez_rcv q) rfl hl.1 rfl (Nat.le_of_ble_eq_true rfl) ⟨Nat.zero_le _, Nat.zero_le _⟩ dX6_nth_102 (fun t_102 H locs hS h => ?_)
    refine lv_istore (lv' := [(5, .int t_102), (4, .int t_96), (0, .ref (B + h0)), (3, .int x3), (7, .int x7), (8, .int x8)]) hx hb dX6_nth_105 hl (by decide) rfl (fun ls hl => ?_)
    refine lv_aload_n hx hb dX6_nth_107 rfl (lv_at hl 2 rfl) ?_
    refine lv_iload hx hb dX6_nth_108 (lv_at hl 5 rfl) ?_
    refine ez_cVpi (As := [.int x8]) (rest := []) h (fun _ q => c_X6_highest q) hC k_X6_highest ql_RX6_69 rfl (by decide) hS (fun _ q => ez_rcv q) rfl hl.1 rfl (Nat.le_of_ble_eq_true rfl) ⟨Nat.zero_le _, Nat.zero_le _⟩ dX6_nth_110 (fun t_110 H locs hS h => ?_)
    refine lv_istore (lv' := [(6, .int t_110), (5, .int t_102), (4, .int t_96), (0, .ref (B + h0)), (3, .int x3), (7, .int x7), (8, .int x8)]) hx hb dX6_nth_113 hl (by decide) rfl (fun ls hl => ?_)
    obtain ⟨t_115, e_115, h⟩ := ez_let_sp h
    refine lv_iinc (v := t_115) (lv' := [(7, .int t_115), (6, .int t_110), (5, .int t_102), (4, .int t_96), (0, .ref (B + h0)), (3, .int x3), (8, .int x8)]) hx hb dX6_nth_115 hl (k := 5) rfl (by rw [e_115]; rfl) (by decide) rfl (fun ls hl => ?_)
    refine lv_goto (tgt := 38) hx hb dX6_nth_118 (by decide) ?_
    exact hk_38 σ h0 x3 t_96 t_102 t_110 t_115 _ _ _ hS h (lv_sub hl [4, 5, 3, 2, 1, 0] rfl)
  have K_51 : ∀ (k_38 : ez_H → Nat → Int32 → Int32 → Int32 → Int32 → Int32 → Option (Int32 × ez_H)) (hk_38 : ∀ (σ : ez_H) (h0 : Nat) (x3 : Int32) (x4 : Int32) (x5 : Int32) (x6 : Int32) (x7 : Int32) (H : Heap) (locs : List Loc) (ls : Array Slot), ez_S X B s.heap (σ0.length) σ H locs → k_38 σ h0 x3 x4 x5 x6 x7 = some z → lv_has ls 9 [(0, .ref (B + h0)), (3, .int x3), (4, .int x4), (5, .int x5), (6, .int x6), (7, .int x7)] → W p l e R s m args below meth c H locs 0 0 Q (F0 m 38 ls [])) (k_51 : ez_H → Nat → Int32 → Int32 → Int32 → Int32 → Int32 → Option (Int32 × ez_H)) (hk_51 : ∀ (σ : ez_H) (h0 : Nat) (x3 : Int32) (x4 : Int32) (x6 : Int32) (x7 : Int32) (x8 : Int32) (H : Heap) (locs : List Loc) (ls : Array Slot), ez_S X B s.heap (σ0.length) σ H locs → k_51 σ h0 x3 x4 x6 x7 x8 = some z → lv_has ls 9 [(0, .ref (B + h0)), (3, .int x3), (4, .int x4), (6, .int x6), (7, .int x7), (8, .int x8)] → W p l e R s m args below meth c H locs 0 0 Q (F0 m 51 ls [])), ∀ (σ : ez_H) (h0 : Nat) (x3 : Int32) (x4 : Int32) (x6 : Int32) (x7 : Int32) (x8 : Int32) (H : Heap) (locs : List Loc) (ls : Array Slot), ez_S X B s.heap (σ0.length) σ H locs → z_X6_nth_51 k_38 k_51 σ h0 x3 x4 x6 x7 x8 = some z → lv_has ls 9 [(0, .ref (B + h0)), (3, .int x3), (4, .int x4), (6, .int x6), (7, .int x7), (8, .int x8)] → W p l e R s m args below meth c H locs 0 0 Q (F0 m 51 ls []) := by
    intro k_38 hk_38 k_51 hk_51 σ h0 x3 x4 x6 x7 x8 H locs ls hS h hl
    refine lv_iload hx hb dX6_nth_51 (lv_at hl 5 rfl) ?_
    refine lv_iload hx hb dX6_nth_53 (lv_at hl 3 rfl) ?_
    refine lv_icmp_ge (tgt := 87) hx hb dX6_nth_55 (by decide) (fun c_55 => ?_) (fun c_55 => ?_)
    · replace h := ez_ifp h c_55
      exact K_87 k_38 hk_38 σ h0 x3 x4 x7 x8 _ _ _ hS h (lv_sub hl [0, 1, 2, 4, 5] rfl)
    · replace h := ez_ifn h c_55
      refine lv_iload_n hx hb dX6_nth_58 rfl (lv_at hl 1 rfl) ?_
      refine lv_aload_n hx hb dX6_nth_59 rfl (lv_at hl 0 rfl) ?_
      refine lv_iload hx hb dX6_nth_60 (lv_at hl 4 rfl) ?_
      refine lv_iload hx hb dX6_nth_62 (lv_at hl 5 rfl) ?_
      refine ez_cVpi (As := [.int x7, .int x8]) (rest := [.int x3]) h (fun _ q => c_X6_onwardAt q) hC k_X6_onwardAt ql_RX6_79 rfl (by decide) hS (fun _ q => ez_rcv q) rfl hl.1 rfl (Nat.le_of_ble_eq_true rfl) ⟨Nat.zero_le _, Nat.zero_le _⟩ dX6_nth_64 (fun t_64 H locs hS h => ?_)
      refine lv_icmp_lt (tgt := 87) hx hb dX6_nth_67 (by decide) (fun c_67 => ?_) (fun c_67 => ?_)
      · replace h := ez_ifp h c_67
        exact K_87 k_38 hk_38 σ h0 x3 x4 x7 x8 _ _ _ hS h (lv_sub hl [0, 1, 2, 4, 5] rfl)
      · replace h := ez_ifn h c_67
        refine lv_iload_n hx hb dX6_nth_70 rfl (lv_at hl 1 rfl) ?_
        refine lv_aload_n hx hb dX6_nth_71 rfl (lv_at hl 0 rfl) ?_
        refine lv_iload hx hb dX6_nth_72 (lv_at hl 4 rfl) ?_
        refine lv_iload hx hb dX6_nth_74 (lv_at hl 5 rfl) ?_
        refine ez_cVpi (As := [.int x7, .int x8]) (rest := [.int x3]) h (fun _ q => c_X6_onwardAt q) hC k_X6_onwardAt ql_RX6_79 rfl (by decide) hS (fun _ q => ez_rcv q) rfl hl.1 rfl (Nat.le_of_ble_eq_true rfl) ⟨Nat.zero_le _, Nat.zero_le _⟩ dX6_nth_76 (fun t_76 H locs hS h => ?_)
        refine lv_isub hx hb dX6_nth_79 ?_
        refine ez_top h (fun t_79 h => ?_)
        refine lv_istore_n (lv' := [(3, .int t_79), (0, .ref (B + h0)), (4, .int x4), (6, .int x6), (7, .int x7), (8, .int x8)]) hx hb dX6_nth_80 rfl hl (by decide) rfl (fun ls hl => ?_)
        obtain ⟨t_81, e_81, h⟩ := ez_let_sp h
        refine lv_iinc (v := t_81) (lv' := [(8, .int t_81), (3, .int t_79), (0, .ref (B + h0)), (4, .int x4), (6, .int x6), (7, .int x7)]) hx hb dX6_nth_81 hl (k := 5) rfl (by rw [e_81]; rfl) (by decide) rfl (fun ls hl => ?_)
        refine lv_goto (tgt := 51) hx hb dX6_nth_84 (by decide) ?_
        exact hk_51 σ h0 t_79 x4 x6 x7 t_81 _ _ _ hS h (lv_sub hl [2, 1, 3, 4, 5, 0] rfl)
  have E_51 : ∀ (k_38 : ez_H → Nat → Int32 → Int32 → Int32 → Int32 → Int32 → Option (Int32 × ez_H)) (hk_38 : ∀ (σ : ez_H) (h0 : Nat) (x3 : Int32) (x4 : Int32) (x5 : Int32) (x6 : Int32) (x7 : Int32) (H : Heap) (locs : List Loc) (ls : Array Slot), ez_S X B s.heap (σ0.length) σ H locs → k_38 σ h0 x3 x4 x5 x6 x7 = some z → lv_has ls 9 [(0, .ref (B + h0)), (3, .int x3), (4, .int x4), (5, .int x5), (6, .int x6), (7, .int x7)] → W p l e R s m args below meth c H locs 0 0 Q (F0 m 38 ls [])), ∀ (σ : ez_H) (h0 : Nat) (x3 : Int32) (x4 : Int32) (x6 : Int32) (x7 : Int32) (x8 : Int32) (H : Heap) (locs : List Loc) (ls : Array Slot), ez_S X B s.heap (σ0.length) σ H locs → (ez_fix (fun _ _ _ _ _ _ _ => none) (z_X6_nth_51 k_38) ez_N) σ h0 x3 x4 x6 x7 x8 = some z → lv_has ls 9 [(0, .ref (B + h0)), (3, .int x3), (4, .int x4), (6, .int x6), (7, .int x7), (8, .int x8)] → W p l e R s m args below meth c H locs 0 0 Q (F0 m 51 ls []) := fun k_38 hk_38 => ez_fix_ind (fun k_51 : ez_H → Nat → Int32 → Int32 → Int32 → Int32 → Int32 → Option (Int32 × ez_H) => ∀ (σ : ez_H) (h0 : Nat) (x3 : Int32) (x4 : Int32) (x6 : Int32) (x7 : Int32) (x8 : Int32) (H : Heap) (locs : List Loc) (ls : Array Slot), ez_S X B s.heap (σ0.length) σ H locs → k_51 σ h0 x3 x4 x6 x7 x8 = some z → lv_has ls 9 [(0, .ref (B + h0)), (3, .int x3), (4, .int x4), (6, .int x6), (7, .int x7), (8, .int x8)] → W p l e R s m args below meth c H locs 0 0 Q (F0 m 51 ls [])) (fun _ _ _ _ _ _ _ _ _ _ _ h _ => by cases h) (fun k_51 hk_51 => K_51 k_38 hk_38 k_51 hk_51) ez_N
  have K_38 : ∀ (k_38 : ez_H → Nat → Int32 → Int32 → Int32 → Int32 → Int32 → Option (Int32 × ez_H)) (hk_38 : ∀ (σ : ez_H) (h0 : Nat) (x3 : Int32) (x4 : Int32) (x5 : Int32) (x6 : Int32) (x7 : Int32) (H : Heap) (locs : List Loc) (ls : Array Slot), ez_S X B s.heap (σ0.length) σ H locs → k_38 σ h0 x3 x4 x5 x6 x7 = some z → lv_has ls 9 [(0, .ref (B + h0)), (3, .int x3), (4, .int x4), (5, .int x5), (6, .int x6), (7, .int x7)] → W p l e R s m args below meth c H locs 0 0 Q (F0 m 38 ls [])), ∀ (σ : ez_H) (h0 : Nat) (x3 : Int32) (x4 : Int32) (x5 : Int32) (x6 : Int32) (x7 : Int32) (H : Heap) (locs : List Loc) (ls : Array Slot), ez_S X B s.heap (σ0.length) σ H locs → z_X6_nth_38 k_38 σ h0 x3 x4 x5 x6 x7 = some z → lv_has ls 9 [(0, .ref (B + h0)), (3, .int x3), (4, .int x4), (5, .int x5), (6, .int x6), (7, .int x7)] → W p l e R s m args below meth c H locs 0 0 Q (F0 m 38 ls []) := by
    intro k_38 hk_38 σ h0 x3 x4 x5 x6 x7 H locs ls hS h hl
    refine lv_iload hx hb dX6_nth_38 (lv_at hl 5 rfl) ?_
    refine lv_aload_n hx hb dX6_nth_40 rfl (lv_at hl 0 rfl) ?_
    refine eg_RX6_18 hC hS h dX6_nth_41 (fun t_41 h => ?_)
    refine lv_icmp_ge (tgt := 121) hx hb dX6_nth_44 (by decide) (fun c_44 => ?_) (fun c_44 => ?_)
    · replace h := ez_ifp h c_44
      refine lv_iload hx hb dX6_nth_121 (lv_at hl 2 rfl) ?_
      exact hret _ _ _ _ _ _ (Option.some.inj h) rfl hS dX6_nth_123
    · replace h := ez_ifn h c_44
      refine lv_iload hx hb dX6_nth_47 (lv_at hl 3 rfl) ?_
      refine lv_istore (lv' := [(8, .int x5), (0, .ref (B + h0)), (3, .int x3), (4, .int x4), (5, .int x5), (6, .int x6), (7, .int x7)]) hx hb dX6_nth_49 hl (by decide) rfl (fun ls hl => ?_)
      exact E_51 k_38 hk_38 σ h0 x3 x4 x6 x7 x5 _ _ _ hS h (lv_sub hl [1, 2, 3, 5, 6, 0] rfl)
  have E_38 : ∀ (σ : ez_H) (h0 : Nat) (x3 : Int32) (x4 : Int32) (x5 : Int32) (x6 : Int32) (x7 : Int32) (H : Heap) (locs : List Loc) (ls : Array Slot), ez_S X B s.heap (σ0.length) σ H locs → (ez_fix (fun _ _ _ _ _ _ _ => none) (z_X6_nth_38) ez_N) σ h0 x3 x4 x5 x6 x7 = some z → lv_has ls 9 [(0, .ref (B + h0)), (3, .int x3), (4, .int x4), (5, .int x5), (6, .int x6), (7, .int x7)] → W p l e R s m args below meth c H locs 0 0 Q (F0 m 38 ls []) := ez_fix_ind (fun k_38 : ez_H → Nat → Int32 → Int32 → Int32 → Int32 → Int32 → Option (Int32 × ez_H) => ∀ (σ : ez_H) (h0 : Nat) (x3 : Int32) (x4 : Int32) (x5 : Int32) (x6 : Int32) (x7 : Int32) (H : Heap) (locs : List Loc) (ls : Array Slot), ez_S X B s.heap (σ0.length) σ H locs → k_38 σ h0 x3 x4 x5 x6 x7 = some z → lv_has ls 9 [(0, .ref (B + h0)), (3, .int x3), (4, .int x4), (5, .int x5), (6, .int x6), (7, .int x7)] → W p l e R s m args below meth c H locs 0 0 Q (F0 m 38 ls [])) (fun _ _ _ _ _ _ _ _ _ _ _ h _ => by cases h) (fun k_38 hk_38 => K_38 k_38 hk_38) ez_N
  refine lv_iload_n hx hb dX6_nth_0 rfl (lv_at hl 2 rfl) ?_
  refine lv_if_lt (tgt := 17) hx hb dX6_nth_1 (by decide) (fun c_1 => ?_) (fun c_1 => ?_)
  · replace h := ez_ifp h c_1
    exact K_17  σ _ _ _ hS h (lv_sub hl [] rfl)
  · replace h := ez_ifn h c_1
    refine lv_iload_n hx hb dX6_nth_4 rfl (lv_at hl 2 rfl) ?_
    refine lv_aload_n hx hb dX6_nth_5 rfl (lv_at hl 0 rfl) ?_
    refine lv_iload_n hx hb dX6_nth_6 rfl (lv_at hl 1 rfl) ?_
    refine lv_aload_n hx hb dX6_nth_7 rfl (lv_at hl 0 rfl) ?_
    refine eg_RX6_25 hC hS h dX6_nth_8 (fun t_8 h => ?_)
    refine ez_cVi (As := [.int x1, .int t_8]) (rest := [.int x2]) h (fun _ q => c_X6_howMany q) hC k_X6_howMany ql_RX6_82 rfl (by decide) hS (fun _ q => ez_rcv q) rfl hl.1 rfl (Nat.le_of_ble_eq_true rfl) ⟨Nat.zero_le _, Nat.zero_le _⟩ dX6_nth_11 (fun t_11 σ H locs hS h => ?_)
    refine lv_icmp_lt (tgt := 19) hx hb dX6_nth_14 (by decide) (fun c_14 => ?_) (fun c_14 => ?_)
    · replace h := ez_ifp h c_14
      refine lv_iload_n hx hb dX6_nth_19 rfl (lv_at hl 2 rfl) ?_
      refine lv_istore_n (lv' := [(3, .int x2), (0, .ref (B + h0)), (1, .int x1), (2, .int x2)]) hx hb dX6_nth_20 rfl hl (by decide) rfl (fun ls hl => ?_)
      refine lv_iconst (v := 0) hx hb dX6_nth_21 (by decide) ?_
      refine lv_istore (lv' := [(4, .int 0), (3, .int x2), (0, .ref (B + h0)), (1, .int x1), (2, .int x2)]) hx hb dX6_nth_22 hl (by decide) rfl (fun ls hl => ?_)
      refine lv_iconst (v := 0) hx hb dX6_nth_24 (by decide) ?_
      refine lv_istore (lv' := [(5, .int 0), (4, .int 0), (3, .int x2), (0, .ref (B + h0)), (1, .int x1), (2, .int x2)]) hx hb dX6_nth_25 hl (by decide) rfl (fun ls hl => ?_)
      refine lv_aload_n hx hb dX6_nth_27 rfl (lv_at hl 3 rfl) ?_
      refine eg_RX6_22 hC hS h dX6_nth_28 (fun t_28 h => ?_)
      refine lv_iconst (v := 1) hx hb dX6_nth_31 (by decide) ?_
      refine lv_isub hx hb dX6_nth_32 ?_
      refine ez_top h (fun t_32 h => ?_)
      refine lv_istore (lv' := [(6, .int t_32), (5, .int 0), (4, .int 0), (3, .int x2), (0, .ref (B + h0)), (1, .int x1), (2, .int x2)]) hx hb dX6_nth_33 hl (by decide) rfl (fun ls hl => ?_)
      refine lv_iconst (v := 0) hx hb dX6_nth_35 (by decide) ?_
      refine lv_istore (lv' := [(7, .int 0), (6, .int t_32), (5, .int 0), (4, .int 0), (3, .int x2), (0, .ref (B + h0)), (1, .int x1), (2, .int x2)]) hx hb dX6_nth_36 hl (by decide) rfl (fun ls hl => ?_)
      exact E_38  σ h0 x2 (0 : Int32) (0 : Int32) t_32 (0 : Int32) _ _ _ hS h (lv_sub hl [5, 4, 3, 2, 1, 0] rfl)
    · replace h := ez_ifn h c_14
      exact K_17  σ _ _ _ hS h (lv_sub hl [] rfl)
set_option maxHeartbeats 4000000 in
set_option maxRecDepth 100000 in
theorem c_J6_numberOfTrailingZeros_0f7a4 {l : Launch} {X : ez_X} {B : Nat} {σ : ez_H} {x0 : Int32} {z : Int32} (h : z_J6_numberOfTrailingZeros_0f7a4 σ x0 = some z) : ez_M l X B σ yJ6_numberOfTrailingZeros_0f7a4 cJ6_numberOfTrailingZeros_0f7a4 2 (some .int) 0 [.int x0] (some (.int z)) σ := by
  refine ez_startip (z := z) (by decide) (Nat.le_of_ble_eq_true rfl) (fun p e R s m args below meth c Q hC hret hS ls hl => ?_)
  have hC : ez_C p R s m args c X B RJ6 cJ6_numberOfTrailingZeros_0f7a4 2 0 := hC
  have hx := hC.1.1
  have hb := hC.1.2.1
  have hown := hC.1.2.2.2.1
  have hts := hC.1.2.2.2.2
  have hl : lv_has ls 2 [(0, .int x0)] := hl
  obtain ⟨n0, e0⟩ : ∃ n0 : Nat, n0 = σ.length := ⟨_, rfl⟩
  rw [← e0] at hret hS
  have K_74 : ∀ (x0 : Int32) (x1 : Int32) (H : Heap) (locs : List Loc) (ls : Array Slot), ez_S X B s.heap (n0) σ H locs → z_J6_numberOfTrailingZeros_0f7a4_74 σ x0 x1 = some z → lv_has ls 2 [(0, .int x0), (1, .int x1)] → W p l e R s m args below meth c H locs 0 0 Q (F0 m 74 ls []) := by
    intro x0 x1 H locs ls hS h hl
    refine lv_iload_n hx hb dJ6_numberOfTrailingZeros_0f7a4_74 rfl (lv_at hl 1 rfl) ?_
    refine lv_iload_n hx hb dJ6_numberOfTrailingZeros_0f7a4_75 rfl (lv_at hl 0 rfl) ?_
    refine lv_iconst (v := 1) hx hb dJ6_numberOfTrailingZeros_0f7a4_76 (by decide) ?_
    refine lv_iushr hx hb dJ6_numberOfTrailingZeros_0f7a4_77 rfl ?_
    refine ez_top h (fun t_77 h => ?_)
    refine lv_iadd hx hb dJ6_numberOfTrailingZeros_0f7a4_78 ?_
    refine ez_top h (fun t_78 h => ?_)
    exact hret _ _ _ _ _ (Option.some.inj h) rfl hS dJ6_numberOfTrailingZeros_0f7a4_79
  have K_62 : ∀ (x0 : Int32) (x1 : Int32) (H : Heap) (locs : List Loc) (ls : Array Slot), ez_S X B s.heap (n0) σ H locs → z_J6_numberOfTrailingZeros_0f7a4_62 σ x0 x1 = some z → lv_has ls 2 [(0, .int x0), (1, .int x1)] → W p l e R s m args below meth c H locs 0 0 Q (F0 m 62 ls []) := by
    intro x0 x1 H locs ls hS h hl
    refine lv_iload_n hx hb dJ6_numberOfTrailingZeros_0f7a4_62 rfl (lv_at hl 0 rfl) ?_
    refine lv_iconst (v := 4) hx hb dJ6_numberOfTrailingZeros_0f7a4_63 (by decide) ?_
    refine lv_icmp_le (tgt := 74) hx hb dJ6_numberOfTrailingZeros_0f7a4_64 (by decide) (fun c_64 => ?_) (fun c_64 => ?_)
    · replace h := ez_ifp h c_64
      exact K_74  x0 x1 _ _ _ hS h (lv_sub hl [0, 1] rfl)
    · replace h := ez_ifn h c_64
      obtain ⟨t_67, e_67, h⟩ := ez_let_sp h
      refine lv_iinc (v := t_67) (lv' := [(1, .int t_67), (0, .int x0)]) hx hb dJ6_numberOfTrailingZeros_0f7a4_67 hl (k := 1) rfl (by rw [e_67]; rfl) (by decide) rfl (fun ls hl => ?_)
      refine lv_iload_n hx hb dJ6_numberOfTrailingZeros_0f7a4_70 rfl (lv_at hl 1 rfl) ?_
      refine lv_iconst (v := 2) hx hb dJ6_numberOfTrailingZeros_0f7a4_71 (by decide) ?_
      refine lv_iushr hx hb dJ6_numberOfTrailingZeros_0f7a4_72 rfl ?_
      refine ez_top h (fun t_72 h => ?_)
      refine lv_istore_n (lv' := [(0, .int t_72), (1, .int t_67)]) hx hb dJ6_numberOfTrailingZeros_0f7a4_73 rfl hl (by decide) rfl (fun ls hl => ?_)
      exact K_74  t_72 t_67 _ _ _ hS h (lv_sub hl [0, 1] rfl)
  have K_49 : ∀ (x0 : Int32) (x1 : Int32) (H : Heap) (locs : List Loc) (ls : Array Slot), ez_S X B s.heap (n0) σ H locs → z_J6_numberOfTrailingZeros_0f7a4_49 σ x0 x1 = some z → lv_has ls 2 [(0, .int x0), (1, .int x1)] → W p l e R s m args below meth c H locs 0 0 Q (F0 m 49 ls []) := by
    intro x0 x1 H locs ls hS h hl
    refine lv_iload_n hx hb dJ6_numberOfTrailingZeros_0f7a4_49 rfl (lv_at hl 0 rfl) ?_
    refine lv_bipush (v := 16) hx hb dJ6_numberOfTrailingZeros_0f7a4_50 (by decide) ?_
    refine lv_icmp_le (tgt := 62) hx hb dJ6_numberOfTrailingZeros_0f7a4_52 (by decide) (fun c_52 => ?_) (fun c_52 => ?_)
    · replace h := ez_ifp h c_52
      exact K_62  x0 x1 _ _ _ hS h (lv_sub hl [0, 1] rfl)
    · replace h := ez_ifn h c_52
      obtain ⟨t_55, e_55, h⟩ := ez_let_sp h
      refine lv_iinc (v := t_55) (lv' := [(1, .int t_55), (0, .int x0)]) hx hb dJ6_numberOfTrailingZeros_0f7a4_55 hl (k := 1) rfl (by rw [e_55]; rfl) (by decide) rfl (fun ls hl => ?_)
      refine lv_iload_n hx hb dJ6_numberOfTrailingZeros_0f7a4_58 rfl (lv_at hl 1 rfl) ?_
      refine lv_iconst (v := 4) hx hb dJ6_numberOfTrailingZeros_0f7a4_59 (by decide) ?_
      refine lv_iushr hx hb dJ6_numberOfTrailingZeros_0f7a4_60 rfl ?_
      refine ez_top h (fun t_60 h => ?_)
      refine lv_istore_n (lv' := [(0, .int t_60), (1, .int t_55)]) hx hb dJ6_numberOfTrailingZeros_0f7a4_61 rfl hl (by decide) rfl (fun ls hl => ?_)
      exact K_62  t_60 t_55 _ _ _ hS h (lv_sub hl [0, 1] rfl)
  have K_34 : ∀ (x0 : Int32) (x1 : Int32) (H : Heap) (locs : List Loc) (ls : Array Slot), ez_S X B s.heap (n0) σ H locs → z_J6_numberOfTrailingZeros_0f7a4_34 σ x0 x1 = some z → lv_has ls 2 [(0, .int x0), (1, .int x1)] → W p l e R s m args below meth c H locs 0 0 Q (F0 m 34 ls []) := by
    intro x0 x1 H locs ls hS h hl
    refine lv_iload_n hx hb dJ6_numberOfTrailingZeros_0f7a4_34 rfl (lv_at hl 0 rfl) ?_
    refine lv_sipush (v := 256) hx hb dJ6_numberOfTrailingZeros_0f7a4_35 (by decide) ?_
    refine lv_icmp_le (tgt := 49) hx hb dJ6_numberOfTrailingZeros_0f7a4_38 (by decide) (fun c_38 => ?_) (fun c_38 => ?_)
    · replace h := ez_ifp h c_38
      exact K_49  x0 x1 _ _ _ hS h (lv_sub hl [0, 1] rfl)
    · replace h := ez_ifn h c_38
      obtain ⟨t_41, e_41, h⟩ := ez_let_sp h
      refine lv_iinc (v := t_41) (lv' := [(1, .int t_41), (0, .int x0)]) hx hb dJ6_numberOfTrailingZeros_0f7a4_41 hl (k := 1) rfl (by rw [e_41]; rfl) (by decide) rfl (fun ls hl => ?_)
      refine lv_iload_n hx hb dJ6_numberOfTrailingZeros_0f7a4_44 rfl (lv_at hl 1 rfl) ?_
      refine lv_bipush (v := 8) hx hb dJ6_numberOfTrailingZeros_0f7a4_45 (by decide) ?_
      refine lv_iushr hx hb dJ6_numberOfTrailingZeros_0f7a4_47 rfl ?_
      refine ez_top h (fun t_47 h => ?_)
      refine lv_istore_n (lv' := [(0, .int t_47), (1, .int t_41)]) hx hb dJ6_numberOfTrailingZeros_0f7a4_48 rfl hl (by decide) rfl (fun ls hl => ?_)
      exact K_49  t_47 t_41 _ _ _ hS h (lv_sub hl [0, 1] rfl)
  refine lv_iload_n hx hb dJ6_numberOfTrailingZeros_0f7a4_0 rfl (lv_at hl 0 rfl) ?_
  refine lv_iconst (v := -1) hx hb dJ6_numberOfTrailingZeros_0f7a4_1 (by decide) ?_
  refine lv_ixor hx hb dJ6_numberOfTrailingZeros_0f7a4_2 ?_
  refine ez_top h (fun t_2 h => ?_)
  refine lv_iload_n hx hb dJ6_numberOfTrailingZeros_0f7a4_3 rfl (lv_at hl 0 rfl) ?_
  refine lv_iconst (v := 1) hx hb dJ6_numberOfTrailingZeros_0f7a4_4 (by decide) ?_
  refine lv_isub hx hb dJ6_numberOfTrailingZeros_0f7a4_5 ?_
  refine ez_top h (fun t_5 h => ?_)
  refine lv_iand hx hb dJ6_numberOfTrailingZeros_0f7a4_6 ?_
  refine ez_top h (fun t_6 h => ?_)
  refine lv_istore_n (lv' := [(0, .int t_6)]) hx hb dJ6_numberOfTrailingZeros_0f7a4_7 rfl hl (by decide) rfl (fun ls hl => ?_)
  refine lv_iload_n hx hb dJ6_numberOfTrailingZeros_0f7a4_8 rfl (lv_at hl 0 rfl) ?_
  refine lv_if_gt (tgt := 17) hx hb dJ6_numberOfTrailingZeros_0f7a4_9 (by decide) (fun c_9 => ?_) (fun c_9 => ?_)
  · replace h := ez_ifp h c_9
    refine lv_iconst (v := 1) hx hb dJ6_numberOfTrailingZeros_0f7a4_17 (by decide) ?_
    refine lv_istore_n (lv' := [(1, .int 1), (0, .int t_6)]) hx hb dJ6_numberOfTrailingZeros_0f7a4_18 rfl hl (by decide) rfl (fun ls hl => ?_)
    refine lv_iload_n hx hb dJ6_numberOfTrailingZeros_0f7a4_19 rfl (lv_at hl 1 rfl) ?_
    refine lv_ldcw hx hb hown (hts _ qc_RJ6_264) dJ6_numberOfTrailingZeros_0f7a4_20 ?_
    refine lv_icmp_le (tgt := 34) hx hb dJ6_numberOfTrailingZeros_0f7a4_23 (by decide) (fun c_23 => ?_) (fun c_23 => ?_)
    · replace h := ez_ifp h c_23
      exact K_34  t_6 (1 : Int32) _ _ _ hS h (lv_sub hl [1, 0] rfl)
    · replace h := ez_ifn h c_23
      obtain ⟨t_26, e_26, h⟩ := ez_let_sp h
      refine lv_iinc (v := t_26) (lv' := [(1, .int t_26), (0, .int t_6)]) hx hb dJ6_numberOfTrailingZeros_0f7a4_26 hl (k := 0) rfl (by rw [e_26]; rfl) (by decide) rfl (fun ls hl => ?_)
      refine lv_iload_n hx hb dJ6_numberOfTrailingZeros_0f7a4_29 rfl (lv_at hl 1 rfl) ?_
      refine lv_bipush (v := 16) hx hb dJ6_numberOfTrailingZeros_0f7a4_30 (by decide) ?_
      refine lv_iushr hx hb dJ6_numberOfTrailingZeros_0f7a4_32 rfl ?_
      refine ez_top h (fun t_32 h => ?_)
      refine lv_istore_n (lv' := [(0, .int t_32), (1, .int t_26)]) hx hb dJ6_numberOfTrailingZeros_0f7a4_33 rfl hl (by decide) rfl (fun ls hl => ?_)
      exact K_34  t_32 t_26 _ _ _ hS h (lv_sub hl [0, 1] rfl)
  · replace h := ez_ifn h c_9
    refine lv_iload_n hx hb dJ6_numberOfTrailingZeros_0f7a4_12 rfl (lv_at hl 0 rfl) ?_
    refine lv_bipush (v := 32) hx hb dJ6_numberOfTrailingZeros_0f7a4_13 (by decide) ?_
    refine lv_iand hx hb dJ6_numberOfTrailingZeros_0f7a4_15 ?_
    refine ez_top h (fun t_15 h => ?_)
    exact hret _ _ _ _ _ (Option.some.inj h) rfl hS dJ6_numberOfTrailingZeros_0f7a4_16
set_option maxHeartbeats 4000000 in
set_option maxRecDepth 100000 in
theorem c_X6_depthAt {l : Launch} {X : ez_X} {B : Nat} {σ : ez_H} {h0 : Nat} {x1 : Int32} {x2 : Int32} {z : Int32} (h : z_X6_depthAt σ h0 x1 x2 = some z) : ez_M l X B σ yX6_depthAt cX6_depthAt 3 (some .int) 1 [.ref (B + h0), .int x1, .int x2] (some (.int z)) σ := by
  refine ez_startip (z := z) (by decide) (Nat.le_of_ble_eq_true rfl) (fun p e R s m args below meth c Q hC hret hS ls hl => ?_)
  have hC : ez_C p R s m args c X B RX6 cX6_depthAt 3 1 := hC
  have hx := hC.1.1
  have hb := hC.1.2.1
  have hown := hC.1.2.2.2.1
  have hts := hC.1.2.2.2.2
  have hl : lv_has ls 3 [(0, .ref (B + h0)), (1, .int x1), (2, .int x2)] := hl
  obtain ⟨n0, e0⟩ : ∃ n0 : Nat, n0 = σ.length := ⟨_, rfl⟩
  rw [← e0] at hret hS
  obtain ⟨-, h⟩ := ez_in h
  refine lv_iload_n hx hb dX6_depthAt_0 rfl (lv_at hl 1 rfl) ?_
  refine lv_iload_n hx hb dX6_depthAt_1 rfl (lv_at hl 2 rfl) ?_
  refine ez_cSpi (As := [.int x1, .int x2]) (rest := []) h (fun _ q => c_X6_depthsAt q) hC k_X6_depthsAt ql_RX6_28 rfl (by decide) hS hl.1 rfl (Nat.le_of_ble_eq_true rfl) ⟨Nat.zero_le _, Nat.zero_le _⟩ dX6_depthAt_2 (fun t_2 H locs hS h => ?_)
  refine ez_cSpi (As := [.int t_2]) (rest := []) h (fun _ q => c_J6_numberOfTrailingZeros_0f7a4 q) hC k_J6_numberOfTrailingZeros_0f7a4 ql_RX6_32 rfl (by decide) hS hl.1 rfl (Nat.le_of_ble_eq_true rfl) ⟨Nat.zero_le _, Nat.zero_le _⟩ dX6_depthAt_5 (fun t_5 H locs hS h => ?_)
  exact hret _ _ _ _ _ (Option.some.inj h) rfl hS dX6_depthAt_8
set_option maxHeartbeats 4000000 in
set_option maxRecDepth 100000 in
theorem c_X6_numberOf {l : Launch} {X : ez_X} {B : Nat} {σ : ez_H} {h0 : Nat} {x1 : Int32} {z : Int32} (h : z_X6_numberOf σ h0 x1 = some z) : ez_M l X B σ yX6_numberOf cX6_numberOf 4 (some .int) 2 [.ref (B + h0), .int x1] (some (.int z)) σ := by
  refine ez_startip (z := z) (by decide) (Nat.le_of_ble_eq_true rfl) (fun p e R s m args below meth c Q hC hret hS ls hl => ?_)
  have hC : ez_C p R s m args c X B RX6 cX6_numberOf 4 2 := hC
  have hx := hC.1.1
  have hb := hC.1.2.1
  have hown := hC.1.2.2.2.1
  have hts := hC.1.2.2.2.2
  have hl : lv_has ls 4 [(0, .ref (B + h0)), (1, .int x1)] := hl
  obtain ⟨n0, e0⟩ : ∃ n0 : Nat, n0 = σ.length := ⟨_, rfl⟩
  rw [← e0] at hret hS
  obtain ⟨-, h⟩ := ez_in h
  have K_10 : ∀ (k_10 : Nat → Int32 → Int32 → Int32 → Option (Int32)) (hk_10 : ∀ (h0 : Nat) (x1 : Int32) (x2 : Int32) (x3 : Int32) (H : Heap) (locs : List Loc) (ls : Array Slot), ez_S X B s.heap (n0) σ H locs → k_10 h0 x1 x2 x3 = some z → lv_has ls 4 [(0, .ref (B + h0)), (1, .int x1), (2, .int x2), (3, .int x3)] → W p l e R s m args below meth c H locs 0 0 Q (F0 m 10 ls [])), ∀ (h0 : Nat) (x1 : Int32) (x2 : Int32) (x3 : Int32) (H : Heap) (locs : List Loc) (ls : Array Slot), ez_S X B s.heap (n0) σ H locs → z_X6_numberOf_10 σ k_10 h0 x1 x2 x3 = some z → lv_has ls 4 [(0, .ref (B + h0)), (1, .int x1), (2, .int x2), (3, .int x3)] → W p l e R s m args below meth c H locs 0 0 Q (F0 m 10 ls []) := by
    intro k_10 hk_10 h0 x1 x2 x3 H locs ls hS h hl
    refine lv_iload_n hx hb dX6_numberOf_10 rfl (lv_at hl 3 rfl) ?_
    refine lv_aload_n hx hb dX6_numberOf_11 rfl (lv_at hl 0 rfl) ?_
    refine eg_RX6_18 hC hS h dX6_numberOf_12 (fun t_12 h => ?_)
    refine lv_icmp_ge (tgt := 38) hx hb dX6_numberOf_15 (by decide) (fun c_15 => ?_) (fun c_15 => ?_)
    · replace h := ez_ifp h c_15
      refine lv_iload_n hx hb dX6_numberOf_38 rfl (lv_at hl 2 rfl) ?_
      exact hret _ _ _ _ _ (Option.some.inj h) rfl hS dX6_numberOf_39
    · replace h := ez_ifn h c_15
      refine lv_iload_n hx hb dX6_numberOf_18 rfl (lv_at hl 2 rfl) ?_
      refine lv_aload_n hx hb dX6_numberOf_19 rfl (lv_at hl 0 rfl) ?_
      refine eg_RX6_22 hC hS h dX6_numberOf_20 (fun t_20 h => ?_)
      refine lv_imul hx hb dX6_numberOf_23 ?_
      refine ez_top h (fun t_23 h => ?_)
      refine lv_aload_n hx hb dX6_numberOf_24 rfl (lv_at hl 0 rfl) ?_
      refine lv_iload_n hx hb dX6_numberOf_25 rfl (lv_at hl 1 rfl) ?_
      refine lv_iload_n hx hb dX6_numberOf_26 rfl (lv_at hl 3 rfl) ?_
      refine ez_cVpi (As := [.int x1, .int x3]) (rest := [.int t_23]) h (fun _ q => c_X6_depthAt q) hC k_X6_depthAt ql_RX6_41 rfl (by decide) hS (fun _ q => ez_rcv q) rfl hl.1 rfl (Nat.le_of_ble_eq_true rfl) ⟨Nat.zero_le _, Nat.zero_le _⟩ dX6_numberOf_27 (fun t_27 H locs hS h => ?_)
      refine lv_iadd hx hb dX6_numberOf_30 ?_
      refine ez_top h (fun t_30 h => ?_)
      refine lv_istore_n (lv' := [(2, .int t_30), (0, .ref (B + h0)), (1, .int x1), (3, .int x3)]) hx hb dX6_numberOf_31 rfl hl (by decide) rfl (fun ls hl => ?_)
      obtain ⟨t_32, e_32, h⟩ := ez_let_sp h
      refine lv_iinc (v := t_32) (lv' := [(3, .int t_32), (2, .int t_30), (0, .ref (B + h0)), (1, .int x1)]) hx hb dX6_numberOf_32 hl (k := 3) rfl (by rw [e_32]; rfl) (by decide) rfl (fun ls hl => ?_)
      refine lv_goto (tgt := 10) hx hb dX6_numberOf_35 (by decide) ?_
      exact hk_10 h0 x1 t_30 t_32 _ _ _ hS h (lv_sub hl [2, 3, 1, 0] rfl)
  have E_10 : ∀ (h0 : Nat) (x1 : Int32) (x2 : Int32) (x3 : Int32) (H : Heap) (locs : List Loc) (ls : Array Slot), ez_S X B s.heap (n0) σ H locs → (ez_fix (fun _ _ _ _ => none) (z_X6_numberOf_10 σ) ez_N) h0 x1 x2 x3 = some z → lv_has ls 4 [(0, .ref (B + h0)), (1, .int x1), (2, .int x2), (3, .int x3)] → W p l e R s m args below meth c H locs 0 0 Q (F0 m 10 ls []) := ez_fix_ind (fun k_10 : Nat → Int32 → Int32 → Int32 → Option (Int32) => ∀ (h0 : Nat) (x1 : Int32) (x2 : Int32) (x3 : Int32) (H : Heap) (locs : List Loc) (ls : Array Slot), ez_S X B s.heap (n0) σ H locs → k_10 h0 x1 x2 x3 = some z → lv_has ls 4 [(0, .ref (B + h0)), (1, .int x1), (2, .int x2), (3, .int x3)] → W p l e R s m args below meth c H locs 0 0 Q (F0 m 10 ls [])) (fun _ _ _ _ _ _ _ _ h _ => by cases h) (fun k_10 hk_10 => K_10 k_10 hk_10) ez_N
  refine lv_iload_n hx hb dX6_numberOf_0 rfl (lv_at hl 1 rfl) ?_
  refine lv_if_ne (tgt := 6) hx hb dX6_numberOf_1 (by decide) (fun c_1 => ?_) (fun c_1 => ?_)
  · replace h := ez_ifn h c_1
    refine lv_iconst (v := 0) hx hb dX6_numberOf_6 (by decide) ?_
    refine lv_istore_n (lv' := [(2, .int 0), (0, .ref (B + h0)), (1, .int x1)]) hx hb dX6_numberOf_7 rfl hl (by decide) rfl (fun ls hl => ?_)
    refine lv_iconst (v := 0) hx hb dX6_numberOf_8 (by decide) ?_
    refine lv_istore_n (lv' := [(3, .int 0), (2, .int 0), (0, .ref (B + h0)), (1, .int x1)]) hx hb dX6_numberOf_9 rfl hl (by decide) rfl (fun ls hl => ?_)
    exact E_10  h0 x1 (0 : Int32) (0 : Int32) _ _ _ hS h (lv_sub hl [2, 3, 1, 0] rfl)
  · replace h := ez_ifp h c_1
    refine lv_iconst (v := -1) hx hb dX6_numberOf_4 (by decide) ?_
    exact hret _ _ _ _ _ (Option.some.inj h) rfl hS dX6_numberOf_5
set_option maxHeartbeats 4000000 in
set_option maxRecDepth 100000 in
theorem c_X11_bitting {l : Launch} {X : ez_X} {B : Nat} {σ : ez_H} {h0 : Nat} {x1 : Int32} {z : Int32 × ez_H} (h : z_X11_bitting σ h0 x1 = some z) : ez_M l X B σ yX11_bitting cX11_bitting 2 (some .int) 4 [.ref (B + h0), .int x1] (some (.int z.1)) z.2 := by
  refine ez_starti (z := z) (by decide) (Nat.le_of_ble_eq_true rfl) (fun p e R s m args below meth c Q hC hret hS ls hl => ?_)
  have hC : ez_C p R s m args c X B RX11 cX11_bitting 2 4 := hC
  have hx := hC.1.1
  have hb := hC.1.2.1
  have hown := hC.1.2.2.2.1
  have hts := hC.1.2.2.2.2
  have hl : lv_has ls 2 [(0, .ref (B + h0)), (1, .int x1)] := hl
  obtain ⟨σ0, eσ⟩ : ∃ σ0 : ez_H, σ0 = σ := ⟨_, rfl⟩
  rw [← eσ] at hret
  have hS : ez_S X B s.heap σ0.length σ s.heap [] := eσ ▸ hS
  obtain ⟨-, h⟩ := ez_in h
  refine lv_aload_n hx hb dX11_bitting_0 rfl (lv_at hl 0 rfl) ?_
  refine eg_RX11_37 hC hS h dX11_bitting_1 (fun t_1 h => ?_)
  refine lv_aload_n hx hb dX11_bitting_4 rfl (lv_at hl 0 rfl) ?_
  refine eg_RX11_37 hC hS h dX11_bitting_5 (fun t_5 h => ?_)
  refine lv_aload_n hx hb dX11_bitting_8 rfl (lv_at hl 0 rfl) ?_
  refine eg_RX11_37 hC hS h dX11_bitting_9 (fun t_9 h => ?_)
  refine ez_cVpi (As := []) (rest := [.ref (B + t_5), .ref (B + t_1)]) h (fun _ q => c_X6_everything q) hC k_X6_everything ql_RX11_301 rfl (by decide) hS (fun _ q => ez_rcv q) rfl hl.1 rfl (Nat.le_of_ble_eq_true rfl) ⟨Nat.zero_le _, Nat.zero_le _⟩ dX11_bitting_12 (fun t_12 H locs hS h => ?_)
  refine lv_iload_n hx hb dX11_bitting_15 rfl (lv_at hl 1 rfl) ?_
  refine ez_cVi (As := [.int t_12, .int x1]) (rest := [.ref (B + t_1)]) h (fun _ q => c_X6_nth q) hC k_X6_nth ql_RX11_310 rfl (by decide) hS (fun _ q => ez_rcv q) rfl hl.1 rfl (Nat.le_of_ble_eq_true rfl) ⟨Nat.zero_le _, Nat.zero_le _⟩ dX11_bitting_16 (fun t_16 σ H locs hS h => ?_)
  refine ez_cVpi (As := [.int t_16]) (rest := []) h (fun _ q => c_X6_numberOf q) hC k_X6_numberOf ql_RX11_144 rfl (by decide) hS (fun _ q => ez_rcv q) rfl hl.1 rfl (Nat.le_of_ble_eq_true rfl) ⟨Nat.zero_le _, Nat.zero_le _⟩ dX11_bitting_19 (fun t_19 H locs hS h => ?_)
  exact hret _ _ _ _ _ _ (Option.some.inj h) rfl hS dX11_bitting_22
set_option maxHeartbeats 4000000 in
set_option maxRecDepth 100000 in
theorem c_X3_allLocks {l : Launch} {X : ez_X} {B : Nat} {σ : ez_H} {h0 : Nat} {z : Int32} (h : z_X3_allLocks σ h0 = some z) : ez_M l X B σ yX3_allLocks cX3_allLocks 1 (some .int) 0 [.ref (B + h0)] (some (.int z)) σ := by
  refine ez_startip (z := z) (by decide) (Nat.le_of_ble_eq_true rfl) (fun p e R s m args below meth c Q hC hret hS ls hl => ?_)
  have hC : ez_C p R s m args c X B RX3 cX3_allLocks 1 0 := hC
  have hx := hC.1.1
  have hb := hC.1.2.1
  have hown := hC.1.2.2.2.1
  have hts := hC.1.2.2.2.2
  have hl : lv_has ls 1 [(0, .ref (B + h0))] := hl
  obtain ⟨n0, e0⟩ : ∃ n0 : Nat, n0 = σ.length := ⟨_, rfl⟩
  rw [← e0] at hret hS
  obtain ⟨-, h⟩ := ez_in h
  refine lv_iconst (v := 1) hx hb dX3_allLocks_0 (by decide) ?_
  refine lv_aload_n hx hb dX3_allLocks_1 rfl (lv_at hl 0 rfl) ?_
  refine eg_RX3_59 hC hS h dX3_allLocks_2 (fun t_2 h => ?_)
  refine lv_ishl hx hb dX3_allLocks_5 ?_
  refine ez_top h (fun t_5 h => ?_)
  refine lv_iconst (v := 1) hx hb dX3_allLocks_6 (by decide) ?_
  refine lv_isub hx hb dX3_allLocks_7 ?_
  refine ez_top h (fun t_7 h => ?_)
  exact hret _ _ _ _ _ (Option.some.inj h) rfl hS dX3_allLocks_8
set_option maxHeartbeats 4000000 in
set_option maxRecDepth 100000 in
theorem c_X11_blanks {l : Launch} {X : ez_X} {B : Nat} {σ : ez_H} {h0 : Nat} {z : Int32 × ez_H} (h : z_X11_blanks σ h0 = some z) : ez_M l X B σ yX11_blanks cX11_blanks 1 (some .int) 4 [.ref (B + h0)] (some (.int z.1)) z.2 := by
  refine ez_starti (z := z) (by decide) (Nat.le_of_ble_eq_true rfl) (fun p e R s m args below meth c Q hC hret hS ls hl => ?_)
  have hC : ez_C p R s m args c X B RX11 cX11_blanks 1 4 := hC
  have hx := hC.1.1
  have hb := hC.1.2.1
  have hown := hC.1.2.2.2.1
  have hts := hC.1.2.2.2.2
  have hl : lv_has ls 1 [(0, .ref (B + h0))] := hl
  obtain ⟨σ0, eσ⟩ : ∃ σ0 : ez_H, σ0 = σ := ⟨_, rfl⟩
  rw [← eσ] at hret
  have hS : ez_S X B s.heap σ0.length σ s.heap [] := eσ ▸ hS
  obtain ⟨-, h⟩ := ez_in h
  refine lv_aload_n hx hb dX11_blanks_0 rfl (lv_at hl 0 rfl) ?_
  refine eg_RX11_67 hC hS h dX11_blanks_1 (fun t_1 h => ?_)
  refine lv_aload_n hx hb dX11_blanks_4 rfl (lv_at hl 0 rfl) ?_
  refine eg_RX11_41 hC hS h dX11_blanks_5 (fun t_5 h => ?_)
  refine ez_cVv (As := [.ref (B + t_5)]) (rest := []) h (fun _ q => c_X8_take q) hC k_X8_take ql_RX11_325 rfl (by decide) hS (fun _ q => ez_rcv q) rfl hl.1 rfl (Nat.le_of_ble_eq_true rfl) ⟨Nat.zero_le _, Nat.zero_le _⟩ dX11_blanks_8 (fun _ σ H locs hS h => ?_)
  refine lv_aload_n hx hb dX11_blanks_11 rfl (lv_at hl 0 rfl) ?_
  refine eg_RX11_67 hC hS h dX11_blanks_12 (fun t_12 h => ?_)
  refine lv_iconst (v := 0) hx hb dX11_blanks_15 (by decide) ?_
  refine lv_aload_n hx hb dX11_blanks_16 rfl (lv_at hl 0 rfl) ?_
  refine eg_RX11_29 hC hS h dX11_blanks_17 (fun t_17 h => ?_)
  refine ez_cVpi (As := []) (rest := [.int 0, .ref (B + t_12)]) h (fun _ q => c_X3_allLocks q) hC k_X3_allLocks ql_RX11_383 rfl (by decide) hS (fun _ q => ez_rcv q) rfl hl.1 rfl (Nat.le_of_ble_eq_true rfl) ⟨Nat.zero_le _, Nat.zero_le _⟩ dX11_blanks_20 (fun t_20 H locs hS h => ?_)
  refine ez_cVpi (As := [.int 0, .int t_20]) (rest := []) h (fun _ q => c_X8_total q) hC k_X8_total ql_RX11_328 rfl (by decide) hS (fun _ q => ez_rcv q) rfl hl.1 rfl (Nat.le_of_ble_eq_true rfl) ⟨Nat.zero_le _, Nat.zero_le _⟩ dX11_blanks_23 (fun t_23 H locs hS h => ?_)
  exact hret _ _ _ _ _ _ (Option.some.inj h) rfl hS dX11_blanks_26
set_option maxHeartbeats 4000000 in
set_option maxRecDepth 100000 in
theorem c_X6_fillUp {l : Launch} {X : ez_X} {B : Nat} {σ : ez_H} {h0 : Nat} {x1 : Int32} {x2 : Int32} {x3 : Int32} {z : Int32} (h : z_X6_fillUp σ h0 x1 x2 x3 = some z) : ez_M l X B σ yX6_fillUp cX6_fillUp 7 (some .int) 2 [.ref (B + h0), .int x1, .int x2, .int x3] (some (.int z)) σ := by
  refine ez_startip (z := z) (by decide) (Nat.le_of_ble_eq_true rfl) (fun p e R s m args below meth c Q hC hret hS ls hl => ?_)
  have hC : ez_C p R s m args c X B RX6 cX6_fillUp 7 2 := hC
  have hx := hC.1.1
  have hb := hC.1.2.1
  have hown := hC.1.2.2.2.1
  have hts := hC.1.2.2.2.2
  have hl : lv_has ls 7 [(0, .ref (B + h0)), (1, .int x1), (2, .int x2), (3, .int x3)] := hl
  obtain ⟨n0, e0⟩ : ∃ n0 : Nat, n0 = σ.length := ⟨_, rfl⟩
  rw [← e0] at hret hS
  obtain ⟨-, h⟩ := ez_in h
  have K_9 : ∀ (k_9 : Nat → Int32 → Int32 → Int32 → Option (Int32)) (hk_9 : ∀ (h0 : Nat) (x4 : Int32) (x5 : Int32) (x6 : Int32) (H : Heap) (locs : List Loc) (ls : Array Slot), ez_S X B s.heap (n0) σ H locs → k_9 h0 x4 x5 x6 = some z → lv_has ls 7 [(0, .ref (B + h0)), (4, .int x4), (5, .int x5), (6, .int x6)] → W p l e R s m args below meth c H locs 0 0 Q (F0 m 9 ls [])), ∀ (h0 : Nat) (x4 : Int32) (x5 : Int32) (x6 : Int32) (H : Heap) (locs : List Loc) (ls : Array Slot), ez_S X B s.heap (n0) σ H locs → z_X6_fillUp_9 σ k_9 h0 x4 x5 x6 = some z → lv_has ls 7 [(0, .ref (B + h0)), (4, .int x4), (5, .int x5), (6, .int x6)] → W p l e R s m args below meth c H locs 0 0 Q (F0 m 9 ls []) := by
    intro k_9 hk_9 h0 x4 x5 x6 H locs ls hS h hl
    refine lv_iload hx hb dX6_fillUp_9 (lv_at hl 3 rfl) ?_
    refine lv_aload_n hx hb dX6_fillUp_11 rfl (lv_at hl 0 rfl) ?_
    refine eg_RX6_18 hC hS h dX6_fillUp_12 (fun t_12 h => ?_)
    refine lv_icmp_ge (tgt := 44) hx hb dX6_fillUp_15 (by decide) (fun c_15 => ?_) (fun c_15 => ?_)
    · replace h := ez_ifp h c_15
      refine lv_iload hx hb dX6_fillUp_44 (lv_at hl 1 rfl) ?_
      exact hret _ _ _ _ _ (Option.some.inj h) rfl hS dX6_fillUp_46
    · replace h := ez_ifn h c_15
      refine lv_aload_n hx hb dX6_fillUp_18 rfl (lv_at hl 0 rfl) ?_
      refine lv_iload hx hb dX6_fillUp_19 (lv_at hl 2 rfl) ?_
      refine ez_cVpi (As := [.int x5]) (rest := []) h (fun _ q => c_X6_lowest q) hC k_X6_lowest ql_RX6_66 rfl (by decide) hS (fun _ q => ez_rcv q) rfl hl.1 rfl (Nat.le_of_ble_eq_true rfl) ⟨Nat.zero_le _, Nat.zero_le _⟩ dX6_fillUp_21 (fun t_21 H locs hS h => ?_)
      refine lv_istore (lv' := [(5, .int t_21), (0, .ref (B + h0)), (4, .int x4), (6, .int x6)]) hx hb dX6_fillUp_24 hl (by decide) rfl (fun ls hl => ?_)
      refine lv_iload hx hb dX6_fillUp_26 (lv_at hl 2 rfl) ?_
      refine lv_iload hx hb dX6_fillUp_28 (lv_at hl 3 rfl) ?_
      refine lv_iload hx hb dX6_fillUp_30 (lv_at hl 0 rfl) ?_
      refine ez_cSpi (As := [.int x6, .int t_21]) (rest := [.int x4]) h (fun _ q => c_X6_notch q) hC k_X6_notch ql_RX6_44 rfl (by decide) hS hl.1 rfl (Nat.le_of_ble_eq_true rfl) ⟨Nat.zero_le _, Nat.zero_le _⟩ dX6_fillUp_32 (fun t_32 H locs hS h => ?_)
      refine lv_ior hx hb dX6_fillUp_35 ?_
      refine ez_top h (fun t_35 h => ?_)
      refine lv_istore (lv' := [(4, .int t_35), (5, .int t_21), (0, .ref (B + h0)), (6, .int x6)]) hx hb dX6_fillUp_36 hl (by decide) rfl (fun ls hl => ?_)
      obtain ⟨t_38, e_38, h⟩ := ez_let_sp h
      refine lv_iinc (v := t_38) (lv' := [(6, .int t_38), (4, .int t_35), (5, .int t_21), (0, .ref (B + h0))]) hx hb dX6_fillUp_38 hl (k := 3) rfl (by rw [e_38]; rfl) (by decide) rfl (fun ls hl => ?_)
      refine lv_goto (tgt := 9) hx hb dX6_fillUp_41 (by decide) ?_
      exact hk_9 h0 t_35 t_21 t_38 _ _ _ hS h (lv_sub hl [3, 1, 2, 0] rfl)
  have E_9 : ∀ (h0 : Nat) (x4 : Int32) (x5 : Int32) (x6 : Int32) (H : Heap) (locs : List Loc) (ls : Array Slot), ez_S X B s.heap (n0) σ H locs → (ez_fix (fun _ _ _ _ => none) (z_X6_fillUp_9 σ) ez_N) h0 x4 x5 x6 = some z → lv_has ls 7 [(0, .ref (B + h0)), (4, .int x4), (5, .int x5), (6, .int x6)] → W p l e R s m args below meth c H locs 0 0 Q (F0 m 9 ls []) := ez_fix_ind (fun k_9 : Nat → Int32 → Int32 → Int32 → Option (Int32) => ∀ (h0 : Nat) (x4 : Int32) (x5 : Int32) (x6 : Int32) (H : Heap) (locs : List Loc) (ls : Array Slot), ez_S X B s.heap (n0) σ H locs → k_9 h0 x4 x5 x6 = some z → lv_has ls 7 [(0, .ref (B + h0)), (4, .int x4), (5, .int x5), (6, .int x6)] → W p l e R s m args below meth c H locs 0 0 Q (F0 m 9 ls [])) (fun _ _ _ _ _ _ _ _ h _ => by cases h) (fun k_9 hk_9 => K_9 k_9 hk_9) ez_N
  refine lv_iload_n hx hb dX6_fillUp_0 rfl (lv_at hl 1 rfl) ?_
  refine lv_istore (lv' := [(4, .int x1), (0, .ref (B + h0)), (1, .int x1), (2, .int x2), (3, .int x3)]) hx hb dX6_fillUp_1 hl (by decide) rfl (fun ls hl => ?_)
  refine lv_iload_n hx hb dX6_fillUp_3 rfl (lv_at hl 4 rfl) ?_
  refine lv_istore (lv' := [(5, .int x3), (4, .int x1), (0, .ref (B + h0)), (1, .int x1), (2, .int x2), (3, .int x3)]) hx hb dX6_fillUp_4 hl (by decide) rfl (fun ls hl => ?_)
  refine lv_iload_n hx hb dX6_fillUp_6 rfl (lv_at hl 4 rfl) ?_
  refine lv_istore (lv' := [(6, .int x2), (5, .int x3), (4, .int x1), (0, .ref (B + h0)), (1, .int x1), (2, .int x2), (3, .int x3)]) hx hb dX6_fillUp_7 hl (by decide) rfl (fun ls hl => ?_)
  exact E_9  h0 x1 x3 x2 _ _ _ hS h (lv_sub hl [3, 2, 1, 0] rfl)
set_option maxHeartbeats 4000000 in
set_option maxRecDepth 100000 in
theorem c_X6_least {l : Launch} {X : ez_X} {B : Nat} {σ : ez_H} {h0 : Nat} {z : Int32} (h : z_X6_least σ h0 = some z) : ez_M l X B σ yX6_least cX6_least 1 (some .int) 3 [.ref (B + h0)] (some (.int z)) σ := by
  refine ez_startip (z := z) (by decide) (Nat.le_of_ble_eq_true rfl) (fun p e R s m args below meth c Q hC hret hS ls hl => ?_)
  have hC : ez_C p R s m args c X B RX6 cX6_least 1 3 := hC
  have hx := hC.1.1
  have hb := hC.1.2.1
  have hown := hC.1.2.2.2.1
  have hts := hC.1.2.2.2.2
  have hl : lv_has ls 1 [(0, .ref (B + h0))] := hl
  obtain ⟨n0, e0⟩ : ∃ n0 : Nat, n0 = σ.length := ⟨_, rfl⟩
  rw [← e0] at hret hS
  obtain ⟨-, h⟩ := ez_in h
  refine lv_aload_n hx hb dX6_least_0 rfl (lv_at hl 0 rfl) ?_
  refine lv_iconst (v := 0) hx hb dX6_least_1 (by decide) ?_
  refine lv_iconst (v := 0) hx hb dX6_least_2 (by decide) ?_
  refine lv_iconst (v := 0) hx hb dX6_least_3 (by decide) ?_
  refine ez_cVpi (As := [.int 0, .int 0, .int 0]) (rest := []) h (fun _ q => c_X6_fillUp q) hC k_X6_fillUp ql_RX6_62 rfl (by decide) hS (fun _ q => ez_rcv q) rfl hl.1 rfl (Nat.le_of_ble_eq_true rfl) ⟨Nat.zero_le _, Nat.zero_le _⟩ dX6_least_4 (fun t_4 H locs hS h => ?_)
  exact hret _ _ _ _ _ (Option.some.inj h) rfl hS dX6_least_7
set_option maxHeartbeats 4000000 in
set_option maxRecDepth 100000 in
theorem c_X11_differsFromAll {l : Launch} {X : ez_X} {B : Nat} {σ : ez_H} {h0 : Nat} {x1 : Int32} {x2 : Int32} {z : Int32} (h : z_X11_differsFromAll σ h0 x1 x2 = some z) : ez_M l X B σ yX11_differsFromAll cX11_differsFromAll 4 (some .boolean) 1 [.ref (B + h0), .int x1, .int x2] (some (.int z)) σ := by
  refine ez_startip (z := z) (by decide) (Nat.le_of_ble_eq_true rfl) (fun p e R s m args below meth c Q hC hret hS ls hl => ?_)
  have hC : ez_C p R s m args c X B RX11 cX11_differsFromAll 4 1 := hC
  have hx := hC.1.1
  have hb := hC.1.2.1
  have hown := hC.1.2.2.2.1
  have hts := hC.1.2.2.2.2
  have hl : lv_has ls 4 [(0, .ref (B + h0)), (1, .int x1), (2, .int x2)] := hl
  obtain ⟨n0, e0⟩ : ∃ n0 : Nat, n0 = σ.length := ⟨_, rfl⟩
  rw [← e0] at hret hS
  obtain ⟨-, h⟩ := ez_in h
  have K_44 : ∀ (H : Heap) (locs : List Loc) (ls : Array Slot), ez_S X B s.heap (n0) σ H locs → z_X11_differsFromAll_44 σ = some z → lv_has ls 4 [] → W p l e R s m args below meth c H locs 0 0 Q (F0 m 44 ls []) := by
    intro  H locs ls hS h hl
    refine lv_iconst (v := 1) hx hb dX11_differsFromAll_44 (by decide) ?_
    have hn : narrow .boolean (.int 1) = .int 1 := by decide
    exact hret _ _ _ _ _ (Option.some.inj h) hn hS dX11_differsFromAll_45
  have K_2 : ∀ (k_2 : Nat → Int32 → Int32 → Int32 → Option (Int32)) (hk_2 : ∀ (h0 : Nat) (x1 : Int32) (x2 : Int32) (x3 : Int32) (H : Heap) (locs : List Loc) (ls : Array Slot), ez_S X B s.heap (n0) σ H locs → k_2 h0 x1 x2 x3 = some z → lv_has ls 4 [(0, .ref (B + h0)), (1, .int x1), (2, .int x2), (3, .int x3)] → W p l e R s m args below meth c H locs 0 0 Q (F0 m 2 ls [])), ∀ (h0 : Nat) (x1 : Int32) (x2 : Int32) (x3 : Int32) (H : Heap) (locs : List Loc) (ls : Array Slot), ez_S X B s.heap (n0) σ H locs → z_X11_differsFromAll_2 σ k_2 h0 x1 x2 x3 = some z → lv_has ls 4 [(0, .ref (B + h0)), (1, .int x1), (2, .int x2), (3, .int x3)] → W p l e R s m args below meth c H locs 0 0 Q (F0 m 2 ls []) := by
    intro k_2 hk_2 h0 x1 x2 x3 H locs ls hS h hl
    refine lv_iload_n hx hb dX11_differsFromAll_2 rfl (lv_at hl 3 rfl) ?_
    refine lv_iload_n hx hb dX11_differsFromAll_3 rfl (lv_at hl 2 rfl) ?_
    refine lv_icmp_ge (tgt := 44) hx hb dX11_differsFromAll_4 (by decide) (fun c_4 => ?_) (fun c_4 => ?_)
    · replace h := ez_ifp h c_4
      exact K_44   _ _ _ hS h (lv_sub hl [] rfl)
    · replace h := ez_ifn h c_4
      refine lv_iload_n hx hb dX11_differsFromAll_7 rfl (lv_at hl 3 rfl) ?_
      refine lv_bipush (v := 60) hx hb dX11_differsFromAll_8 (by decide) ?_
      refine lv_icmp_ge (tgt := 44) hx hb dX11_differsFromAll_10 (by decide) (fun c_10 => ?_) (fun c_10 => ?_)
      · replace h := ez_ifp h c_10
        exact K_44   _ _ _ hS h (lv_sub hl [] rfl)
      · replace h := ez_ifn h c_10
        refine lv_iload_n hx hb dX11_differsFromAll_13 rfl (lv_at hl 1 rfl) ?_
        refine lv_aload_n hx hb dX11_differsFromAll_14 rfl (lv_at hl 0 rfl) ?_
        refine eg_RX11_97 hC hS h dX11_differsFromAll_15 (fun t_15 h => ?_)
        refine lv_iload_n hx hb dX11_differsFromAll_18 rfl (lv_at hl 3 rfl) ?_
        refine ez_ial hC hS h dX11_differsFromAll_19 (fun t_19 h => ?_)
        refine lv_iand hx hb dX11_differsFromAll_20 ?_
        refine ez_top h (fun t_20 h => ?_)
        refine ez_cSpi (As := [.int t_20]) (rest := []) h (fun _ q => c_J6_bitCount_0f7a4 q) hC k_J6_bitCount_0f7a4 ql_RX11_171 rfl (by decide) hS hl.1 rfl (Nat.le_of_ble_eq_true rfl) ⟨Nat.zero_le _, Nat.zero_le _⟩ dX11_differsFromAll_21 (fun t_21 H locs hS h => ?_)
        refine lv_aload_n hx hb dX11_differsFromAll_24 rfl (lv_at hl 0 rfl) ?_
        refine eg_RX11_37 hC hS h dX11_differsFromAll_25 (fun t_25 h => ?_)
        refine eg_RX11_243 hC hS h dX11_differsFromAll_28 (fun t_28 h => ?_)
        refine lv_iconst (v := 2) hx hb dX11_differsFromAll_31 (by decide) ?_
        refine lv_isub hx hb dX11_differsFromAll_32 ?_
        refine ez_top h (fun t_32 h => ?_)
        refine lv_icmp_le (tgt := 38) hx hb dX11_differsFromAll_33 (by decide) (fun c_33 => ?_) (fun c_33 => ?_)
        · replace h := ez_ifp h c_33
          obtain ⟨t_38, e_38, h⟩ := ez_let_sp h
          refine lv_iinc (v := t_38) (lv' := [(3, .int t_38), (0, .ref (B + h0)), (1, .int x1), (2, .int x2)]) hx hb dX11_differsFromAll_38 hl (k := 3) rfl (by rw [e_38]; rfl) (by decide) rfl (fun ls hl => ?_)
          refine lv_goto (tgt := 2) hx hb dX11_differsFromAll_41 (by decide) ?_
          exact hk_2 h0 x1 x2 t_38 _ _ _ hS h (lv_sub hl [1, 2, 3, 0] rfl)
        · replace h := ez_ifn h c_33
          refine lv_iconst (v := 0) hx hb dX11_differsFromAll_36 (by decide) ?_
          have hn : narrow .boolean (.int 0) = .int 0 := by decide
          exact hret _ _ _ _ _ (Option.some.inj h) hn hS dX11_differsFromAll_37
  have E_2 : ∀ (h0 : Nat) (x1 : Int32) (x2 : Int32) (x3 : Int32) (H : Heap) (locs : List Loc) (ls : Array Slot), ez_S X B s.heap (n0) σ H locs → (ez_fix (fun _ _ _ _ => none) (z_X11_differsFromAll_2 σ) ez_N) h0 x1 x2 x3 = some z → lv_has ls 4 [(0, .ref (B + h0)), (1, .int x1), (2, .int x2), (3, .int x3)] → W p l e R s m args below meth c H locs 0 0 Q (F0 m 2 ls []) := ez_fix_ind (fun k_2 : Nat → Int32 → Int32 → Int32 → Option (Int32) => ∀ (h0 : Nat) (x1 : Int32) (x2 : Int32) (x3 : Int32) (H : Heap) (locs : List Loc) (ls : Array Slot), ez_S X B s.heap (n0) σ H locs → k_2 h0 x1 x2 x3 = some z → lv_has ls 4 [(0, .ref (B + h0)), (1, .int x1), (2, .int x2), (3, .int x3)] → W p l e R s m args below meth c H locs 0 0 Q (F0 m 2 ls [])) (fun _ _ _ _ _ _ _ _ h _ => by cases h) (fun k_2 hk_2 => K_2 k_2 hk_2) ez_N
  refine lv_iconst (v := 0) hx hb dX11_differsFromAll_0 (by decide) ?_
  refine lv_istore_n (lv' := [(3, .int 0), (0, .ref (B + h0)), (1, .int x1), (2, .int x2)]) hx hb dX11_differsFromAll_1 rfl hl (by decide) rfl (fun ls hl => ?_)
  exact E_2  h0 x1 x2 (0 : Int32) _ _ _ hS h (lv_sub hl [1, 2, 3, 0] rfl)
set_option maxHeartbeats 4000000 in
set_option maxRecDepth 100000 in
theorem c_X6_after {l : Launch} {X : ez_X} {B : Nat} {σ : ez_H} {h0 : Nat} {x1 : Int32} {z : Int32} (h : z_X6_after σ h0 x1 = some z) : ez_M l X B σ yX6_after cX6_after 6 (some .int) 3 [.ref (B + h0), .int x1] (some (.int z)) σ := by
  refine ez_startip (z := z) (by decide) (Nat.le_of_ble_eq_true rfl) (fun p e R s m args below meth c Q hC hret hS ls hl => ?_)
  have hC : ez_C p R s m args c X B RX6 cX6_after 6 3 := hC
  have hx := hC.1.1
  have hb := hC.1.2.1
  have hown := hC.1.2.2.2.1
  have hts := hC.1.2.2.2.2
  have hl : lv_has ls 6 [(0, .ref (B + h0)), (1, .int x1)] := hl
  obtain ⟨n0, e0⟩ : ∃ n0 : Nat, n0 = σ.length := ⟨_, rfl⟩
  rw [← e0] at hret hS
  obtain ⟨-, h⟩ := ez_in h
  have K_45 : ∀ (k_7 : Nat → Int32 → Int32 → Option (Int32)) (hk_7 : ∀ (h0 : Nat) (x1 : Int32) (x2 : Int32) (H : Heap) (locs : List Loc) (ls : Array Slot), ez_S X B s.heap (n0) σ H locs → k_7 h0 x1 x2 = some z → lv_has ls 6 [(0, .ref (B + h0)), (1, .int x1), (2, .int x2)] → W p l e R s m args below meth c H locs 0 0 Q (F0 m 7 ls [])), ∀ (h0 : Nat) (x1 : Int32) (x2 : Int32) (x3 : Int32) (y0 : Int32) (H : Heap) (locs : List Loc) (ls : Array Slot), ez_S X B s.heap (n0) σ H locs → z_X6_after_45 σ k_7 h0 x1 x2 x3 y0 = some z → lv_has ls 6 [(0, .ref (B + h0)), (1, .int x1), (2, .int x2), (3, .int x3)] → W p l e R s m args below meth c H locs 0 0 Q (F0 m 45 ls [.int y0]) := by
    intro k_7 hk_7 h0 x1 x2 x3 y0 H locs ls hS h hl
    refine lv_istore (lv' := [(4, .int y0), (0, .ref (B + h0)), (1, .int x1), (2, .int x2), (3, .int x3)]) hx hb dX6_after_45 hl (by decide) rfl (fun ls hl => ?_)
    refine lv_iload_n hx hb dX6_after_47 rfl (lv_at hl 4 rfl) ?_
    refine lv_iload hx hb dX6_after_48 (lv_at hl 0 rfl) ?_
    refine lv_icmp_gt (tgt := 81) hx hb dX6_after_50 (by decide) (fun c_50 => ?_) (fun c_50 => ?_)
    · replace h := ez_ifp h c_50
      obtain ⟨t_81, e_81, h⟩ := ez_let_sp h
      refine lv_iinc (v := t_81) (lv' := [(2, .int t_81), (4, .int y0), (0, .ref (B + h0)), (1, .int x1), (3, .int x3)]) hx hb dX6_after_81 hl (k := 3) rfl (by rw [e_81]; rfl) (by decide) rfl (fun ls hl => ?_)
      refine lv_goto (tgt := 7) hx hb dX6_after_84 (by decide) ?_
      exact hk_7 h0 x1 t_81 _ _ _ hS h (lv_sub hl [2, 3, 0] rfl)
    · replace h := ez_ifn h c_50
      refine lv_iload_n hx hb dX6_after_53 rfl (lv_at hl 2 rfl) ?_
      refine lv_iload_n hx hb dX6_after_54 rfl (lv_at hl 3 rfl) ?_
      refine lv_iconst (v := 0) hx hb dX6_after_55 (by decide) ?_
      refine ez_cSpi (As := [.int x2, .int 0]) (rest := [.int x1]) h (fun _ q => c_X6_notch q) hC k_X6_notch ql_RX6_44 rfl (by decide) hS hl.1 rfl (Nat.le_of_ble_eq_true rfl) ⟨Nat.zero_le _, Nat.zero_le _⟩ dX6_after_56 (fun t_56 H locs hS h => ?_)
      refine lv_iconst (v := 1) hx hb dX6_after_59 (by decide) ?_
      refine lv_isub hx hb dX6_after_60 ?_
      refine ez_top h (fun t_60 h => ?_)
      refine lv_iand hx hb dX6_after_61 ?_
      refine ez_top h (fun t_61 h => ?_)
      refine lv_istore (lv' := [(5, .int t_61), (4, .int y0), (0, .ref (B + h0)), (1, .int x1), (2, .int x2), (3, .int x3)]) hx hb dX6_after_62 hl (by decide) rfl (fun ls hl => ?_)
      refine lv_aload_n hx hb dX6_after_64 rfl (lv_at hl 2 rfl) ?_
      refine lv_iload hx hb dX6_after_65 (lv_at hl 0 rfl) ?_
      refine lv_iload_n hx hb dX6_after_67 rfl (lv_at hl 4 rfl) ?_
      refine lv_iload_n hx hb dX6_after_68 rfl (lv_at hl 5 rfl) ?_
      refine ez_cSpi (As := [.int x2, .int x3]) (rest := [.int t_61, .ref (B + h0)]) h (fun _ q => c_X6_notch q) hC k_X6_notch ql_RX6_44 rfl (by decide) hS hl.1 rfl (Nat.le_of_ble_eq_true rfl) ⟨Nat.zero_le _, Nat.zero_le _⟩ dX6_after_69 (fun t_69 H locs hS h => ?_)
      refine lv_ior hx hb dX6_after_72 ?_
      refine ez_top h (fun t_72 h => ?_)
      refine lv_iload_n hx hb dX6_after_73 rfl (lv_at hl 4 rfl) ?_
      refine lv_iconst (v := 1) hx hb dX6_after_74 (by decide) ?_
      refine lv_iadd hx hb dX6_after_75 ?_
      refine ez_top h (fun t_75 h => ?_)
      refine lv_iload_n hx hb dX6_after_76 rfl (lv_at hl 5 rfl) ?_
      refine ez_cVpi (As := [.int t_72, .int t_75, .int x3]) (rest := []) h (fun _ q => c_X6_fillUp q) hC k_X6_fillUp ql_RX6_62 rfl (by decide) hS (fun _ q => ez_rcv q) rfl hl.1 rfl (Nat.le_of_ble_eq_true rfl) ⟨Nat.zero_le _, Nat.zero_le _⟩ dX6_after_77 (fun t_77 H locs hS h => ?_)
      exact hret _ _ _ _ _ (Option.some.inj h) rfl hS dX6_after_80
  have K_7 : ∀ (k_7 : Nat → Int32 → Int32 → Option (Int32)) (hk_7 : ∀ (h0 : Nat) (x1 : Int32) (x2 : Int32) (H : Heap) (locs : List Loc) (ls : Array Slot), ez_S X B s.heap (n0) σ H locs → k_7 h0 x1 x2 = some z → lv_has ls 6 [(0, .ref (B + h0)), (1, .int x1), (2, .int x2)] → W p l e R s m args below meth c H locs 0 0 Q (F0 m 7 ls [])), ∀ (h0 : Nat) (x1 : Int32) (x2 : Int32) (H : Heap) (locs : List Loc) (ls : Array Slot), ez_S X B s.heap (n0) σ H locs → z_X6_after_7 σ k_7 h0 x1 x2 = some z → lv_has ls 6 [(0, .ref (B + h0)), (1, .int x1), (2, .int x2)] → W p l e R s m args below meth c H locs 0 0 Q (F0 m 7 ls []) := by
    intro k_7 hk_7 h0 x1 x2 H locs ls hS h hl
    refine lv_iload_n hx hb dX6_after_7 rfl (lv_at hl 2 rfl) ?_
    refine lv_if_lt (tgt := 87) hx hb dX6_after_8 (by decide) (fun c_8 => ?_) (fun c_8 => ?_)
    · replace h := ez_ifp h c_8
      refine lv_iconst (v := 0) hx hb dX6_after_87 (by decide) ?_
      exact hret _ _ _ _ _ (Option.some.inj h) rfl hS dX6_after_88
    · replace h := ez_ifn h c_8
      refine lv_aload_n hx hb dX6_after_11 rfl (lv_at hl 0 rfl) ?_
      refine lv_iload_n hx hb dX6_after_12 rfl (lv_at hl 1 rfl) ?_
      refine lv_iload_n hx hb dX6_after_13 rfl (lv_at hl 2 rfl) ?_
      refine ez_cVpi (As := [.int x1, .int x2]) (rest := []) h (fun _ q => c_X6_depthAt q) hC k_X6_depthAt ql_RX6_41 rfl (by decide) hS (fun _ q => ez_rcv q) rfl hl.1 rfl (Nat.le_of_ble_eq_true rfl) ⟨Nat.zero_le _, Nat.zero_le _⟩ dX6_after_14 (fun t_14 H locs hS h => ?_)
      refine lv_iconst (v := 1) hx hb dX6_after_17 (by decide) ?_
      refine lv_iadd hx hb dX6_after_18 ?_
      refine ez_top h (fun t_18 h => ?_)
      refine lv_istore_n (lv' := [(3, .int t_18), (0, .ref (B + h0)), (1, .int x1), (2, .int x2)]) hx hb dX6_after_19 rfl hl (by decide) rfl (fun ls hl => ?_)
      refine lv_iload_n hx hb dX6_after_20 rfl (lv_at hl 3 rfl) ?_
      refine lv_if_ne (tgt := 33) hx hb dX6_after_21 (by decide) (fun c_21 => ?_) (fun c_21 => ?_)
      · replace h := ez_ifn h c_21
        refine lv_aload_n hx hb dX6_after_33 rfl (lv_at hl 1 rfl) ?_
        refine lv_aload_n hx hb dX6_after_34 rfl (lv_at hl 1 rfl) ?_
        refine lv_iload_n hx hb dX6_after_35 rfl (lv_at hl 2 rfl) ?_
        refine lv_iload_n hx hb dX6_after_36 rfl (lv_at hl 3 rfl) ?_
        refine lv_iconst (v := 1) hx hb dX6_after_37 (by decide) ?_
        refine lv_isub hx hb dX6_after_38 ?_
        refine ez_top h (fun t_38 h => ?_)
        refine ez_cVpi (As := [.int x1, .int t_38]) (rest := [.ref (B + h0)]) h (fun _ q => c_X6_depthAt q) hC k_X6_depthAt ql_RX6_41 rfl (by decide) hS (fun _ q => ez_rcv q) rfl hl.1 rfl (Nat.le_of_ble_eq_true rfl) ⟨Nat.zero_le _, Nat.zero_le _⟩ dX6_after_39 (fun t_39 H locs hS h => ?_)
        refine ez_cVpi (As := [.int t_39]) (rest := []) h (fun _ q => c_X6_highest q) hC k_X6_highest ql_RX6_69 rfl (by decide) hS (fun _ q => ez_rcv q) rfl hl.1 rfl (Nat.le_of_ble_eq_true rfl) ⟨Nat.zero_le _, Nat.zero_le _⟩ dX6_after_42 (fun t_42 H locs hS h => ?_)
        exact K_45 k_7 hk_7 h0 x1 x2 t_18 t_42 _ _ _ hS h (lv_sub hl [1, 2, 3, 0] rfl)
      · replace h := ez_ifp h c_21
        refine lv_aload_n hx hb dX6_after_24 rfl (lv_at hl 1 rfl) ?_
        refine eg_RX6_22 hC hS h dX6_after_25 (fun t_25 h => ?_)
        refine lv_iconst (v := 1) hx hb dX6_after_28 (by decide) ?_
        refine lv_isub hx hb dX6_after_29 ?_
        refine ez_top h (fun t_29 h => ?_)
        refine lv_goto (tgt := 45) hx hb dX6_after_30 (by decide) ?_
        exact K_45 k_7 hk_7 h0 x1 x2 t_18 t_29 _ _ _ hS h (lv_sub hl [1, 2, 3, 0] rfl)
  have E_7 : ∀ (h0 : Nat) (x1 : Int32) (x2 : Int32) (H : Heap) (locs : List Loc) (ls : Array Slot), ez_S X B s.heap (n0) σ H locs → (ez_fix (fun _ _ _ => none) (z_X6_after_7 σ) ez_N) h0 x1 x2 = some z → lv_has ls 6 [(0, .ref (B + h0)), (1, .int x1), (2, .int x2)] → W p l e R s m args below meth c H locs 0 0 Q (F0 m 7 ls []) := ez_fix_ind (fun k_7 : Nat → Int32 → Int32 → Option (Int32) => ∀ (h0 : Nat) (x1 : Int32) (x2 : Int32) (H : Heap) (locs : List Loc) (ls : Array Slot), ez_S X B s.heap (n0) σ H locs → k_7 h0 x1 x2 = some z → lv_has ls 6 [(0, .ref (B + h0)), (1, .int x1), (2, .int x2)] → W p l e R s m args below meth c H locs 0 0 Q (F0 m 7 ls [])) (fun _ _ _ _ _ _ _ h _ => by cases h) (fun k_7 hk_7 => K_7 k_7 hk_7) ez_N
  refine lv_aload_n hx hb dX6_after_0 rfl (lv_at hl 0 rfl) ?_
  refine eg_RX6_18 hC hS h dX6_after_1 (fun t_1 h => ?_)
  refine lv_iconst (v := 1) hx hb dX6_after_4 (by decide) ?_
  refine lv_isub hx hb dX6_after_5 ?_
  refine ez_top h (fun t_5 h => ?_)
  refine lv_istore_n (lv' := [(2, .int t_5), (0, .ref (B + h0)), (1, .int x1)]) hx hb dX6_after_6 rfl hl (by decide) rfl (fun ls hl => ?_)
  exact E_7  h0 x1 t_5 _ _ _ hS h (lv_sub hl [1, 2, 0] rfl)
set_option maxHeartbeats 4000000 in
set_option maxRecDepth 100000 in
theorem c_X11_book {l : Launch} {X : ez_X} {B : Nat} {σ : ez_H} {h0 : Nat} {x1 : Int32} {z : Int32 × ez_H} (h : z_X11_book σ h0 x1 = some z) : ez_M l X B σ yX11_book cX11_book 5 (some .int) 4 [.ref (B + h0), .int x1] (some (.int z.1)) z.2 := by
  refine ez_starti (z := z) (by decide) (Nat.le_of_ble_eq_true rfl) (fun p e R s m args below meth c Q hC hret hS ls hl => ?_)
  have hC : ez_C p R s m args c X B RX11 cX11_book 5 4 := hC
  have hx := hC.1.1
  have hb := hC.1.2.1
  have hown := hC.1.2.2.2.1
  have hts := hC.1.2.2.2.2
  have hl : lv_has ls 5 [(0, .ref (B + h0)), (1, .int x1)] := hl
  obtain ⟨σ0, eσ⟩ : ∃ σ0 : ez_H, σ0 = σ := ⟨_, rfl⟩
  rw [← eσ] at hret
  have hS : ez_S X B s.heap σ0.length σ s.heap [] := eσ ▸ hS
  obtain ⟨-, h⟩ := ez_in h
  have K_10 : ∀ (σ : ez_H) (H : Heap) (locs : List Loc) (ls : Array Slot), ez_S X B s.heap (σ0.length) σ H locs → z_X11_book_10 σ = some z → lv_has ls 5 [] → W p l e R s m args below meth c H locs 0 0 Q (F0 m 10 ls []) := by
    intro σ H locs ls hS h hl
    refine lv_iconst (v := -1) hx hb dX11_book_10 (by decide) ?_
    exact hret _ _ _ _ _ _ (Option.some.inj h) rfl hS dX11_book_11
  have K_98 : ∀ (σ : ez_H) (y0 : Int32) (H : Heap) (locs : List Loc) (ls : Array Slot), ez_S X B s.heap (σ0.length) σ H locs → z_X11_book_98 σ y0 = some z → lv_has ls 5 [] → W p l e R s m args below meth c H locs 0 0 Q (F0 m 98 ls [.int y0]) := by
    intro σ y0 H locs ls hS h hl
    exact hret _ _ _ _ _ _ (Option.some.inj h) rfl hS dX11_book_98
  have K_76 : ∀ (σ : ez_H) (h0 : Nat) (x1 : Int32) (x2 : Int32) (H : Heap) (locs : List Loc) (ls : Array Slot), ez_S X B s.heap (σ0.length) σ H locs → z_X11_book_76 σ h0 x1 x2 = some z → lv_has ls 5 [(0, .ref (B + h0)), (1, .int x1), (2, .int x2)] → W p l e R s m args below meth c H locs 0 0 Q (F0 m 76 ls []) := by
    intro σ h0 x1 x2 H locs ls hS h hl
    refine lv_iload_n hx hb dX11_book_76 rfl (lv_at hl 2 rfl) ?_
    refine lv_iload_n hx hb dX11_book_77 rfl (lv_at hl 1 rfl) ?_
    refine lv_icmp_le (tgt := 97) hx hb dX11_book_78 (by decide) (fun c_78 => ?_) (fun c_78 => ?_)
    · replace h := ez_ifp h c_78
      refine lv_iconst (v := -1) hx hb dX11_book_97 (by decide) ?_
      exact K_98  σ (-1 : Int32) _ _ _ hS h (lv_sub hl [] rfl)
    · replace h := ez_ifn h c_78
      refine lv_aload_n hx hb dX11_book_81 rfl (lv_at hl 0 rfl) ?_
      refine eg_RX11_37 hC hS h dX11_book_82 (fun t_82 h => ?_)
      refine lv_aload_n hx hb dX11_book_85 rfl (lv_at hl 0 rfl) ?_
      refine eg_RX11_97 hC hS h dX11_book_86 (fun t_86 h => ?_)
      refine lv_iload_n hx hb dX11_book_89 rfl (lv_at hl 1 rfl) ?_
      refine ez_ial hC hS h dX11_book_90 (fun t_90 h => ?_)
      refine ez_cVpi (As := [.int t_90]) (rest := []) h (fun _ q => c_X6_numberOf q) hC k_X6_numberOf ql_RX11_144 rfl (by decide) hS (fun _ q => ez_rcv q) rfl hl.1 rfl (Nat.le_of_ble_eq_true rfl) ⟨Nat.zero_le _, Nat.zero_le _⟩ dX11_book_91 (fun t_91 H locs hS h => ?_)
      refine lv_goto (tgt := 98) hx hb dX11_book_94 (by decide) ?_
      exact K_98  σ t_91 _ _ _ hS h (lv_sub hl [] rfl)
  have K_61 : ∀ (k_25 : ez_H → Nat → Int32 → Int32 → Int32 → Int32 → Option (Int32 × ez_H)) (hk_25 : ∀ (σ : ez_H) (h0 : Nat) (x1 : Int32) (x2 : Int32) (x3 : Int32) (x4 : Int32) (H : Heap) (locs : List Loc) (ls : Array Slot), ez_S X B s.heap (σ0.length) σ H locs → k_25 σ h0 x1 x2 x3 x4 = some z → lv_has ls 5 [(0, .ref (B + h0)), (1, .int x1), (2, .int x2), (3, .int x3), (4, .int x4)] → W p l e R s m args below meth c H locs 0 0 Q (F0 m 25 ls [])), ∀ (σ : ez_H) (h0 : Nat) (x1 : Int32) (x2 : Int32) (x3 : Int32) (x4 : Int32) (H : Heap) (locs : List Loc) (ls : Array Slot), ez_S X B s.heap (σ0.length) σ H locs → z_X11_book_61 k_25 σ h0 x1 x2 x3 x4 = some z → lv_has ls 5 [(0, .ref (B + h0)), (1, .int x1), (2, .int x2), (3, .int x3), (4, .int x4)] → W p l e R s m args below meth c H locs 0 0 Q (F0 m 61 ls []) := by
    intro k_25 hk_25 σ h0 x1 x2 x3 x4 H locs ls hS h hl
    refine lv_aload_n hx hb dX11_book_61 rfl (lv_at hl 0 rfl) ?_
    refine eg_RX11_37 hC hS h dX11_book_62 (fun t_62 h => ?_)
    refine lv_iload_n hx hb dX11_book_65 rfl (lv_at hl 3 rfl) ?_
    refine ez_cVpi (As := [.int x3]) (rest := []) h (fun _ q => c_X6_after q) hC k_X6_after ql_RX11_380 rfl (by decide) hS (fun _ q => ez_rcv q) rfl hl.1 rfl (Nat.le_of_ble_eq_true rfl) ⟨Nat.zero_le _, Nat.zero_le _⟩ dX11_book_66 (fun t_66 H locs hS h => ?_)
    refine lv_istore_n (lv' := [(3, .int t_66), (0, .ref (B + h0)), (1, .int x1), (2, .int x2), (4, .int x4)]) hx hb dX11_book_69 rfl hl (by decide) rfl (fun ls hl => ?_)
    obtain ⟨t_70, e_70, h⟩ := ez_let_sp h
    refine lv_iinc (v := t_70) (lv' := [(4, .int t_70), (3, .int t_66), (0, .ref (B + h0)), (1, .int x1), (2, .int x2)]) hx hb dX11_book_70 hl (k := 4) rfl (by rw [e_70]; rfl) (by decide) rfl (fun ls hl => ?_)
    refine lv_goto (tgt := 25) hx hb dX11_book_73 (by decide) ?_
    exact hk_25 σ h0 x1 x2 t_66 t_70 _ _ _ hS h (lv_sub hl [2, 3, 4, 1, 0] rfl)
  have K_25 : ∀ (k_25 : ez_H → Nat → Int32 → Int32 → Int32 → Int32 → Option (Int32 × ez_H)) (hk_25 : ∀ (σ : ez_H) (h0 : Nat) (x1 : Int32) (x2 : Int32) (x3 : Int32) (x4 : Int32) (H : Heap) (locs : List Loc) (ls : Array Slot), ez_S X B s.heap (σ0.length) σ H locs → k_25 σ h0 x1 x2 x3 x4 = some z → lv_has ls 5 [(0, .ref (B + h0)), (1, .int x1), (2, .int x2), (3, .int x3), (4, .int x4)] → W p l e R s m args below meth c H locs 0 0 Q (F0 m 25 ls [])), ∀ (σ : ez_H) (h0 : Nat) (x1 : Int32) (x2 : Int32) (x3 : Int32) (x4 : Int32) (H : Heap) (locs : List Loc) (ls : Array Slot), ez_S X B s.heap (σ0.length) σ H locs → z_X11_book_25 k_25 σ h0 x1 x2 x3 x4 = some z → lv_has ls 5 [(0, .ref (B + h0)), (1, .int x1), (2, .int x2), (3, .int x3), (4, .int x4)] → W p l e R s m args below meth c H locs 0 0 Q (F0 m 25 ls []) := by
    intro k_25 hk_25 σ h0 x1 x2 x3 x4 H locs ls hS h hl
    refine lv_iload hx hb dX11_book_25 (lv_at hl 4 rfl) ?_
    refine lv_sipush (v := 7776) hx hb dX11_book_27 (by decide) ?_
    refine lv_icmp_ge (tgt := 76) hx hb dX11_book_30 (by decide) (fun c_30 => ?_) (fun c_30 => ?_)
    · replace h := ez_ifp h c_30
      exact K_76  σ h0 x1 x2 _ _ _ hS h (lv_sub hl [0, 1, 2] rfl)
    · replace h := ez_ifn h c_30
      refine lv_iload_n hx hb dX11_book_33 rfl (lv_at hl 3 rfl) ?_
      refine lv_if_eq (tgt := 76) hx hb dX11_book_34 (by decide) (fun c_34 => ?_) (fun c_34 => ?_)
      · replace h := ez_ifp h c_34
        exact K_76  σ h0 x1 x2 _ _ _ hS h (lv_sub hl [0, 1, 2] rfl)
      · replace h := ez_ifn h c_34
        refine lv_iload_n hx hb dX11_book_37 rfl (lv_at hl 2 rfl) ?_
        refine lv_iload_n hx hb dX11_book_38 rfl (lv_at hl 1 rfl) ?_
        refine lv_icmp_gt (tgt := 76) hx hb dX11_book_39 (by decide) (fun c_39 => ?_) (fun c_39 => ?_)
        · replace h := ez_ifp h c_39
          exact K_76  σ h0 x1 x2 _ _ _ hS h (lv_sub hl [0, 1, 2] rfl)
        · replace h := ez_ifn h c_39
          refine lv_aload_n hx hb dX11_book_42 rfl (lv_at hl 0 rfl) ?_
          refine lv_iload_n hx hb dX11_book_43 rfl (lv_at hl 3 rfl) ?_
          refine lv_iload_n hx hb dX11_book_44 rfl (lv_at hl 2 rfl) ?_
          refine ez_cVpi (As := [.int x3, .int x2]) (rest := []) h (fun _ q => c_X11_differsFromAll q) hC k_X11_differsFromAll ql_RX11_377 rfl (by decide) hS (fun _ q => ez_rcv q) rfl hl.1 rfl (Nat.le_of_ble_eq_true rfl) ⟨Nat.zero_le _, Nat.zero_le _⟩ dX11_book_45 (fun t_45 H locs hS h => ?_)
          refine lv_if_eq (tgt := 61) hx hb dX11_book_48 (by decide) (fun c_48 => ?_) (fun c_48 => ?_)
          · replace h := ez_ifp h c_48
            exact K_61 k_25 hk_25 σ h0 x1 x2 x3 x4 _ _ _ hS h (lv_sub hl [0, 1, 2, 3, 4] rfl)
          · replace h := ez_ifn h c_48
            refine lv_aload_n hx hb dX11_book_51 rfl (lv_at hl 0 rfl) ?_
            refine eg_RX11_97 hC hS h dX11_book_52 (fun t_52 h => ?_)
            refine lv_iload_n hx hb dX11_book_55 rfl (lv_at hl 2 rfl) ?_
            refine lv_iload_n hx hb dX11_book_56 rfl (lv_at hl 3 rfl) ?_
            refine ez_ias hC hS h dX11_book_57 (fun σ H locs hS h => ?_)
            obtain ⟨t_58, e_58, h⟩ := ez_let_sp h
            refine lv_iinc (v := t_58) (lv' := [(2, .int t_58), (0, .ref (B + h0)), (1, .int x1), (3, .int x3), (4, .int x4)]) hx hb dX11_book_58 hl (k := 2) rfl (by rw [e_58]; rfl) (by decide) rfl (fun ls hl => ?_)
            exact K_61 k_25 hk_25 σ h0 x1 t_58 x3 x4 _ _ _ hS h (lv_sub hl [1, 2, 0, 3, 4] rfl)
  have E_25 : ∀ (σ : ez_H) (h0 : Nat) (x1 : Int32) (x2 : Int32) (x3 : Int32) (x4 : Int32) (H : Heap) (locs : List Loc) (ls : Array Slot), ez_S X B s.heap (σ0.length) σ H locs → (ez_fix (fun _ _ _ _ _ _ => none) (z_X11_book_25) ez_N) σ h0 x1 x2 x3 x4 = some z → lv_has ls 5 [(0, .ref (B + h0)), (1, .int x1), (2, .int x2), (3, .int x3), (4, .int x4)] → W p l e R s m args below meth c H locs 0 0 Q (F0 m 25 ls []) := ez_fix_ind (fun k_25 : ez_H → Nat → Int32 → Int32 → Int32 → Int32 → Option (Int32 × ez_H) => ∀ (σ : ez_H) (h0 : Nat) (x1 : Int32) (x2 : Int32) (x3 : Int32) (x4 : Int32) (H : Heap) (locs : List Loc) (ls : Array Slot), ez_S X B s.heap (σ0.length) σ H locs → k_25 σ h0 x1 x2 x3 x4 = some z → lv_has ls 5 [(0, .ref (B + h0)), (1, .int x1), (2, .int x2), (3, .int x3), (4, .int x4)] → W p l e R s m args below meth c H locs 0 0 Q (F0 m 25 ls [])) (fun _ _ _ _ _ _ _ _ _ _ h _ => by cases h) (fun k_25 hk_25 => K_25 k_25 hk_25) ez_N
  refine lv_iload_n hx hb dX11_book_0 rfl (lv_at hl 1 rfl) ?_
  refine lv_if_lt (tgt := 10) hx hb dX11_book_1 (by decide) (fun c_1 => ?_) (fun c_1 => ?_)
  · replace h := ez_ifp h c_1
    exact K_10  σ _ _ _ hS h (lv_sub hl [] rfl)
  · replace h := ez_ifn h c_1
    refine lv_iload_n hx hb dX11_book_4 rfl (lv_at hl 1 rfl) ?_
    refine lv_bipush (v := 60) hx hb dX11_book_5 (by decide) ?_
    refine lv_icmp_lt (tgt := 12) hx hb dX11_book_7 (by decide) (fun c_7 => ?_) (fun c_7 => ?_)
    · replace h := ez_ifp h c_7
      refine lv_iconst (v := 0) hx hb dX11_book_12 (by decide) ?_
      refine lv_istore_n (lv' := [(2, .int 0), (0, .ref (B + h0)), (1, .int x1)]) hx hb dX11_book_13 rfl hl (by decide) rfl (fun ls hl => ?_)
      refine lv_aload_n hx hb dX11_book_14 rfl (lv_at hl 1 rfl) ?_
      refine eg_RX11_37 hC hS h dX11_book_15 (fun t_15 h => ?_)
      refine ez_cVpi (As := []) (rest := []) h (fun _ q => c_X6_least q) hC k_X6_least ql_RX11_374 rfl (by decide) hS (fun _ q => ez_rcv q) rfl hl.1 rfl (Nat.le_of_ble_eq_true rfl) ⟨Nat.zero_le _, Nat.zero_le _⟩ dX11_book_18 (fun t_18 H locs hS h => ?_)
      refine lv_istore_n (lv' := [(3, .int t_18), (2, .int 0), (0, .ref (B + h0)), (1, .int x1)]) hx hb dX11_book_21 rfl hl (by decide) rfl (fun ls hl => ?_)
      refine lv_iconst (v := 0) hx hb dX11_book_22 (by decide) ?_
      refine lv_istore (lv' := [(4, .int 0), (3, .int t_18), (2, .int 0), (0, .ref (B + h0)), (1, .int x1)]) hx hb dX11_book_23 hl (by decide) rfl (fun ls hl => ?_)
      exact E_25  σ h0 x1 (0 : Int32) t_18 (0 : Int32) _ _ _ hS h (lv_sub hl [3, 4, 2, 1, 0] rfl)
    · replace h := ez_ifn h c_7
      exact K_10  σ _ _ _ hS h (lv_sub hl [] rfl)
