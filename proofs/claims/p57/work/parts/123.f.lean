set_option maxHeartbeats 4000000 in
set_option maxRecDepth 100000 in
theorem c_X12_keysThatOpen {l : Launch} {X : ez_X} {B : Nat} {σ : ez_H} {h0 : Nat} {x1 : Int32} {z : Int32} (h : z_X12_keysThatOpen σ h0 x1 = some z) : ez_M l X B σ yX12_keysThatOpen cX12_keysThatOpen 4 (some .int) 3 [.ref (B + h0), .int x1] (some (.int z)) σ := by
  refine ez_startip (z := z) (by decide) (Nat.le_of_ble_eq_true rfl) (fun p e R s m args below meth c Q hC hret hS ls hl => ?_)
  have hC : ez_C p R s m args c X B RX12 cX12_keysThatOpen 4 3 := hC
  have hx := hC.1.1
  have hb := hC.1.2.1
  have hown := hC.1.2.2.2.1
  have hts := hC.1.2.2.2.2
  have hl : lv_has ls 4 [(0, .ref (B + h0)), (1, .int x1)] := hl
  obtain ⟨n0, e0⟩ : ∃ n0 : Nat, n0 = σ.length := ⟨_, rfl⟩
  rw [← e0] at hret hS
  obtain ⟨-, h⟩ := ez_in h
  have K_27 : ∀ (k_4 : Nat → Int32 → Int32 → Int32 → Option (Int32)) (hk_4 : ∀ (h0 : Nat) (x1 : Int32) (x2 : Int32) (x3 : Int32) (H : Heap) (locs : List Loc) (ls : Array Slot), ez_S X B s.heap (n0) σ H locs → k_4 h0 x1 x2 x3 = some z → lv_has ls 4 [(0, .ref (B + h0)), (1, .int x1), (2, .int x2), (3, .int x3)] → W p l e R s m args below meth c H locs 0 0 Q (F0 m 4 ls [])), ∀ (h0 : Nat) (x1 : Int32) (x2 : Int32) (x3 : Int32) (H : Heap) (locs : List Loc) (ls : Array Slot), ez_S X B s.heap (n0) σ H locs → z_X12_keysThatOpen_27 σ k_4 h0 x1 x2 x3 = some z → lv_has ls 4 [(0, .ref (B + h0)), (1, .int x1), (2, .int x2), (3, .int x3)] → W p l e R s m args below meth c H locs 0 0 Q (F0 m 27 ls []) := by
    intro k_4 hk_4 h0 x1 x2 x3 H locs ls hS h hl
    obtain ⟨t_27, e_27, h⟩ := ez_let_sp h
    refine lv_iinc (v := t_27) (lv' := [(3, .int t_27), (0, .ref (B + h0)), (1, .int x1), (2, .int x2)]) hx hb dX12_keysThatOpen_27 hl (k := 3) rfl (by rw [e_27]; rfl) (by decide) rfl (fun ls hl => ?_)
    refine lv_goto (tgt := 4) hx hb dX12_keysThatOpen_30 (by decide) ?_
    exact hk_4 h0 x1 x2 t_27 _ _ _ hS h (lv_sub hl [1, 2, 3, 0] rfl)
  have K_4 : ∀ (k_4 : Nat → Int32 → Int32 → Int32 → Option (Int32)) (hk_4 : ∀ (h0 : Nat) (x1 : Int32) (x2 : Int32) (x3 : Int32) (H : Heap) (locs : List Loc) (ls : Array Slot), ez_S X B s.heap (n0) σ H locs → k_4 h0 x1 x2 x3 = some z → lv_has ls 4 [(0, .ref (B + h0)), (1, .int x1), (2, .int x2), (3, .int x3)] → W p l e R s m args below meth c H locs 0 0 Q (F0 m 4 ls [])), ∀ (h0 : Nat) (x1 : Int32) (x2 : Int32) (x3 : Int32) (H : Heap) (locs : List Loc) (ls : Array Slot), ez_S X B s.heap (n0) σ H locs → z_X12_keysThatOpen_4 σ k_4 h0 x1 x2 x3 = some z → lv_has ls 4 [(0, .ref (B + h0)), (1, .int x1), (2, .int x2), (3, .int x3)] → W p l e R s m args below meth c H locs 0 0 Q (F0 m 4 ls []) := by
    intro k_4 hk_4 h0 x1 x2 x3 H locs ls hS h hl
    refine lv_iload_n hx hb dX12_keysThatOpen_4 rfl (lv_at hl 3 rfl) ?_
    refine lv_aload_n hx hb dX12_keysThatOpen_5 rfl (lv_at hl 0 rfl) ?_
    refine ez_cVpi (As := []) (rest := [.int x3]) h (fun _ q => c_X12_many q) hC k_X12_many ql_RX12_404 rfl (by decide) hS (fun _ q => ez_rcv q) rfl hl.1 rfl (Nat.le_of_ble_eq_true rfl) ⟨Nat.zero_le _, Nat.zero_le _⟩ dX12_keysThatOpen_6 (fun t_6 H locs hS h => ?_)
    refine lv_icmp_ge (tgt := 33) hx hb dX12_keysThatOpen_9 (by decide) (fun c_9 => ?_) (fun c_9 => ?_)
    · replace h := ez_ifp h c_9
      refine lv_iload_n hx hb dX12_keysThatOpen_33 rfl (lv_at hl 2 rfl) ?_
      exact hret _ _ _ _ _ (Option.some.inj h) rfl hS dX12_keysThatOpen_34
    · replace h := ez_ifn h c_9
      refine lv_aload_n hx hb dX12_keysThatOpen_12 rfl (lv_at hl 0 rfl) ?_
      refine lv_iload_n hx hb dX12_keysThatOpen_13 rfl (lv_at hl 3 rfl) ?_
      refine lv_iload_n hx hb dX12_keysThatOpen_14 rfl (lv_at hl 1 rfl) ?_
      refine ez_cVpi (As := [.int x3, .int x1]) (rest := []) h (fun _ q => c_X12_opensBy q) hC k_X12_opensBy ql_RX12_474 rfl (by decide) hS (fun _ q => ez_rcv q) rfl hl.1 rfl (Nat.le_of_ble_eq_true rfl) ⟨Nat.zero_le _, Nat.zero_le _⟩ dX12_keysThatOpen_15 (fun t_15 H locs hS h => ?_)
      refine lv_if_eq (tgt := 27) hx hb dX12_keysThatOpen_18 (by decide) (fun c_18 => ?_) (fun c_18 => ?_)
      · replace h := ez_ifp h c_18
        exact K_27 k_4 hk_4 h0 x1 x2 x3 _ _ _ hS h (lv_sub hl [0, 1, 2, 3] rfl)
      · replace h := ez_ifn h c_18
        refine lv_iload_n hx hb dX12_keysThatOpen_21 rfl (lv_at hl 2 rfl) ?_
        refine lv_iconst (v := 1) hx hb dX12_keysThatOpen_22 (by decide) ?_
        refine lv_iload_n hx hb dX12_keysThatOpen_23 rfl (lv_at hl 3 rfl) ?_
        refine lv_ishl hx hb dX12_keysThatOpen_24 ?_
        refine ez_top h (fun t_24 h => ?_)
        refine lv_ior hx hb dX12_keysThatOpen_25 ?_
        refine ez_top h (fun t_25 h => ?_)
        refine lv_istore_n (lv' := [(2, .int t_25), (0, .ref (B + h0)), (1, .int x1), (3, .int x3)]) hx hb dX12_keysThatOpen_26 rfl hl (by decide) rfl (fun ls hl => ?_)
        exact K_27 k_4 hk_4 h0 x1 t_25 x3 _ _ _ hS h (lv_sub hl [1, 2, 0, 3] rfl)
  have E_4 : ∀ (h0 : Nat) (x1 : Int32) (x2 : Int32) (x3 : Int32) (H : Heap) (locs : List Loc) (ls : Array Slot), ez_S X B s.heap (n0) σ H locs → (ez_fix (fun _ _ _ _ => none) (z_X12_keysThatOpen_4 σ) ez_N) h0 x1 x2 x3 = some z → lv_has ls 4 [(0, .ref (B + h0)), (1, .int x1), (2, .int x2), (3, .int x3)] → W p l e R s m args below meth c H locs 0 0 Q (F0 m 4 ls []) := ez_fix_ind (fun k_4 : Nat → Int32 → Int32 → Int32 → Option (Int32) => ∀ (h0 : Nat) (x1 : Int32) (x2 : Int32) (x3 : Int32) (H : Heap) (locs : List Loc) (ls : Array Slot), ez_S X B s.heap (n0) σ H locs → k_4 h0 x1 x2 x3 = some z → lv_has ls 4 [(0, .ref (B + h0)), (1, .int x1), (2, .int x2), (3, .int x3)] → W p l e R s m args below meth c H locs 0 0 Q (F0 m 4 ls [])) (fun _ _ _ _ _ _ _ _ h _ => by cases h) (fun k_4 hk_4 => K_4 k_4 hk_4) ez_N
  refine lv_iconst (v := 0) hx hb dX12_keysThatOpen_0 (by decide) ?_
  refine lv_istore_n (lv' := [(2, .int 0), (0, .ref (B + h0)), (1, .int x1)]) hx hb dX12_keysThatOpen_1 rfl hl (by decide) rfl (fun ls hl => ?_)
  refine lv_iconst (v := 0) hx hb dX12_keysThatOpen_2 (by decide) ?_
  refine lv_istore_n (lv' := [(3, .int 0), (2, .int 0), (0, .ref (B + h0)), (1, .int x1)]) hx hb dX12_keysThatOpen_3 rfl hl (by decide) rfl (fun ls hl => ?_)
  exact E_4  h0 x1 (0 : Int32) (0 : Int32) _ _ _ hS h (lv_sub hl [2, 3, 1, 0] rfl)
set_option maxHeartbeats 4000000 in
set_option maxRecDepth 100000 in
theorem c_X12_partsIn {l : Launch} {X : ez_X} {B : Nat} {σ : ez_H} {h0 : Nat} {x1 : Int32} {z : Int32} (h : z_X12_partsIn σ h0 x1 = some z) : ez_M l X B σ yX12_partsIn cX12_partsIn 4 (some .int) 1 [.ref (B + h0), .int x1] (some (.int z)) σ := by
  refine ez_startip (z := z) (by decide) (Nat.le_of_ble_eq_true rfl) (fun p e R s m args below meth c Q hC hret hS ls hl => ?_)
  have hC : ez_C p R s m args c X B RX12 cX12_partsIn 4 1 := hC
  have hx := hC.1.1
  have hb := hC.1.2.1
  have hown := hC.1.2.2.2.1
  have hts := hC.1.2.2.2.2
  have hl : lv_has ls 4 [(0, .ref (B + h0)), (1, .int x1)] := hl
  obtain ⟨n0, e0⟩ : ∃ n0 : Nat, n0 = σ.length := ⟨_, rfl⟩
  rw [← e0] at hret hS
  obtain ⟨-, h⟩ := ez_in h
  have K_4 : ∀ (k_4 : Nat → Int32 → Int32 → Int32 → Option (Int32)) (hk_4 : ∀ (h0 : Nat) (x1 : Int32) (x2 : Int32) (x3 : Int32) (H : Heap) (locs : List Loc) (ls : Array Slot), ez_S X B s.heap (n0) σ H locs → k_4 h0 x1 x2 x3 = some z → lv_has ls 4 [(0, .ref (B + h0)), (1, .int x1), (2, .int x2), (3, .int x3)] → W p l e R s m args below meth c H locs 0 0 Q (F0 m 4 ls [])), ∀ (h0 : Nat) (x1 : Int32) (x2 : Int32) (x3 : Int32) (H : Heap) (locs : List Loc) (ls : Array Slot), ez_S X B s.heap (n0) σ H locs → z_X12_partsIn_4 σ k_4 h0 x1 x2 x3 = some z → lv_has ls 4 [(0, .ref (B + h0)), (1, .int x1), (2, .int x2), (3, .int x3)] → W p l e R s m args below meth c H locs 0 0 Q (F0 m 4 ls []) := by
    intro k_4 hk_4 h0 x1 x2 x3 H locs ls hS h hl
    refine lv_iload_n hx hb dX12_partsIn_4 rfl (lv_at hl 3 rfl) ?_
    refine lv_aload_n hx hb dX12_partsIn_5 rfl (lv_at hl 0 rfl) ?_
    refine ez_cVpi (As := []) (rest := [.int x3]) h (fun _ q => c_X12_wide q) hC k_X12_wide ql_RX12_414 rfl (by decide) hS (fun _ q => ez_rcv q) rfl hl.1 rfl (Nat.le_of_ble_eq_true rfl) ⟨Nat.zero_le _, Nat.zero_le _⟩ dX12_partsIn_6 (fun t_6 H locs hS h => ?_)
    refine lv_icmp_ge (tgt := 30) hx hb dX12_partsIn_9 (by decide) (fun c_9 => ?_) (fun c_9 => ?_)
    · replace h := ez_ifp h c_9
      refine lv_iload_n hx hb dX12_partsIn_30 rfl (lv_at hl 2 rfl) ?_
      exact hret _ _ _ _ _ (Option.some.inj h) rfl hS dX12_partsIn_31
    · replace h := ez_ifn h c_9
      refine lv_iload_n hx hb dX12_partsIn_12 rfl (lv_at hl 2 rfl) ?_
      refine lv_aload_n hx hb dX12_partsIn_13 rfl (lv_at hl 0 rfl) ?_
      refine lv_iload_n hx hb dX12_partsIn_14 rfl (lv_at hl 1 rfl) ?_
      refine lv_iload_n hx hb dX12_partsIn_15 rfl (lv_at hl 3 rfl) ?_
      refine ez_cVpi (As := [.int x1, .int x3]) (rest := [.int x2]) h (fun _ q => c_X12_partsOf q) hC k_X12_partsOf ql_RX12_447 rfl (by decide) hS (fun _ q => ez_rcv q) rfl hl.1 rfl (Nat.le_of_ble_eq_true rfl) ⟨Nat.zero_le _, Nat.zero_le _⟩ dX12_partsIn_16 (fun t_16 H locs hS h => ?_)
      refine ez_cSpi (As := [.int t_16]) (rest := [.int x2]) h (fun _ q => c_X12_bitsOf q) hC k_X12_bitsOf ql_RX12_471 rfl (by decide) hS hl.1 rfl (Nat.le_of_ble_eq_true rfl) ⟨Nat.zero_le _, Nat.zero_le _⟩ dX12_partsIn_19 (fun t_19 H locs hS h => ?_)
      refine lv_iadd hx hb dX12_partsIn_22 ?_
      refine ez_top h (fun t_22 h => ?_)
      refine lv_istore_n (lv' := [(2, .int t_22), (0, .ref (B + h0)), (1, .int x1), (3, .int x3)]) hx hb dX12_partsIn_23 rfl hl (by decide) rfl (fun ls hl => ?_)
      obtain ⟨t_24, e_24, h⟩ := ez_let_sp h
      refine lv_iinc (v := t_24) (lv' := [(3, .int t_24), (2, .int t_22), (0, .ref (B + h0)), (1, .int x1)]) hx hb dX12_partsIn_24 hl (k := 3) rfl (by rw [e_24]; rfl) (by decide) rfl (fun ls hl => ?_)
      refine lv_goto (tgt := 4) hx hb dX12_partsIn_27 (by decide) ?_
      exact hk_4 h0 x1 t_22 t_24 _ _ _ hS h (lv_sub hl [2, 3, 1, 0] rfl)
  have E_4 : ∀ (h0 : Nat) (x1 : Int32) (x2 : Int32) (x3 : Int32) (H : Heap) (locs : List Loc) (ls : Array Slot), ez_S X B s.heap (n0) σ H locs → (ez_fix (fun _ _ _ _ => none) (z_X12_partsIn_4 σ) ez_N) h0 x1 x2 x3 = some z → lv_has ls 4 [(0, .ref (B + h0)), (1, .int x1), (2, .int x2), (3, .int x3)] → W p l e R s m args below meth c H locs 0 0 Q (F0 m 4 ls []) := ez_fix_ind (fun k_4 : Nat → Int32 → Int32 → Int32 → Option (Int32) => ∀ (h0 : Nat) (x1 : Int32) (x2 : Int32) (x3 : Int32) (H : Heap) (locs : List Loc) (ls : Array Slot), ez_S X B s.heap (n0) σ H locs → k_4 h0 x1 x2 x3 = some z → lv_has ls 4 [(0, .ref (B + h0)), (1, .int x1), (2, .int x2), (3, .int x3)] → W p l e R s m args below meth c H locs 0 0 Q (F0 m 4 ls [])) (fun _ _ _ _ _ _ _ _ h _ => by cases h) (fun k_4 hk_4 => K_4 k_4 hk_4) ez_N
  refine lv_iconst (v := 0) hx hb dX12_partsIn_0 (by decide) ?_
  refine lv_istore_n (lv' := [(2, .int 0), (0, .ref (B + h0)), (1, .int x1)]) hx hb dX12_partsIn_1 rfl hl (by decide) rfl (fun ls hl => ?_)
  refine lv_iconst (v := 0) hx hb dX12_partsIn_2 (by decide) ?_
  refine lv_istore_n (lv' := [(3, .int 0), (2, .int 0), (0, .ref (B + h0)), (1, .int x1)]) hx hb dX12_partsIn_3 rfl hl (by decide) rfl (fun ls hl => ?_)
  exact E_4  h0 x1 (0 : Int32) (0 : Int32) _ _ _ hS h (lv_sub hl [2, 3, 1, 0] rfl)
set_option maxHeartbeats 4000000 in
set_option maxRecDepth 100000 in
theorem c_X12_lock {l : Launch} {X : ez_X} {B : Nat} {σ : ez_H} {h0 : Nat} {x1 : Int32} {x2 : Int32} {z : Int32} (h : z_X12_lock σ h0 x1 x2 = some z) : ez_M l X B σ yX12_lock cX12_lock 3 (some .int) 4 [.ref (B + h0), .int x1, .int x2] (some (.int z)) σ := by
  refine ez_startip (z := z) (by decide) (Nat.le_of_ble_eq_true rfl) (fun p e R s m args below meth c Q hC hret hS ls hl => ?_)
  have hC : ez_C p R s m args c X B RX12 cX12_lock 3 4 := hC
  have hx := hC.1.1
  have hb := hC.1.2.1
  have hown := hC.1.2.2.2.1
  have hts := hC.1.2.2.2.2
  have hl : lv_has ls 3 [(0, .ref (B + h0)), (1, .int x1), (2, .int x2)] := hl
  obtain ⟨n0, e0⟩ : ∃ n0 : Nat, n0 = σ.length := ⟨_, rfl⟩
  rw [← e0] at hret hS
  obtain ⟨-, h⟩ := ez_in h
  refine lv_aload_n hx hb dX12_lock_0 rfl (lv_at hl 0 rfl) ?_
  refine lv_iload_n hx hb dX12_lock_1 rfl (lv_at hl 1 rfl) ?_
  refine ez_cVpi (As := [.int x1]) (rest := []) h (fun _ q => c_X12_isLock q) hC k_X12_isLock ql_RX12_477 rfl (by decide) hS (fun _ q => ez_rcv q) rfl hl.1 rfl (Nat.le_of_ble_eq_true rfl) ⟨Nat.zero_le _, Nat.zero_le _⟩ dX12_lock_2 (fun t_2 H locs hS h => ?_)
  refine lv_if_ne (tgt := 10) hx hb dX12_lock_5 (by decide) (fun c_5 => ?_) (fun c_5 => ?_)
  · replace h := ez_ifn h c_5
    refine lv_iload_n hx hb dX12_lock_10 rfl (lv_at hl 2 rfl) ?_
    by_cases s_11_0 : x2 = 0
    · replace h := ez_ifp h s_11_0
      refine lv_tableIn (tgt := 40) hx hb dX12_lock_11 (by rw [s_11_0]; decide) (by rw [s_11_0]; decide) (by first | (rw [s_11_0]; done) | (rw [s_11_0]; rfl)) (by decide) ?_
      refine lv_aload_n hx hb dX12_lock_40 rfl (lv_at hl 0 rfl) ?_
      refine lv_iload_n hx hb dX12_lock_41 rfl (lv_at hl 1 rfl) ?_
      refine ez_cVpi (As := [.int x1]) (rest := []) h (fun _ q => c_X12_partsIn q) hC k_X12_partsIn ql_RX12_480 rfl (by decide) hS (fun _ q => ez_rcv q) rfl hl.1 rfl (Nat.le_of_ble_eq_true rfl) ⟨Nat.zero_le _, Nat.zero_le _⟩ dX12_lock_42 (fun t_42 H locs hS h => ?_)
      exact hret _ _ _ _ _ (Option.some.inj h) rfl hS dX12_lock_45
    replace h := ez_ifn h s_11_0
    by_cases s_11_1 : x2 = 1
    · replace h := ez_ifp h s_11_1
      refine lv_tableIn (tgt := 46) hx hb dX12_lock_11 (by rw [s_11_1]; decide) (by rw [s_11_1]; decide) (by first | (rw [s_11_1]; done) | (rw [s_11_1]; rfl)) (by decide) ?_
      refine lv_aload_n hx hb dX12_lock_46 rfl (lv_at hl 0 rfl) ?_
      refine lv_iload_n hx hb dX12_lock_47 rfl (lv_at hl 1 rfl) ?_
      refine ez_cVpi (As := [.int x1]) (rest := []) h (fun _ q => c_X12_keysThatOpen q) hC k_X12_keysThatOpen ql_RX12_483 rfl (by decide) hS (fun _ q => ez_rcv q) rfl hl.1 rfl (Nat.le_of_ble_eq_true rfl) ⟨Nat.zero_le _, Nat.zero_le _⟩ dX12_lock_48 (fun t_48 H locs hS h => ?_)
      exact hret _ _ _ _ _ (Option.some.inj h) rfl hS dX12_lock_51
    replace h := ez_ifn h s_11_1
    by_cases s_11_2 : x2 = 2
    · replace h := ez_ifp h s_11_2
      refine lv_tableIn (tgt := 52) hx hb dX12_lock_11 (by rw [s_11_2]; decide) (by rw [s_11_2]; decide) (by first | (rw [s_11_2]; done) | (rw [s_11_2]; rfl)) (by decide) ?_
      refine lv_aload_n hx hb dX12_lock_52 rfl (lv_at hl 0 rfl) ?_
      refine lv_iload_n hx hb dX12_lock_53 rfl (lv_at hl 1 rfl) ?_
      refine ez_cVpi (As := [.int x1]) (rest := []) h (fun _ q => c_X12_mustOf q) hC k_X12_mustOf ql_RX12_486 rfl (by decide) hS (fun _ q => ez_rcv q) rfl hl.1 rfl (Nat.le_of_ble_eq_true rfl) ⟨Nat.zero_le _, Nat.zero_le _⟩ dX12_lock_54 (fun t_54 H locs hS h => ?_)
      exact hret _ _ _ _ _ (Option.some.inj h) rfl hS dX12_lock_57
    replace h := ez_ifn h s_11_2
    by_cases s_11_3 : x2 = 3
    · replace h := ez_ifp h s_11_3
      refine lv_tableIn (tgt := 58) hx hb dX12_lock_11 (by rw [s_11_3]; decide) (by rw [s_11_3]; decide) (by first | (rw [s_11_3]; done) | (rw [s_11_3]; rfl)) (by decide) ?_
      refine lv_aload_n hx hb dX12_lock_58 rfl (lv_at hl 0 rfl) ?_
      refine lv_iload_n hx hb dX12_lock_59 rfl (lv_at hl 1 rfl) ?_
      refine ez_cVpi (As := [.int x1]) (rest := []) h (fun _ q => c_X12_neverOf q) hC k_X12_neverOf ql_RX12_489 rfl (by decide) hS (fun _ q => ez_rcv q) rfl hl.1 rfl (Nat.le_of_ble_eq_true rfl) ⟨Nat.zero_le _, Nat.zero_le _⟩ dX12_lock_60 (fun t_60 H locs hS h => ?_)
      exact hret _ _ _ _ _ (Option.some.inj h) rfl hS dX12_lock_63
    replace h := ez_ifn h s_11_3
    have w_11 : Int32.toInt x2 < 0 ∨ 3 < Int32.toInt x2 := by
      have q_0 := ez_toNe (k := 0) s_11_0 (by decide)
      have q_1 := ez_toNe (k := 1) s_11_1 (by decide)
      have q_2 := ez_toNe (k := 2) s_11_2 (by decide)
      have q_3 := ez_toNe (k := 3) s_11_3 (by decide)
      omega
    refine lv_tableOut (tgt := 64) hx hb dX12_lock_11 w_11 (by decide) ?_
    refine lv_iconst (v := -1) hx hb dX12_lock_64 (by decide) ?_
    exact hret _ _ _ _ _ (Option.some.inj h) rfl hS dX12_lock_65
  · replace h := ez_ifp h c_5
    refine lv_iconst (v := -1) hx hb dX12_lock_8 (by decide) ?_
    exact hret _ _ _ _ _ (Option.some.inj h) rfl hS dX12_lock_9
set_option maxHeartbeats 4000000 in
set_option maxRecDepth 100000 in
theorem c_X12_lose {l : Launch} {X : ez_X} {B : Nat} {σ : ez_H} {h0 : Nat} {x1 : Int32} {z : Int32 × ez_H} (h : z_X12_lose σ h0 x1 = some z) : ez_M l X B σ yX12_lose cX12_lose 2 (some .int) 2 [.ref (B + h0), .int x1] (some (.int z.1)) z.2 := by
  refine ez_starti (z := z) (by decide) (Nat.le_of_ble_eq_true rfl) (fun p e R s m args below meth c Q hC hret hS ls hl => ?_)
  have hC : ez_C p R s m args c X B RX12 cX12_lose 2 2 := hC
  have hx := hC.1.1
  have hb := hC.1.2.1
  have hown := hC.1.2.2.2.1
  have hts := hC.1.2.2.2.2
  have hl : lv_has ls 2 [(0, .ref (B + h0)), (1, .int x1)] := hl
  obtain ⟨σ0, eσ⟩ : ∃ σ0 : ez_H, σ0 = σ := ⟨_, rfl⟩
  rw [← eσ] at hret
  have hS : ez_S X B s.heap σ0.length σ s.heap [] := eσ ▸ hS
  obtain ⟨-, h⟩ := ez_in h
  have K_30 : ∀ (σ : ez_H) (y0 : Int32) (H : Heap) (locs : List Loc) (ls : Array Slot), ez_S X B s.heap (σ0.length) σ H locs → z_X12_lose_30 σ y0 = some z → lv_has ls 2 [] → W p l e R s m args below meth c H locs 0 0 Q (F0 m 30 ls [.int y0]) := by
    intro σ y0 H locs ls hS h hl
    exact hret _ _ _ _ _ _ (Option.some.inj h) rfl hS dX12_lose_30
  have K_28 : ∀ (σ : ez_H) (H : Heap) (locs : List Loc) (ls : Array Slot), ez_S X B s.heap (σ0.length) σ H locs → z_X12_lose_28 σ = some z → lv_has ls 2 [] → W p l e R s m args below meth c H locs 0 0 Q (F0 m 28 ls []) := by
    intro σ H locs ls hS h hl
    refine lv_bipush (v := -3) hx hb dX12_lose_28 (by decide) ?_
    exact K_30  σ (-3 : Int32) _ _ _ hS h (lv_sub hl [] rfl)
  refine lv_aload_n hx hb dX12_lose_0 rfl (lv_at hl 0 rfl) ?_
  refine lv_iload_n hx hb dX12_lose_1 rfl (lv_at hl 1 rfl) ?_
  refine ez_cVpi (As := [.int x1]) (rest := []) h (fun _ q => c_X12_isKey q) hC k_X12_isKey ql_RX12_462 rfl (by decide) hS (fun _ q => ez_rcv q) rfl hl.1 rfl (Nat.le_of_ble_eq_true rfl) ⟨Nat.zero_le _, Nat.zero_le _⟩ dX12_lose_2 (fun t_2 H locs hS h => ?_)
  refine lv_if_eq (tgt := 28) hx hb dX12_lose_5 (by decide) (fun c_5 => ?_) (fun c_5 => ?_)
  · replace h := ez_ifp h c_5
    exact K_28  σ _ _ _ hS h (lv_sub hl [] rfl)
  · replace h := ez_ifn h c_5
    refine lv_aload_n hx hb dX12_lose_8 rfl (lv_at hl 0 rfl) ?_
    refine lv_iload_n hx hb dX12_lose_9 rfl (lv_at hl 1 rfl) ?_
    refine ez_cVpi (As := [.int x1]) (rest := []) h (fun _ q => c_X12_holderOf q) hC k_X12_holderOf ql_RX12_465 rfl (by decide) hS (fun _ q => ez_rcv q) rfl hl.1 rfl (Nat.le_of_ble_eq_true rfl) ⟨Nat.zero_le _, Nat.zero_le _⟩ dX12_lose_10 (fun t_10 H locs hS h => ?_)
    refine lv_bipush (v := -2) hx hb dX12_lose_13 (by decide) ?_
    refine lv_icmp_eq (tgt := 28) hx hb dX12_lose_15 (by decide) (fun c_15 => ?_) (fun c_15 => ?_)
    · replace h := ez_ifp h c_15
      exact K_28  σ _ _ _ hS h (lv_sub hl [] rfl)
    · replace h := ez_ifn h c_15
      refine lv_aload_n hx hb dX12_lose_18 rfl (lv_at hl 0 rfl) ?_
      refine lv_iload_n hx hb dX12_lose_19 rfl (lv_at hl 1 rfl) ?_
      refine lv_bipush (v := -2) hx hb dX12_lose_20 (by decide) ?_
      refine ez_cVi (As := [.int x1, .int (-2)]) (rest := []) h (fun _ q => c_X12_hand q) hC k_X12_hand ql_RX12_603 rfl (by decide) hS (fun _ q => ez_rcv q) rfl hl.1 rfl (Nat.le_of_ble_eq_true rfl) ⟨Nat.zero_le _, Nat.zero_le _⟩ dX12_lose_22 (fun t_22 σ H locs hS h => ?_)
      refine lv_goto (tgt := 30) hx hb dX12_lose_25 (by decide) ?_
      exact K_30  σ t_22 _ _ _ hS h (lv_sub hl [] rfl)
set_option maxHeartbeats 4000000 in
set_option maxRecDepth 100000 in
theorem c_X12_master {l : Launch} {X : ez_X} {B : Nat} {σ : ez_H} {h0 : Nat} {x1 : Int32} {z : Int32} (h : z_X12_master σ h0 x1 = some z) : ez_M l X B σ yX12_master cX12_master 5 (some .int) 3 [.ref (B + h0), .int x1] (some (.int z)) σ := by
  refine ez_startip (z := z) (by decide) (Nat.le_of_ble_eq_true rfl) (fun p e R s m args below meth c Q hC hret hS ls hl => ?_)
  have hC : ez_C p R s m args c X B RX12 cX12_master 5 3 := hC
  have hx := hC.1.1
  have hb := hC.1.2.1
  have hown := hC.1.2.2.2.1
  have hts := hC.1.2.2.2.2
  have hl : lv_has ls 5 [(0, .ref (B + h0)), (1, .int x1)] := hl
  obtain ⟨n0, e0⟩ : ∃ n0 : Nat, n0 = σ.length := ⟨_, rfl⟩
  rw [← e0] at hret hS
  obtain ⟨-, h⟩ := ez_in h
  have K_93 : ∀ (y0 : Int32) (H : Heap) (locs : List Loc) (ls : Array Slot), ez_S X B s.heap (n0) σ H locs → z_X12_master_93 σ y0 = some z → lv_has ls 5 [] → W p l e R s m args below meth c H locs 0 0 Q (F0 m 93 ls [.int y0]) := by
    intro y0 H locs ls hS h hl
    exact hret _ _ _ _ _ (Option.some.inj h) rfl hS dX12_master_93
  have K_65 : ∀ (k_18 : Nat → Int32 → Int32 → Int32 → Int32 → Option (Int32)) (hk_18 : ∀ (h0 : Nat) (x1 : Int32) (x2 : Int32) (x3 : Int32) (x4 : Int32) (H : Heap) (locs : List Loc) (ls : Array Slot), ez_S X B s.heap (n0) σ H locs → k_18 h0 x1 x2 x3 x4 = some z → lv_has ls 5 [(0, .ref (B + h0)), (1, .int x1), (2, .int x2), (3, .int x3), (4, .int x4)] → W p l e R s m args below meth c H locs 0 0 Q (F0 m 18 ls [])), ∀ (h0 : Nat) (x1 : Int32) (x2 : Int32) (x3 : Int32) (x4 : Int32) (H : Heap) (locs : List Loc) (ls : Array Slot), ez_S X B s.heap (n0) σ H locs → z_X12_master_65 σ k_18 h0 x1 x2 x3 x4 = some z → lv_has ls 5 [(0, .ref (B + h0)), (1, .int x1), (2, .int x2), (3, .int x3), (4, .int x4)] → W p l e R s m args below meth c H locs 0 0 Q (F0 m 65 ls []) := by
    intro k_18 hk_18 h0 x1 x2 x3 x4 H locs ls hS h hl
    obtain ⟨t_65, e_65, h⟩ := ez_let_sp h
    refine lv_iinc (v := t_65) (lv' := [(4, .int t_65), (0, .ref (B + h0)), (1, .int x1), (2, .int x2), (3, .int x3)]) hx hb dX12_master_65 hl (k := 4) rfl (by rw [e_65]; rfl) (by decide) rfl (fun ls hl => ?_)
    refine lv_goto (tgt := 18) hx hb dX12_master_68 (by decide) ?_
    exact hk_18 h0 x1 x2 x3 t_65 _ _ _ hS h (lv_sub hl [1, 2, 3, 4, 0] rfl)
  have K_18 : ∀ (k_18 : Nat → Int32 → Int32 → Int32 → Int32 → Option (Int32)) (hk_18 : ∀ (h0 : Nat) (x1 : Int32) (x2 : Int32) (x3 : Int32) (x4 : Int32) (H : Heap) (locs : List Loc) (ls : Array Slot), ez_S X B s.heap (n0) σ H locs → k_18 h0 x1 x2 x3 x4 = some z → lv_has ls 5 [(0, .ref (B + h0)), (1, .int x1), (2, .int x2), (3, .int x3), (4, .int x4)] → W p l e R s m args below meth c H locs 0 0 Q (F0 m 18 ls [])), ∀ (h0 : Nat) (x1 : Int32) (x2 : Int32) (x3 : Int32) (x4 : Int32) (H : Heap) (locs : List Loc) (ls : Array Slot), ez_S X B s.heap (n0) σ H locs → z_X12_master_18 σ k_18 h0 x1 x2 x3 x4 = some z → lv_has ls 5 [(0, .ref (B + h0)), (1, .int x1), (2, .int x2), (3, .int x3), (4, .int x4)] → W p l e R s m args below meth c H locs 0 0 Q (F0 m 18 ls []) := by
    intro k_18 hk_18 h0 x1 x2 x3 x4 H locs ls hS h hl
    refine lv_iload hx hb dX12_master_18 (lv_at hl 4 rfl) ?_
    refine lv_aload_n hx hb dX12_master_20 rfl (lv_at hl 0 rfl) ?_
    refine ez_cVpi (As := []) (rest := [.int x4]) h (fun _ q => c_X12_bittings q) hC k_X12_bittings ql_RX12_438 rfl (by decide) hS (fun _ q => ez_rcv q) rfl hl.1 rfl (Nat.le_of_ble_eq_true rfl) ⟨Nat.zero_le _, Nat.zero_le _⟩ dX12_master_21 (fun t_21 H locs hS h => ?_)
    refine lv_icmp_ge (tgt := 71) hx hb dX12_master_24 (by decide) (fun c_24 => ?_) (fun c_24 => ?_)
    · replace h := ez_ifp h c_24
      refine lv_iload_n hx hb dX12_master_71 rfl (lv_at hl 1 rfl) ?_
      refine lv_if_ne (tgt := 79) hx hb dX12_master_72 (by decide) (fun c_72 => ?_) (fun c_72 => ?_)
      · replace h := ez_ifn h c_72
        refine lv_iload_n hx hb dX12_master_79 rfl (lv_at hl 1 rfl) ?_
        refine lv_iconst (v := 1) hx hb dX12_master_80 (by decide) ?_
        refine lv_icmp_ne (tgt := 88) hx hb dX12_master_81 (by decide) (fun c_81 => ?_) (fun c_81 => ?_)
        · replace h := ez_ifn h c_81
          refine lv_aload_n hx hb dX12_master_88 rfl (lv_at hl 0 rfl) ?_
          refine lv_iload_n hx hb dX12_master_89 rfl (lv_at hl 2 rfl) ?_
          refine ez_cVpi (As := [.int x2]) (rest := []) h (fun _ q => c_X12_openedBy q) hC k_X12_openedBy ql_RX12_459 rfl (by decide) hS (fun _ q => ez_rcv q) rfl hl.1 rfl (Nat.le_of_ble_eq_true rfl) ⟨Nat.zero_le _, Nat.zero_le _⟩ dX12_master_90 (fun t_90 H locs hS h => ?_)
          exact K_93  t_90 _ _ _ hS h (lv_sub hl [] rfl)
        · replace h := ez_ifp h c_81
          refine lv_iload_n hx hb dX12_master_84 rfl (lv_at hl 3 rfl) ?_
          refine lv_goto (tgt := 93) hx hb dX12_master_85 (by decide) ?_
          exact K_93  x3 _ _ _ hS h (lv_sub hl [] rfl)
      · replace h := ez_ifp h c_72
        refine lv_iload_n hx hb dX12_master_75 rfl (lv_at hl 2 rfl) ?_
        refine lv_goto (tgt := 93) hx hb dX12_master_76 (by decide) ?_
        exact K_93  x2 _ _ _ hS h (lv_sub hl [] rfl)
    · replace h := ez_ifn h c_24
      refine lv_aload_n hx hb dX12_master_27 rfl (lv_at hl 0 rfl) ?_
      refine lv_iload hx hb dX12_master_28 (lv_at hl 4 rfl) ?_
      refine ez_cVpi (As := [.int x4]) (rest := []) h (fun _ q => c_X12_isLegal q) hC k_X12_isLegal ql_RX12_456 rfl (by decide) hS (fun _ q => ez_rcv q) rfl hl.1 rfl (Nat.le_of_ble_eq_true rfl) ⟨Nat.zero_le _, Nat.zero_le _⟩ dX12_master_30 (fun t_30 H locs hS h => ?_)
      refine lv_if_eq (tgt := 65) hx hb dX12_master_33 (by decide) (fun c_33 => ?_) (fun c_33 => ?_)
      · replace h := ez_ifp h c_33
        exact K_65 k_18 hk_18 h0 x1 x2 x3 x4 _ _ _ hS h (lv_sub hl [0, 1, 2, 3, 4] rfl)
      · replace h := ez_ifn h c_33
        refine lv_aload_n hx hb dX12_master_36 rfl (lv_at hl 0 rfl) ?_
        refine lv_iload hx hb dX12_master_37 (lv_at hl 4 rfl) ?_
        refine ez_cVpi (As := [.int x4]) (rest := []) h (fun _ q => c_X12_openedBy q) hC k_X12_openedBy ql_RX12_459 rfl (by decide) hS (fun _ q => ez_rcv q) rfl hl.1 rfl (Nat.le_of_ble_eq_true rfl) ⟨Nat.zero_le _, Nat.zero_le _⟩ dX12_master_39 (fun t_39 H locs hS h => ?_)
        refine ez_cSpi (As := [.int t_39]) (rest := []) h (fun _ q => c_X12_bitsOf q) hC k_X12_bitsOf ql_RX12_471 rfl (by decide) hS hl.1 rfl (Nat.le_of_ble_eq_true rfl) ⟨Nat.zero_le _, Nat.zero_le _⟩ dX12_master_42 (fun t_42 H locs hS h => ?_)
        refine lv_iload_n hx hb dX12_master_45 rfl (lv_at hl 3 rfl) ?_
        refine lv_icmp_gt (tgt := 52) hx hb dX12_master_46 (by decide) (fun c_46 => ?_) (fun c_46 => ?_)
        · replace h := ez_ifp h c_46
          refine lv_iload hx hb dX12_master_52 (lv_at hl 4 rfl) ?_
          refine lv_istore_n (lv' := [(2, .int x4), (0, .ref (B + h0)), (1, .int x1), (3, .int x3), (4, .int x4)]) hx hb dX12_master_54 rfl hl (by decide) rfl (fun ls hl => ?_)
          refine lv_aload_n hx hb dX12_master_55 rfl (lv_at hl 1 rfl) ?_
          refine lv_iload hx hb dX12_master_56 (lv_at hl 4 rfl) ?_
          refine ez_cVpi (As := [.int x4]) (rest := []) h (fun _ q => c_X12_openedBy q) hC k_X12_openedBy ql_RX12_459 rfl (by decide) hS (fun _ q => ez_rcv q) rfl hl.1 rfl (Nat.le_of_ble_eq_true rfl) ⟨Nat.zero_le _, Nat.zero_le _⟩ dX12_master_58 (fun t_58 H locs hS h => ?_)
          refine ez_cSpi (As := [.int t_58]) (rest := []) h (fun _ q => c_X12_bitsOf q) hC k_X12_bitsOf ql_RX12_471 rfl (by decide) hS hl.1 rfl (Nat.le_of_ble_eq_true rfl) ⟨Nat.zero_le _, Nat.zero_le _⟩ dX12_master_61 (fun t_61 H locs hS h => ?_)
          refine lv_istore_n (lv' := [(3, .int t_61), (2, .int x4), (0, .ref (B + h0)), (1, .int x1), (4, .int x4)]) hx hb dX12_master_64 rfl hl (by decide) rfl (fun ls hl => ?_)
          exact K_65 k_18 hk_18 h0 x1 x4 t_61 x4 _ _ _ hS h (lv_sub hl [2, 3, 1, 0, 4] rfl)
        · replace h := ez_ifn h c_46
          refine lv_goto (tgt := 65) hx hb dX12_master_49 (by decide) ?_
          exact K_65 k_18 hk_18 h0 x1 x2 x3 x4 _ _ _ hS h (lv_sub hl [0, 1, 2, 3, 4] rfl)
  have E_18 : ∀ (h0 : Nat) (x1 : Int32) (x2 : Int32) (x3 : Int32) (x4 : Int32) (H : Heap) (locs : List Loc) (ls : Array Slot), ez_S X B s.heap (n0) σ H locs → (ez_fix (fun _ _ _ _ _ => none) (z_X12_master_18 σ) ez_N) h0 x1 x2 x3 x4 = some z → lv_has ls 5 [(0, .ref (B + h0)), (1, .int x1), (2, .int x2), (3, .int x3), (4, .int x4)] → W p l e R s m args below meth c H locs 0 0 Q (F0 m 18 ls []) := ez_fix_ind (fun k_18 : Nat → Int32 → Int32 → Int32 → Int32 → Option (Int32) => ∀ (h0 : Nat) (x1 : Int32) (x2 : Int32) (x3 : Int32) (x4 : Int32) (H : Heap) (locs : List Loc) (ls : Array Slot), ez_S X B s.heap (n0) σ H locs → k_18 h0 x1 x2 x3 x4 = some z → lv_has ls 5 [(0, .ref (B + h0)), (1, .int x1), (2, .int x2), (3, .int x3), (4, .int x4)] → W p l e R s m args below meth c H locs 0 0 Q (F0 m 18 ls [])) (fun _ _ _ _ _ _ _ _ _ h _ => by cases h) (fun k_18 hk_18 => K_18 k_18 hk_18) ez_N
  refine lv_iload_n hx hb dX12_master_0 rfl (lv_at hl 1 rfl) ?_
  refine lv_iconst (v := 0) hx hb dX12_master_1 (by decide) ?_
  refine lv_iconst (v := 2) hx hb dX12_master_2 (by decide) ?_
  refine ez_cSpi (As := [.int x1, .int 0, .int 2]) (rest := []) h (fun _ q => c_X12_isIn q) hC k_X12_isIn ql_RX12_407 rfl (by decide) hS hl.1 rfl (Nat.le_of_ble_eq_true rfl) ⟨Nat.zero_le _, Nat.zero_le _⟩ dX12_master_3 (fun t_3 H locs hS h => ?_)
  refine lv_if_ne (tgt := 11) hx hb dX12_master_6 (by decide) (fun c_6 => ?_) (fun c_6 => ?_)
  · replace h := ez_ifn h c_6
    refine lv_iconst (v := -1) hx hb dX12_master_11 (by decide) ?_
    refine lv_istore_n (lv' := [(2, .int (-1)), (0, .ref (B + h0)), (1, .int x1)]) hx hb dX12_master_12 rfl hl (by decide) rfl (fun ls hl => ?_)
    refine lv_iconst (v := -1) hx hb dX12_master_13 (by decide) ?_
    refine lv_istore_n (lv' := [(3, .int (-1)), (2, .int (-1)), (0, .ref (B + h0)), (1, .int x1)]) hx hb dX12_master_14 rfl hl (by decide) rfl (fun ls hl => ?_)
    refine lv_iconst (v := 0) hx hb dX12_master_15 (by decide) ?_
    refine lv_istore (lv' := [(4, .int 0), (3, .int (-1)), (2, .int (-1)), (0, .ref (B + h0)), (1, .int x1)]) hx hb dX12_master_16 hl (by decide) rfl (fun ls hl => ?_)
    exact E_18  h0 x1 (-1 : Int32) (-1 : Int32) (0 : Int32) _ _ _ hS h (lv_sub hl [3, 4, 2, 1, 0] rfl)
  · replace h := ez_ifp h c_6
    refine lv_iconst (v := -1) hx hb dX12_master_9 (by decide) ?_
    exact hret _ _ _ _ _ (Option.some.inj h) rfl hS dX12_master_10
set_option maxHeartbeats 4000000 in
set_option maxRecDepth 100000 in
theorem c_X12_divisor {l : Launch} {X : ez_X} {B : Nat} {σ : ez_H} {x0 : Int32} {x1 : Int32} {z : Int32} (h : z_X12_divisor σ x0 x1 = some z) : ez_M l X B σ yX12_divisor cX12_divisor 5 (some .int) 0 [.int x0, .int x1] (some (.int z)) σ := by
  refine ez_startip (z := z) (by decide) (Nat.le_of_ble_eq_true rfl) (fun p e R s m args below meth c Q hC hret hS ls hl => ?_)
  have hC : ez_C p R s m args c X B RX12 cX12_divisor 5 0 := hC
  have hx := hC.1.1
  have hb := hC.1.2.1
  have hown := hC.1.2.2.2.1
  have hts := hC.1.2.2.2.2
  have hl : lv_has ls 5 [(0, .int x0), (1, .int x1)] := hl
  obtain ⟨n0, e0⟩ : ∃ n0 : Nat, n0 = σ.length := ⟨_, rfl⟩
  rw [← e0] at hret hS
  have K_4 : ∀ (k_4 : Int32 → Int32 → Option (Int32)) (hk_4 : ∀ (x2 : Int32) (x3 : Int32) (H : Heap) (locs : List Loc) (ls : Array Slot), ez_S X B s.heap (n0) σ H locs → k_4 x2 x3 = some z → lv_has ls 5 [(2, .int x2), (3, .int x3)] → W p l e R s m args below meth c H locs 0 0 Q (F0 m 4 ls [])), ∀ (x2 : Int32) (x3 : Int32) (H : Heap) (locs : List Loc) (ls : Array Slot), ez_S X B s.heap (n0) σ H locs → z_X12_divisor_4 σ k_4 x2 x3 = some z → lv_has ls 5 [(2, .int x2), (3, .int x3)] → W p l e R s m args below meth c H locs 0 0 Q (F0 m 4 ls []) := by
    intro k_4 hk_4 x2 x3 H locs ls hS h hl
    refine lv_iload_n hx hb dX12_divisor_4 rfl (lv_at hl 1 rfl) ?_
    refine lv_if_le (tgt := 21) hx hb dX12_divisor_5 (by decide) (fun c_5 => ?_) (fun c_5 => ?_)
    · replace h := ez_ifp h c_5
      refine lv_iload_n hx hb dX12_divisor_21 rfl (lv_at hl 0 rfl) ?_
      exact hret _ _ _ _ _ (Option.some.inj h) rfl hS dX12_divisor_22
    · replace h := ez_ifn h c_5
      refine lv_iload_n hx hb dX12_divisor_8 rfl (lv_at hl 0 rfl) ?_
      refine lv_iload_n hx hb dX12_divisor_9 rfl (lv_at hl 1 rfl) ?_
      obtain ⟨nz_10, h⟩ := ez_nz_sp h
      refine lv_irem hx hb dX12_divisor_10 nz_10 ?_
      refine ez_top h (fun t_10 h => ?_)
      refine lv_istore (lv' := [(4, .int t_10), (2, .int x2), (3, .int x3)]) hx hb dX12_divisor_11 hl (by decide) rfl (fun ls hl => ?_)
      refine lv_iload_n hx hb dX12_divisor_13 rfl (lv_at hl 2 rfl) ?_
      refine lv_istore_n (lv' := [(2, .int x3), (4, .int t_10), (3, .int x3)]) hx hb dX12_divisor_14 rfl hl (by decide) rfl (fun ls hl => ?_)
      refine lv_iload hx hb dX12_divisor_15 (lv_at hl 1 rfl) ?_
      refine lv_istore_n (lv' := [(3, .int t_10), (2, .int x3), (4, .int t_10)]) hx hb dX12_divisor_17 rfl hl (by decide) rfl (fun ls hl => ?_)
      refine lv_goto (tgt := 4) hx hb dX12_divisor_18 (by decide) ?_
      exact hk_4 x3 t_10 _ _ _ hS h (lv_sub hl [1, 0] rfl)
  have E_4 : ∀ (x2 : Int32) (x3 : Int32) (H : Heap) (locs : List Loc) (ls : Array Slot), ez_S X B s.heap (n0) σ H locs → (ez_fix (fun _ _ => none) (z_X12_divisor_4 σ) ez_N) x2 x3 = some z → lv_has ls 5 [(2, .int x2), (3, .int x3)] → W p l e R s m args below meth c H locs 0 0 Q (F0 m 4 ls []) := ez_fix_ind (fun k_4 : Int32 → Int32 → Option (Int32) => ∀ (x2 : Int32) (x3 : Int32) (H : Heap) (locs : List Loc) (ls : Array Slot), ez_S X B s.heap (n0) σ H locs → k_4 x2 x3 = some z → lv_has ls 5 [(2, .int x2), (3, .int x3)] → W p l e R s m args below meth c H locs 0 0 Q (F0 m 4 ls [])) (fun _ _ _ _ _ _ h _ => by cases h) (fun k_4 hk_4 => K_4 k_4 hk_4) ez_N
  refine lv_iload_n hx hb dX12_divisor_0 rfl (lv_at hl 0 rfl) ?_
  refine lv_istore_n (lv' := [(2, .int x0), (0, .int x0), (1, .int x1)]) hx hb dX12_divisor_1 rfl hl (by decide) rfl (fun ls hl => ?_)
  refine lv_iload_n hx hb dX12_divisor_2 rfl (lv_at hl 2 rfl) ?_
  refine lv_istore_n (lv' := [(3, .int x1), (2, .int x0), (0, .int x0), (1, .int x1)]) hx hb dX12_divisor_3 rfl hl (by decide) rfl (fun ls hl => ?_)
  exact E_4  x0 x1 _ _ _ hS h (lv_sub hl [1, 0] rfl)
set_option maxHeartbeats 4000000 in
set_option maxRecDepth 100000 in
theorem c_X12_odds {l : Launch} {X : ez_X} {B : Nat} {σ : ez_H} {h0 : Nat} {x1 : Int32} {x2 : Int32} {z : Int32} (h : z_X12_odds σ h0 x1 x2 = some z) : ez_M l X B σ yX12_odds cX12_odds 5 (some .int) 4 [.ref (B + h0), .int x1, .int x2] (some (.int z)) σ := by
  refine ez_startip (z := z) (by decide) (Nat.le_of_ble_eq_true rfl) (fun p e R s m args below meth c Q hC hret hS ls hl => ?_)
  have hC : ez_C p R s m args c X B RX12 cX12_odds 5 4 := hC
  have hx := hC.1.1
  have hb := hC.1.2.1
  have hown := hC.1.2.2.2.1
  have hts := hC.1.2.2.2.2
  have hl : lv_has ls 5 [(0, .ref (B + h0)), (1, .int x1), (2, .int x2)] := hl
  obtain ⟨n0, e0⟩ : ∃ n0 : Nat, n0 = σ.length := ⟨_, rfl⟩
  rw [← e0] at hret hS
  obtain ⟨-, h⟩ := ez_in h
  have K_17 : ∀ (H : Heap) (locs : List Loc) (ls : Array Slot), ez_S X B s.heap (n0) σ H locs → z_X12_odds_17 σ = some z → lv_has ls 5 [] → W p l e R s m args below meth c H locs 0 0 Q (F0 m 17 ls []) := by
    intro  H locs ls hS h hl
    refine lv_iconst (v := -1) hx hb dX12_odds_17 (by decide) ?_
    exact hret _ _ _ _ _ (Option.some.inj h) rfl hS dX12_odds_18
  have K_43 : ∀ (x3 : Int32) (x4 : Int32) (y0 : Int32) (H : Heap) (locs : List Loc) (ls : Array Slot), ez_S X B s.heap (n0) σ H locs → z_X12_odds_43 σ x3 x4 y0 = some z → lv_has ls 5 [(3, .int x3), (4, .int x4)] → W p l e R s m args below meth c H locs 0 0 Q (F0 m 43 ls [.int y0]) := by
    intro x3 x4 y0 H locs ls hS h hl
    refine lv_iload hx hb dX12_odds_43 (lv_at hl 1 rfl) ?_
    refine lv_iload_n hx hb dX12_odds_45 rfl (lv_at hl 0 rfl) ?_
    refine ez_cSpi (As := [.int x4, .int x3]) (rest := [.int y0]) h (fun _ q => c_X12_divisor q) hC k_X12_divisor ql_RX12_544 rfl (by decide) hS hl.1 rfl (Nat.le_of_ble_eq_true rfl) ⟨Nat.zero_le _, Nat.zero_le _⟩ dX12_odds_46 (fun t_46 H locs hS h => ?_)
    obtain ⟨nz_49, h⟩ := ez_nz_sp h
    refine lv_idiv hx hb dX12_odds_49 nz_49 ?_
    refine ez_top h (fun t_49 h => ?_)
    exact hret _ _ _ _ _ (Option.some.inj h) rfl hS dX12_odds_50
  refine lv_aload_n hx hb dX12_odds_0 rfl (lv_at hl 0 rfl) ?_
  refine lv_iload_n hx hb dX12_odds_1 rfl (lv_at hl 1 rfl) ?_
  refine ez_cVpi (As := [.int x1]) (rest := []) h (fun _ q => c_X12_isLock q) hC k_X12_isLock ql_RX12_477 rfl (by decide) hS (fun _ q => ez_rcv q) rfl hl.1 rfl (Nat.le_of_ble_eq_true rfl) ⟨Nat.zero_le _, Nat.zero_le _⟩ dX12_odds_2 (fun t_2 H locs hS h => ?_)
  refine lv_if_eq (tgt := 17) hx hb dX12_odds_5 (by decide) (fun c_5 => ?_) (fun c_5 => ?_)
  · replace h := ez_ifp h c_5
    exact K_17   _ _ _ hS h (lv_sub hl [] rfl)
  · replace h := ez_ifn h c_5
    refine lv_iload_n hx hb dX12_odds_8 rfl (lv_at hl 2 rfl) ?_
    refine lv_iconst (v := 0) hx hb dX12_odds_9 (by decide) ?_
    refine lv_iconst (v := 1) hx hb dX12_odds_10 (by decide) ?_
    refine ez_cSpi (As := [.int x2, .int 0, .int 1]) (rest := []) h (fun _ q => c_X12_isIn q) hC k_X12_isIn ql_RX12_407 rfl (by decide) hS hl.1 rfl (Nat.le_of_ble_eq_true rfl) ⟨Nat.zero_le _, Nat.zero_le _⟩ dX12_odds_11 (fun t_11 H locs hS h => ?_)
    refine lv_if_ne (tgt := 19) hx hb dX12_odds_14 (by decide) (fun c_14 => ?_) (fun c_14 => ?_)
    · replace h := ez_ifn h c_14
      refine lv_aload_n hx hb dX12_odds_19 rfl (lv_at hl 0 rfl) ?_
      refine lv_iconst (v := 1) hx hb dX12_odds_20 (by decide) ?_
      refine lv_iload_n hx hb dX12_odds_21 rfl (lv_at hl 1 rfl) ?_
      refine lv_ishl hx hb dX12_odds_22 ?_
      refine ez_top h (fun t_22 h => ?_)
      refine ez_cVpi (As := [.int t_22]) (rest := []) h (fun _ q => c_X12_openers q) hC k_X12_openers ql_RX12_519 rfl (by decide) hS (fun _ q => ez_rcv q) rfl hl.1 rfl (Nat.le_of_ble_eq_true rfl) ⟨Nat.zero_le _, Nat.zero_le _⟩ dX12_odds_23 (fun t_23 H locs hS h => ?_)
      refine lv_istore_n (lv' := [(3, .int t_23), (0, .ref (B + h0)), (1, .int x1), (2, .int x2)]) hx hb dX12_odds_26 rfl hl (by decide) rfl (fun ls hl => ?_)
      refine lv_aload_n hx hb dX12_odds_27 rfl (lv_at hl 1 rfl) ?_
      refine ez_cVpi (As := []) (rest := []) h (fun _ q => c_X12_legal q) hC k_X12_legal ql_RX12_541 rfl (by decide) hS (fun _ q => ez_rcv q) rfl hl.1 rfl (Nat.le_of_ble_eq_true rfl) ⟨Nat.zero_le _, Nat.zero_le _⟩ dX12_odds_28 (fun t_28 H locs hS h => ?_)
      refine lv_istore (lv' := [(4, .int t_28), (3, .int t_23), (0, .ref (B + h0)), (1, .int x1), (2, .int x2)]) hx hb dX12_odds_31 hl (by decide) rfl (fun ls hl => ?_)
      refine lv_iload_n hx hb dX12_odds_33 rfl (lv_at hl 4 rfl) ?_
      refine lv_if_ne (tgt := 41) hx hb dX12_odds_34 (by decide) (fun c_34 => ?_) (fun c_34 => ?_)
      · replace h := ez_ifn h c_34
        refine lv_iload hx hb dX12_odds_41 (lv_at hl 0 rfl) ?_
        exact K_43  t_23 t_28 t_28 _ _ _ hS h (lv_sub hl [1, 0] rfl)
      · replace h := ez_ifp h c_34
        refine lv_iload_n hx hb dX12_odds_37 rfl (lv_at hl 1 rfl) ?_
        refine lv_goto (tgt := 43) hx hb dX12_odds_38 (by decide) ?_
        exact K_43  t_23 t_28 t_23 _ _ _ hS h (lv_sub hl [1, 0] rfl)
    · replace h := ez_ifp h c_14
      exact K_17   _ _ _ hS h (lv_sub hl [] rfl)
set_option maxHeartbeats 4000000 in
set_option maxRecDepth 100000 in
theorem c_X12_opens {l : Launch} {X : ez_X} {B : Nat} {σ : ez_H} {h0 : Nat} {x1 : Int32} {x2 : Int32} {z : Int32} (h : z_X12_opens σ h0 x1 x2 = some z) : ez_M l X B σ yX12_opens cX12_opens 3 (some .int) 3 [.ref (B + h0), .int x1, .int x2] (some (.int z)) σ := by
  refine ez_startip (z := z) (by decide) (Nat.le_of_ble_eq_true rfl) (fun p e R s m args below meth c Q hC hret hS ls hl => ?_)
  have hC : ez_C p R s m args c X B RX12 cX12_opens 3 3 := hC
  have hx := hC.1.1
  have hb := hC.1.2.1
  have hown := hC.1.2.2.2.1
  have hts := hC.1.2.2.2.2
  have hl : lv_has ls 3 [(0, .ref (B + h0)), (1, .int x1), (2, .int x2)] := hl
  obtain ⟨n0, e0⟩ : ∃ n0 : Nat, n0 = σ.length := ⟨_, rfl⟩
  rw [← e0] at hret hS
  obtain ⟨-, h⟩ := ez_in h
  have K_16 : ∀ (H : Heap) (locs : List Loc) (ls : Array Slot), ez_S X B s.heap (n0) σ H locs → z_X12_opens_16 σ = some z → lv_has ls 3 [] → W p l e R s m args below meth c H locs 0 0 Q (F0 m 16 ls []) := by
    intro  H locs ls hS h hl
    refine lv_iconst (v := -1) hx hb dX12_opens_16 (by decide) ?_
    exact hret _ _ _ _ _ (Option.some.inj h) rfl hS dX12_opens_17
  have K_32 : ∀ (y0 : Int32) (H : Heap) (locs : List Loc) (ls : Array Slot), ez_S X B s.heap (n0) σ H locs → z_X12_opens_32 σ y0 = some z → lv_has ls 3 [] → W p l e R s m args below meth c H locs 0 0 Q (F0 m 32 ls [.int y0]) := by
    intro y0 H locs ls hS h hl
    exact hret _ _ _ _ _ (Option.some.inj h) rfl hS dX12_opens_32
  refine lv_aload_n hx hb dX12_opens_0 rfl (lv_at hl 0 rfl) ?_
  refine lv_iload_n hx hb dX12_opens_1 rfl (lv_at hl 1 rfl) ?_
  refine ez_cVpi (As := [.int x1]) (rest := []) h (fun _ q => c_X12_isLegal q) hC k_X12_isLegal ql_RX12_456 rfl (by decide) hS (fun _ q => ez_rcv q) rfl hl.1 rfl (Nat.le_of_ble_eq_true rfl) ⟨Nat.zero_le _, Nat.zero_le _⟩ dX12_opens_2 (fun t_2 H locs hS h => ?_)
  refine lv_if_eq (tgt := 16) hx hb dX12_opens_5 (by decide) (fun c_5 => ?_) (fun c_5 => ?_)
  · replace h := ez_ifp h c_5
    exact K_16   _ _ _ hS h (lv_sub hl [] rfl)
  · replace h := ez_ifn h c_5
    refine lv_aload_n hx hb dX12_opens_8 rfl (lv_at hl 0 rfl) ?_
    refine lv_iload_n hx hb dX12_opens_9 rfl (lv_at hl 2 rfl) ?_
    refine ez_cVpi (As := [.int x2]) (rest := []) h (fun _ q => c_X12_isLock q) hC k_X12_isLock ql_RX12_477 rfl (by decide) hS (fun _ q => ez_rcv q) rfl hl.1 rfl (Nat.le_of_ble_eq_true rfl) ⟨Nat.zero_le _, Nat.zero_le _⟩ dX12_opens_10 (fun t_10 H locs hS h => ?_)
    refine lv_if_ne (tgt := 18) hx hb dX12_opens_13 (by decide) (fun c_13 => ?_) (fun c_13 => ?_)
    · replace h := ez_ifn h c_13
      refine lv_aload_n hx hb dX12_opens_18 rfl (lv_at hl 0 rfl) ?_
      refine lv_iload_n hx hb dX12_opens_19 rfl (lv_at hl 1 rfl) ?_
      refine lv_iload_n hx hb dX12_opens_20 rfl (lv_at hl 2 rfl) ?_
      refine ez_cVpi (As := [.int x1, .int x2]) (rest := []) h (fun _ q => c_X12_doesOpen q) hC k_X12_doesOpen ql_RX12_453 rfl (by decide) hS (fun _ q => ez_rcv q) rfl hl.1 rfl (Nat.le_of_ble_eq_true rfl) ⟨Nat.zero_le _, Nat.zero_le _⟩ dX12_opens_21 (fun t_21 H locs hS h => ?_)
      refine lv_if_eq (tgt := 31) hx hb dX12_opens_24 (by decide) (fun c_24 => ?_) (fun c_24 => ?_)
      · replace h := ez_ifp h c_24
        refine lv_iconst (v := 0) hx hb dX12_opens_31 (by decide) ?_
        exact K_32  (0 : Int32) _ _ _ hS h (lv_sub hl [] rfl)
      · replace h := ez_ifn h c_24
        refine lv_iconst (v := 1) hx hb dX12_opens_27 (by decide) ?_
        refine lv_goto (tgt := 32) hx hb dX12_opens_28 (by decide) ?_
        exact K_32  (1 : Int32) _ _ _ hS h (lv_sub hl [] rfl)
    · replace h := ez_ifp h c_13
      exact K_16   _ _ _ hS h (lv_sub hl [] rfl)
set_option maxHeartbeats 4000000 in
set_option maxRecDepth 100000 in
theorem c_X12_part {l : Launch} {X : ez_X} {B : Nat} {σ : ez_H} {h0 : Nat} {x1 : Int32} {x2 : Int32} {x3 : Int32} {z : Int32 × ez_H} (h : z_X12_part σ h0 x1 x2 x3 = some z) : ez_M l X B σ yX12_part cX12_part 4 (some .int) 2 [.ref (B + h0), .int x1, .int x2, .int x3] (some (.int z.1)) z.2 := by
  refine ez_starti (z := z) (by decide) (Nat.le_of_ble_eq_true rfl) (fun p e R s m args below meth c Q hC hret hS ls hl => ?_)
  have hC : ez_C p R s m args c X B RX12 cX12_part 4 2 := hC
  have hx := hC.1.1
  have hb := hC.1.2.1
  have hown := hC.1.2.2.2.1
  have hts := hC.1.2.2.2.2
  have hl : lv_has ls 4 [(0, .ref (B + h0)), (1, .int x1), (2, .int x2), (3, .int x3)] := hl
  obtain ⟨σ0, eσ⟩ : ∃ σ0 : ez_H, σ0 = σ := ⟨_, rfl⟩
  rw [← eσ] at hret
  have hS : ez_S X B s.heap σ0.length σ s.heap [] := eσ ▸ hS
  obtain ⟨-, h⟩ := ez_in h
  have K_42 : ∀ (σ : ez_H) (H : Heap) (locs : List Loc) (ls : Array Slot), ez_S X B s.heap (σ0.length) σ H locs → z_X12_part_42 σ = some z → lv_has ls 4 [] → W p l e R s m args below meth c H locs 0 0 Q (F0 m 42 ls []) := by
    intro σ H locs ls hS h hl
    refine lv_iconst (v := -1) hx hb dX12_part_42 (by decide) ?_
    exact hret _ _ _ _ _ _ (Option.some.inj h) rfl hS dX12_part_43
  refine lv_aload_n hx hb dX12_part_0 rfl (lv_at hl 0 rfl) ?_
  refine lv_iload_n hx hb dX12_part_1 rfl (lv_at hl 1 rfl) ?_
  refine ez_cVpi (As := [.int x1]) (rest := []) h (fun _ q => c_X12_isLock q) hC k_X12_isLock ql_RX12_477 rfl (by decide) hS (fun _ q => ez_rcv q) rfl hl.1 rfl (Nat.le_of_ble_eq_true rfl) ⟨Nat.zero_le _, Nat.zero_le _⟩ dX12_part_2 (fun t_2 H locs hS h => ?_)
  refine lv_if_eq (tgt := 42) hx hb dX12_part_5 (by decide) (fun c_5 => ?_) (fun c_5 => ?_)
  · replace h := ez_ifp h c_5
    exact K_42  σ _ _ _ hS h (lv_sub hl [] rfl)
  · replace h := ez_ifn h c_5
    refine lv_aload_n hx hb dX12_part_8 rfl (lv_at hl 0 rfl) ?_
    refine lv_iload_n hx hb dX12_part_9 rfl (lv_at hl 2 rfl) ?_
    refine ez_cVpi (As := [.int x2]) (rest := []) h (fun _ q => c_X12_isChamber q) hC k_X12_isChamber ql_RX12_468 rfl (by decide) hS (fun _ q => ez_rcv q) rfl hl.1 rfl (Nat.le_of_ble_eq_true rfl) ⟨Nat.zero_le _, Nat.zero_le _⟩ dX12_part_10 (fun t_10 H locs hS h => ?_)
    refine lv_if_eq (tgt := 42) hx hb dX12_part_13 (by decide) (fun c_13 => ?_) (fun c_13 => ?_)
    · replace h := ez_ifp h c_13
      exact K_42  σ _ _ _ hS h (lv_sub hl [] rfl)
    · replace h := ez_ifn h c_13
      refine lv_iload_n hx hb dX12_part_16 rfl (lv_at hl 3 rfl) ?_
      refine lv_iconst (v := 0) hx hb dX12_part_17 (by decide) ?_
      refine lv_aload_n hx hb dX12_part_18 rfl (lv_at hl 0 rfl) ?_
      refine ez_cVpi (As := []) (rest := [.int 0, .int x3]) h (fun _ q => c_X12_deep q) hC k_X12_deep ql_RX12_429 rfl (by decide) hS (fun _ q => ez_rcv q) rfl hl.1 rfl (Nat.le_of_ble_eq_true rfl) ⟨Nat.zero_le _, Nat.zero_le _⟩ dX12_part_19 (fun t_19 H locs hS h => ?_)
      refine lv_iconst (v := 1) hx hb dX12_part_22 (by decide) ?_
      refine lv_isub hx hb dX12_part_23 ?_
      refine ez_top h (fun t_23 h => ?_)
      refine ez_cSpi (As := [.int x3, .int 0, .int t_23]) (rest := []) h (fun _ q => c_X12_isIn q) hC k_X12_isIn ql_RX12_407 rfl (by decide) hS hl.1 rfl (Nat.le_of_ble_eq_true rfl) ⟨Nat.zero_le _, Nat.zero_le _⟩ dX12_part_24 (fun t_24 H locs hS h => ?_)
      refine lv_if_eq (tgt := 42) hx hb dX12_part_27 (by decide) (fun c_27 => ?_) (fun c_27 => ?_)
      · replace h := ez_ifp h c_27
        exact K_42  σ _ _ _ hS h (lv_sub hl [] rfl)
      · replace h := ez_ifn h c_27
        refine lv_aload_n hx hb dX12_part_30 rfl (lv_at hl 0 rfl) ?_
        refine lv_iload_n hx hb dX12_part_31 rfl (lv_at hl 1 rfl) ?_
        refine lv_iload_n hx hb dX12_part_32 rfl (lv_at hl 2 rfl) ?_
        refine ez_cVpi (As := [.int x1, .int x2]) (rest := []) h (fun _ q => c_X12_partsOf q) hC k_X12_partsOf ql_RX12_447 rfl (by decide) hS (fun _ q => ez_rcv q) rfl hl.1 rfl (Nat.le_of_ble_eq_true rfl) ⟨Nat.zero_le _, Nat.zero_le _⟩ dX12_part_33 (fun t_33 H locs hS h => ?_)
        refine lv_iconst (v := 1) hx hb dX12_part_36 (by decide) ?_
        refine lv_iload_n hx hb dX12_part_37 rfl (lv_at hl 3 rfl) ?_
        refine lv_ishl hx hb dX12_part_38 ?_
        refine ez_top h (fun t_38 h => ?_)
        refine lv_icmp_ne (tgt := 44) hx hb dX12_part_39 (by decide) (fun c_39 => ?_) (fun c_39 => ?_)
        · replace h := ez_ifn h c_39
          refine lv_aload_n hx hb dX12_part_44 rfl (lv_at hl 0 rfl) ?_
          refine ez_cVv (As := []) (rest := []) h (fun _ q => c_X12_keepAct q) hC k_X12_keepAct ql_RX12_600 rfl (by decide) hS (fun _ q => ez_rcv q) rfl hl.1 rfl (Nat.le_of_ble_eq_true rfl) ⟨Nat.zero_le _, Nat.zero_le _⟩ dX12_part_45 (fun _ σ H locs hS h => ?_)
          refine lv_aload_n hx hb dX12_part_48 rfl (lv_at hl 0 rfl) ?_
          refine eg_RX12_118 hC hS h dX12_part_49 (fun t_49 h => ?_)
          refine lv_bipush (v := 56) hx hb dX12_part_52 (by decide) ?_
          refine lv_iconst (v := 5) hx hb dX12_part_54 (by decide) ?_
          refine lv_iload_n hx hb dX12_part_55 rfl (lv_at hl 1 rfl) ?_
          refine lv_imul hx hb dX12_part_56 ?_
          refine ez_top h (fun t_56 h => ?_)
          refine lv_iadd hx hb dX12_part_57 ?_
          refine ez_top h (fun t_57 h => ?_)
          refine lv_iload_n hx hb dX12_part_58 rfl (lv_at hl 2 rfl) ?_
          refine lv_iadd hx hb dX12_part_59 ?_
          refine ez_top h (fun t_59 h => ?_)
          refine lv_dup2_11 hx hb dX12_part_60 rfl rfl ?_
          refine ez_ial hC hS h dX12_part_61 (fun t_61 h => ?_)
          refine lv_iconst (v := 1) hx hb dX12_part_62 (by decide) ?_
          refine lv_iload_n hx hb dX12_part_63 rfl (lv_at hl 3 rfl) ?_
          refine lv_ishl hx hb dX12_part_64 ?_
          refine ez_top h (fun t_64 h => ?_)
          refine lv_ixor hx hb dX12_part_65 ?_
          refine ez_top h (fun t_65 h => ?_)
          refine ez_ias hC hS h dX12_part_66 (fun σ H locs hS h => ?_)
          refine lv_aload_n hx hb dX12_part_67 rfl (lv_at hl 0 rfl) ?_
          refine lv_iload_n hx hb dX12_part_68 rfl (lv_at hl 1 rfl) ?_
          refine lv_iload_n hx hb dX12_part_69 rfl (lv_at hl 2 rfl) ?_
          refine ez_cVpi (As := [.int x1, .int x2]) (rest := []) h (fun _ q => c_X12_partsOf q) hC k_X12_partsOf ql_RX12_447 rfl (by decide) hS (fun _ q => ez_rcv q) rfl hl.1 rfl (Nat.le_of_ble_eq_true rfl) ⟨Nat.zero_le _, Nat.zero_le _⟩ dX12_part_70 (fun t_70 H locs hS h => ?_)
          exact hret _ _ _ _ _ _ (Option.some.inj h) rfl hS dX12_part_73
        · replace h := ez_ifp h c_39
          exact K_42  σ _ _ _ hS h (lv_sub hl [] rfl)
set_option maxHeartbeats 4000000 in
set_option maxRecDepth 100000 in
theorem c_X12_parts {l : Launch} {X : ez_X} {B : Nat} {σ : ez_H} {h0 : Nat} {x1 : Int32} {x2 : Int32} {z : Int32} (h : z_X12_parts σ h0 x1 x2 = some z) : ez_M l X B σ yX12_parts cX12_parts 3 (some .int) 2 [.ref (B + h0), .int x1, .int x2] (some (.int z)) σ := by
  refine ez_startip (z := z) (by decide) (Nat.le_of_ble_eq_true rfl) (fun p e R s m args below meth c Q hC hret hS ls hl => ?_)
  have hC : ez_C p R s m args c X B RX12 cX12_parts 3 2 := hC
  have hx := hC.1.1
  have hb := hC.1.2.1
  have hown := hC.1.2.2.2.1
  have hts := hC.1.2.2.2.2
  have hl : lv_has ls 3 [(0, .ref (B + h0)), (1, .int x1), (2, .int x2)] := hl
  obtain ⟨n0, e0⟩ : ∃ n0 : Nat, n0 = σ.length := ⟨_, rfl⟩
  rw [← e0] at hret hS
  obtain ⟨-, h⟩ := ez_in h
  have K_26 : ∀ (y0 : Int32) (H : Heap) (locs : List Loc) (ls : Array Slot), ez_S X B s.heap (n0) σ H locs → z_X12_parts_26 σ y0 = some z → lv_has ls 3 [] → W p l e R s m args below meth c H locs 0 0 Q (F0 m 26 ls [.int y0]) := by
    intro y0 H locs ls hS h hl
    exact hret _ _ _ _ _ (Option.some.inj h) rfl hS dX12_parts_26
  have K_25 : ∀ (H : Heap) (locs : List Loc) (ls : Array Slot), ez_S X B s.heap (n0) σ H locs → z_X12_parts_25 σ = some z → lv_has ls 3 [] → W p l e R s m args below meth c H locs 0 0 Q (F0 m 25 ls []) := by
    intro  H locs ls hS h hl
    refine lv_iconst (v := -1) hx hb dX12_parts_25 (by decide) ?_
    exact K_26  (-1 : Int32) _ _ _ hS h (lv_sub hl [] rfl)
  refine lv_aload_n hx hb dX12_parts_0 rfl (lv_at hl 0 rfl) ?_
  refine lv_iload_n hx hb dX12_parts_1 rfl (lv_at hl 1 rfl) ?_
  refine ez_cVpi (As := [.int x1]) (rest := []) h (fun _ q => c_X12_isLock q) hC k_X12_isLock ql_RX12_477 rfl (by decide) hS (fun _ q => ez_rcv q) rfl hl.1 rfl (Nat.le_of_ble_eq_true rfl) ⟨Nat.zero_le _, Nat.zero_le _⟩ dX12_parts_2 (fun t_2 H locs hS h => ?_)
  refine lv_if_eq (tgt := 25) hx hb dX12_parts_5 (by decide) (fun c_5 => ?_) (fun c_5 => ?_)
  · replace h := ez_ifp h c_5
    exact K_25   _ _ _ hS h (lv_sub hl [] rfl)
  · replace h := ez_ifn h c_5
    refine lv_aload_n hx hb dX12_parts_8 rfl (lv_at hl 0 rfl) ?_
    refine lv_iload_n hx hb dX12_parts_9 rfl (lv_at hl 2 rfl) ?_
    refine ez_cVpi (As := [.int x2]) (rest := []) h (fun _ q => c_X12_isChamber q) hC k_X12_isChamber ql_RX12_468 rfl (by decide) hS (fun _ q => ez_rcv q) rfl hl.1 rfl (Nat.le_of_ble_eq_true rfl) ⟨Nat.zero_le _, Nat.zero_le _⟩ dX12_parts_10 (fun t_10 H locs hS h => ?_)
    refine lv_if_eq (tgt := 25) hx hb dX12_parts_13 (by decide) (fun c_13 => ?_) (fun c_13 => ?_)
    · replace h := ez_ifp h c_13
      exact K_25   _ _ _ hS h (lv_sub hl [] rfl)
    · replace h := ez_ifn h c_13
      refine lv_aload_n hx hb dX12_parts_16 rfl (lv_at hl 0 rfl) ?_
      refine lv_iload_n hx hb dX12_parts_17 rfl (lv_at hl 1 rfl) ?_
      refine lv_iload_n hx hb dX12_parts_18 rfl (lv_at hl 2 rfl) ?_
      refine ez_cVpi (As := [.int x1, .int x2]) (rest := []) h (fun _ q => c_X12_partsOf q) hC k_X12_partsOf ql_RX12_447 rfl (by decide) hS (fun _ q => ez_rcv q) rfl hl.1 rfl (Nat.le_of_ble_eq_true rfl) ⟨Nat.zero_le _, Nat.zero_le _⟩ dX12_parts_19 (fun t_19 H locs hS h => ?_)
      refine lv_goto (tgt := 26) hx hb dX12_parts_22 (by decide) ?_
      exact K_26  t_19 _ _ _ hS h (lv_sub hl [] rfl)
set_option maxHeartbeats 4000000 in
set_option maxRecDepth 100000 in
theorem c_X12_person {l : Launch} {X : ez_X} {B : Nat} {σ : ez_H} {h0 : Nat} {x1 : Int32} {x2 : Int32} {z : Int32} (h : z_X12_person σ h0 x1 x2 = some z) : ez_M l X B σ yX12_person cX12_person 3 (some .int) 7 [.ref (B + h0), .int x1, .int x2] (some (.int z)) σ := by
  refine ez_startip (z := z) (by decide) (Nat.le_of_ble_eq_true rfl) (fun p e R s m args below meth c Q hC hret hS ls hl => ?_)
  have hC : ez_C p R s m args c X B RX12 cX12_person 3 7 := hC
  have hx := hC.1.1
  have hb := hC.1.2.1
  have hown := hC.1.2.2.2.1
  have hts := hC.1.2.2.2.2
  have hl : lv_has ls 3 [(0, .ref (B + h0)), (1, .int x1), (2, .int x2)] := hl
  obtain ⟨n0, e0⟩ : ∃ n0 : Nat, n0 = σ.length := ⟨_, rfl⟩
  rw [← e0] at hret hS
  obtain ⟨-, h⟩ := ez_in h
  refine lv_aload_n hx hb dX12_person_0 rfl (lv_at hl 0 rfl) ?_
  refine lv_iload_n hx hb dX12_person_1 rfl (lv_at hl 1 rfl) ?_
  refine ez_cVpi (As := [.int x1]) (rest := []) h (fun _ q => c_X12_isPerson q) hC k_X12_isPerson ql_RX12_495 rfl (by decide) hS (fun _ q => ez_rcv q) rfl hl.1 rfl (Nat.le_of_ble_eq_true rfl) ⟨Nat.zero_le _, Nat.zero_le _⟩ dX12_person_2 (fun t_2 H locs hS h => ?_)
  refine lv_if_ne (tgt := 10) hx hb dX12_person_5 (by decide) (fun c_5 => ?_) (fun c_5 => ?_)
  · replace h := ez_ifn h c_5
    refine lv_iload_n hx hb dX12_person_10 rfl (lv_at hl 2 rfl) ?_
    by_cases s_11_0 : x2 = 0
    · replace h := ez_ifp h s_11_0
      refine lv_tableIn (tgt := 36) hx hb dX12_person_11 (by rw [s_11_0]; decide) (by rw [s_11_0]; decide) (by first | (rw [s_11_0]; done) | (rw [s_11_0]; rfl)) (by decide) ?_
      refine lv_aload_n hx hb dX12_person_36 rfl (lv_at hl 0 rfl) ?_
      refine eg_RX12_118 hC hS h dX12_person_37 (fun t_37 h => ?_)
      refine lv_bipush (v := 86) hx hb dX12_person_40 (by decide) ?_
      refine lv_iload_n hx hb dX12_person_42 rfl (lv_at hl 1 rfl) ?_
      refine lv_iadd hx hb dX12_person_43 ?_
      refine ez_top h (fun t_43 h => ?_)
      refine ez_ial hC hS h dX12_person_44 (fun t_44 h => ?_)
      exact hret _ _ _ _ _ (Option.some.inj h) rfl hS dX12_person_45
    replace h := ez_ifn h s_11_0
    by_cases s_11_1 : x2 = 1
    · replace h := ez_ifp h s_11_1
      refine lv_tableIn (tgt := 46) hx hb dX12_person_11 (by rw [s_11_1]; decide) (by rw [s_11_1]; decide) (by first | (rw [s_11_1]; done) | (rw [s_11_1]; rfl)) (by decide) ?_
      refine lv_aload_n hx hb dX12_person_46 rfl (lv_at hl 0 rfl) ?_
      refine lv_iload_n hx hb dX12_person_47 rfl (lv_at hl 1 rfl) ?_
      refine ez_cVpi (As := [.int x1]) (rest := []) h (fun _ q => c_X12_keysOf q) hC k_X12_keysOf ql_RX12_498 rfl (by decide) hS (fun _ q => ez_rcv q) rfl hl.1 rfl (Nat.le_of_ble_eq_true rfl) ⟨Nat.zero_le _, Nat.zero_le _⟩ dX12_person_48 (fun t_48 H locs hS h => ?_)
      exact hret _ _ _ _ _ (Option.some.inj h) rfl hS dX12_person_51
    replace h := ez_ifn h s_11_1
    by_cases s_11_2 : x2 = 2
    · replace h := ez_ifp h s_11_2
      refine lv_tableIn (tgt := 52) hx hb dX12_person_11 (by rw [s_11_2]; decide) (by rw [s_11_2]; decide) (by first | (rw [s_11_2]; done) | (rw [s_11_2]; rfl)) (by decide) ?_
      refine lv_aload_n hx hb dX12_person_52 rfl (lv_at hl 0 rfl) ?_
      refine lv_iload_n hx hb dX12_person_53 rfl (lv_at hl 1 rfl) ?_
      refine ez_cVpi (As := [.int x1]) (rest := []) h (fun _ q => c_X12_reachOf q) hC k_X12_reachOf ql_RX12_501 rfl (by decide) hS (fun _ q => ez_rcv q) rfl hl.1 rfl (Nat.le_of_ble_eq_true rfl) ⟨Nat.zero_le _, Nat.zero_le _⟩ dX12_person_54 (fun t_54 H locs hS h => ?_)
      exact hret _ _ _ _ _ (Option.some.inj h) rfl hS dX12_person_57
    replace h := ez_ifn h s_11_2
    have w_11 : Int32.toInt x2 < 0 ∨ 2 < Int32.toInt x2 := by
      have q_0 := ez_toNe (k := 0) s_11_0 (by decide)
      have q_1 := ez_toNe (k := 1) s_11_1 (by decide)
      have q_2 := ez_toNe (k := 2) s_11_2 (by decide)
      omega
    refine lv_tableOut (tgt := 58) hx hb dX12_person_11 w_11 (by decide) ?_
    refine lv_iconst (v := -1) hx hb dX12_person_58 (by decide) ?_
    exact hret _ _ _ _ _ (Option.some.inj h) rfl hS dX12_person_59
  · replace h := ez_ifp h c_5
    refine lv_iconst (v := -1) hx hb dX12_person_8 (by decide) ?_
    exact hret _ _ _ _ _ (Option.some.inj h) rfl hS dX12_person_9
set_option maxHeartbeats 4000000 in
set_option maxRecDepth 100000 in
theorem c_X12_pin {l : Launch} {X : ez_X} {B : Nat} {σ : ez_H} {h0 : Nat} {x1 : Int32} {x2 : Int32} {z : Int32 × ez_H} (h : z_X12_pin σ h0 x1 x2 = some z) : ez_M l X B σ yX12_pin cX12_pin 3 (some .int) 2 [.ref (B + h0), .int x1, .int x2] (some (.int z.1)) z.2 := by
  refine ez_starti (z := z) (by decide) (Nat.le_of_ble_eq_true rfl) (fun p e R s m args below meth c Q hC hret hS ls hl => ?_)
  have hC : ez_C p R s m args c X B RX12 cX12_pin 3 2 := hC
  have hx := hC.1.1
  have hb := hC.1.2.1
  have hown := hC.1.2.2.2.1
  have hts := hC.1.2.2.2.2
  have hl : lv_has ls 3 [(0, .ref (B + h0)), (1, .int x1), (2, .int x2)] := hl
  obtain ⟨σ0, eσ⟩ : ∃ σ0 : ez_H, σ0 = σ := ⟨_, rfl⟩
  rw [← eσ] at hret
  have hS : ez_S X B s.heap σ0.length σ s.heap [] := eσ ▸ hS
  obtain ⟨-, h⟩ := ez_in h
  have K_27 : ∀ (σ : ez_H) (H : Heap) (locs : List Loc) (ls : Array Slot), ez_S X B s.heap (σ0.length) σ H locs → z_X12_pin_27 σ = some z → lv_has ls 3 [] → W p l e R s m args below meth c H locs 0 0 Q (F0 m 27 ls []) := by
    intro σ H locs ls hS h hl
    refine lv_iconst (v := -1) hx hb dX12_pin_27 (by decide) ?_
    exact hret _ _ _ _ _ _ (Option.some.inj h) rfl hS dX12_pin_28
  refine lv_aload_n hx hb dX12_pin_0 rfl (lv_at hl 0 rfl) ?_
  refine lv_iload_n hx hb dX12_pin_1 rfl (lv_at hl 1 rfl) ?_
  refine ez_cVpi (As := [.int x1]) (rest := []) h (fun _ q => c_X12_isLock q) hC k_X12_isLock ql_RX12_477 rfl (by decide) hS (fun _ q => ez_rcv q) rfl hl.1 rfl (Nat.le_of_ble_eq_true rfl) ⟨Nat.zero_le _, Nat.zero_le _⟩ dX12_pin_2 (fun t_2 H locs hS h => ?_)
  refine lv_if_eq (tgt := 27) hx hb dX12_pin_5 (by decide) (fun c_5 => ?_) (fun c_5 => ?_)
  · replace h := ez_ifp h c_5
    exact K_27  σ _ _ _ hS h (lv_sub hl [] rfl)
  · replace h := ez_ifn h c_5
    refine lv_iload_n hx hb dX12_pin_8 rfl (lv_at hl 2 rfl) ?_
    refine lv_if_eq (tgt := 27) hx hb dX12_pin_9 (by decide) (fun c_9 => ?_) (fun c_9 => ?_)
    · replace h := ez_ifp h c_9
      exact K_27  σ _ _ _ hS h (lv_sub hl [] rfl)
    · replace h := ez_ifn h c_9
      refine lv_iload_n hx hb dX12_pin_12 rfl (lv_at hl 2 rfl) ?_
      refine lv_iconst (v := 1) hx hb dX12_pin_13 (by decide) ?_
      refine lv_aload_n hx hb dX12_pin_14 rfl (lv_at hl 0 rfl) ?_
      refine ez_cVpi (As := []) (rest := [.int 1, .int x2]) h (fun _ q => c_X12_many q) hC k_X12_many ql_RX12_404 rfl (by decide) hS (fun _ q => ez_rcv q) rfl hl.1 rfl (Nat.le_of_ble_eq_true rfl) ⟨Nat.zero_le _, Nat.zero_le _⟩ dX12_pin_15 (fun t_15 H locs hS h => ?_)
      refine lv_ishl hx hb dX12_pin_18 ?_
      refine ez_top h (fun t_18 h => ?_)
      refine lv_iconst (v := 1) hx hb dX12_pin_19 (by decide) ?_
      refine lv_isub hx hb dX12_pin_20 ?_
      refine ez_top h (fun t_20 h => ?_)
      refine lv_iconst (v := -1) hx hb dX12_pin_21 (by decide) ?_
      refine lv_ixor hx hb dX12_pin_22 ?_
      refine ez_top h (fun t_22 h => ?_)
      refine lv_iand hx hb dX12_pin_23 ?_
      refine ez_top h (fun t_23 h => ?_)
      refine lv_if_eq (tgt := 29) hx hb dX12_pin_24 (by decide) (fun c_24 => ?_) (fun c_24 => ?_)
      · replace h := ez_ifp h c_24
        refine lv_aload_n hx hb dX12_pin_29 rfl (lv_at hl 0 rfl) ?_
        refine ez_cVv (As := []) (rest := []) h (fun _ q => c_X12_keepAct q) hC k_X12_keepAct ql_RX12_600 rfl (by decide) hS (fun _ q => ez_rcv q) rfl hl.1 rfl (Nat.le_of_ble_eq_true rfl) ⟨Nat.zero_le _, Nat.zero_le _⟩ dX12_pin_30 (fun _ σ H locs hS h => ?_)
        refine lv_aload_n hx hb dX12_pin_33 rfl (lv_at hl 0 rfl) ?_
        refine lv_iload_n hx hb dX12_pin_34 rfl (lv_at hl 1 rfl) ?_
        refine lv_iload_n hx hb dX12_pin_35 rfl (lv_at hl 2 rfl) ?_
        refine ez_cVv (As := [.int x1, .int x2]) (rest := []) h (fun _ q => c_X12_pinFor q) hC k_X12_pinFor ql_RX12_550 rfl (by decide) hS (fun _ q => ez_rcv q) rfl hl.1 rfl (Nat.le_of_ble_eq_true rfl) ⟨Nat.zero_le _, Nat.zero_le _⟩ dX12_pin_36 (fun _ σ H locs hS h => ?_)
        refine lv_aload_n hx hb dX12_pin_39 rfl (lv_at hl 0 rfl) ?_
        refine lv_iload_n hx hb dX12_pin_40 rfl (lv_at hl 1 rfl) ?_
        refine ez_cVpi (As := [.int x1]) (rest := []) h (fun _ q => c_X12_partsIn q) hC k_X12_partsIn ql_RX12_480 rfl (by decide) hS (fun _ q => ez_rcv q) rfl hl.1 rfl (Nat.le_of_ble_eq_true rfl) ⟨Nat.zero_le _, Nat.zero_le _⟩ dX12_pin_41 (fun t_41 H locs hS h => ?_)
        exact hret _ _ _ _ _ _ (Option.some.inj h) rfl hS dX12_pin_44
      · replace h := ez_ifn h c_24
        exact K_27  σ _ _ _ hS h (lv_sub hl [] rfl)
set_option maxHeartbeats 4000000 in
set_option maxRecDepth 100000 in
theorem c_X12_sign {l : Launch} {X : ez_X} {B : Nat} {σ : ez_H} {h0 : Nat} {x1 : Int32} {z : Int32} (h : z_X12_sign σ h0 x1 = some z) : ez_M l X B σ yX12_sign cX12_sign 2 (some .int) 0 [.ref (B + h0), .int x1] (some (.int z)) σ := by
  refine ez_startip (z := z) (by decide) (Nat.le_of_ble_eq_true rfl) (fun p e R s m args below meth c Q hC hret hS ls hl => ?_)
  have hC : ez_C p R s m args c X B RX12 cX12_sign 2 0 := hC
  have hx := hC.1.1
  have hb := hC.1.2.1
  have hown := hC.1.2.2.2.1
  have hts := hC.1.2.2.2.2
  have hl : lv_has ls 2 [(0, .ref (B + h0)), (1, .int x1)] := hl
  obtain ⟨n0, e0⟩ : ∃ n0 : Nat, n0 = σ.length := ⟨_, rfl⟩
  rw [← e0] at hret hS
  obtain ⟨-, h⟩ := ez_in h
  have K_22 : ∀ (y0 : Int32) (H : Heap) (locs : List Loc) (ls : Array Slot), ez_S X B s.heap (n0) σ H locs → z_X12_sign_22 σ y0 = some z → lv_has ls 2 [] → W p l e R s m args below meth c H locs 0 0 Q (F0 m 22 ls [.int y0]) := by
    intro y0 H locs ls hS h hl
    exact hret _ _ _ _ _ (Option.some.inj h) rfl hS dX12_sign_22
  refine lv_iload_n hx hb dX12_sign_0 rfl (lv_at hl 1 rfl) ?_
  refine lv_aload_n hx hb dX12_sign_1 rfl (lv_at hl 0 rfl) ?_
  refine eg_RX12_161 hC hS h dX12_sign_2 (fun t_2 h => ?_)
  refine lv_icmp_ge (tgt := 21) hx hb dX12_sign_5 (by decide) (fun c_5 => ?_) (fun c_5 => ?_)
  · replace h := ez_ifp h c_5
    refine lv_iconst (v := 0) hx hb dX12_sign_21 (by decide) ?_
    exact K_22  (0 : Int32) _ _ _ hS h (lv_sub hl [] rfl)
  · replace h := ez_ifn h c_5
    refine lv_aload_n hx hb dX12_sign_8 rfl (lv_at hl 0 rfl) ?_
    refine eg_RX12_13 hC hS h dX12_sign_9 (fun t_9 h => ?_)
    refine lv_iload_n hx hb dX12_sign_12 rfl (lv_at hl 1 rfl) ?_
    refine ez_bal hC hS h dX12_sign_13 (fun t_13 h => ?_)
    refine lv_sipush (v := 255) hx hb dX12_sign_14 (by decide) ?_
    refine lv_iand hx hb dX12_sign_17 ?_
    refine ez_top h (fun t_17 h => ?_)
    refine lv_goto (tgt := 22) hx hb dX12_sign_18 (by decide) ?_
    exact K_22  t_17 _ _ _ hS h (lv_sub hl [] rfl)
set_option maxHeartbeats 4000000 in
set_option maxRecDepth 100000 in
theorem c_X12_isKept {l : Launch} {X : ez_X} {B : Nat} {σ : ez_H} {x0 : Int64} {z : Int32} (h : z_X12_isKept σ x0 = some z) : ez_M l X B σ yX12_isKept cX12_isKept 3 (some .boolean) 0 [.long x0] (some (.int z)) σ := by
  refine ez_startip (z := z) (by decide) (Nat.le_of_ble_eq_true rfl) (fun p e R s m args below meth c Q hC hret hS ls hl => ?_)
  have hC : ez_C p R s m args c X B RX12 cX12_isKept 3 0 := hC
  have hx := hC.1.1
  have hb := hC.1.2.1
  have hown := hC.1.2.2.2.1
  have hts := hC.1.2.2.2.2
  have hl : lv_has ls 3 [(0, .long x0)] := hl
  obtain ⟨n0, e0⟩ : ∃ n0 : Nat, n0 = σ.length := ⟨_, rfl⟩
  rw [← e0] at hret hS
  have K_199 : ∀ (y0 : Int32) (H : Heap) (locs : List Loc) (ls : Array Slot), ez_S X B s.heap (n0) σ H locs → z_X12_isKept_199 σ y0 = some z → lv_has ls 3 [] → W p l e R s m args below meth c H locs 0 0 Q (F0 m 199 ls [.int y0]) := by
    intro y0 H locs ls hS h hl
    obtain ⟨hn, h⟩ := ez_nr_sp rfl h
    exact hret _ _ _ _ _ (Option.some.inj h) hn hS dX12_isKept_199
  have K_194 : ∀ (H : Heap) (locs : List Loc) (ls : Array Slot), ez_S X B s.heap (n0) σ H locs → z_X12_isKept_194 σ = some z → lv_has ls 3 [] → W p l e R s m args below meth c H locs 0 0 Q (F0 m 194 ls []) := by
    intro  H locs ls hS h hl
    refine lv_iconst (v := 1) hx hb dX12_isKept_194 (by decide) ?_
    refine lv_goto (tgt := 199) hx hb dX12_isKept_195 (by decide) ?_
    exact K_199  (1 : Int32) _ _ _ hS h (lv_sub hl [] rfl)
  have K_101 : ∀ (x0 : Int64) (y0 : Int32) (H : Heap) (locs : List Loc) (ls : Array Slot), ez_S X B s.heap (n0) σ H locs → z_X12_isKept_101 σ x0 y0 = some z → lv_has ls 3 [(0, .long x0)] → W p l e R s m args below meth c H locs 0 0 Q (F0 m 101 ls [.int y0]) := by
    intro x0 y0 H locs ls hS h hl
    refine lv_istore_n (lv' := [(2, .int y0), (0, .long x0)]) hx hb dX12_isKept_101 rfl hl (by decide) rfl (fun ls hl => ?_)
    refine lv_iload_n hx hb dX12_isKept_102 rfl (lv_at hl 0 rfl) ?_
    refine lv_if_ne (tgt := 194) hx hb dX12_isKept_103 (by decide) (fun c_103 => ?_) (fun c_103 => ?_)
    · replace h := ez_ifn h c_103
      exact K_194   _ _ _ hS h (lv_sub hl [] rfl)
    · replace h := ez_ifp h c_103
      refine lv_lload_n hx hb dX12_isKept_106 rfl (lv_at hl 1 rfl) ?_
      refine lv_ldc2 hx hb hown (hts _ qc_RX12_191) dX12_isKept_107 ?_
      refine W.lcmp hx hb dX12_isKept_110 ?_
      refine ez_top h (fun t_110 h => ?_)
      refine lv_if_eq (tgt := 194) hx hb dX12_isKept_111 (by decide) (fun c_111 => ?_) (fun c_111 => ?_)
      · replace h := ez_ifp h c_111
        exact K_194   _ _ _ hS h (lv_sub hl [] rfl)
      · replace h := ez_ifn h c_111
        refine lv_lload_n hx hb dX12_isKept_114 rfl (lv_at hl 1 rfl) ?_
        refine lv_ldc2 hx hb hown (hts _ qc_RX12_193) dX12_isKept_115 ?_
        refine W.lcmp hx hb dX12_isKept_118 ?_
        refine ez_top h (fun t_118 h => ?_)
        refine lv_if_eq (tgt := 194) hx hb dX12_isKept_119 (by decide) (fun c_119 => ?_) (fun c_119 => ?_)
        · replace h := ez_ifp h c_119
          exact K_194   _ _ _ hS h (lv_sub hl [] rfl)
        · replace h := ez_ifn h c_119
          refine lv_lload_n hx hb dX12_isKept_122 rfl (lv_at hl 1 rfl) ?_
          refine lv_ldc2 hx hb hown (hts _ qc_RX12_195) dX12_isKept_123 ?_
          refine W.lcmp hx hb dX12_isKept_126 ?_
          refine ez_top h (fun t_126 h => ?_)
          refine lv_if_eq (tgt := 194) hx hb dX12_isKept_127 (by decide) (fun c_127 => ?_) (fun c_127 => ?_)
          · replace h := ez_ifp h c_127
            exact K_194   _ _ _ hS h (lv_sub hl [] rfl)
          · replace h := ez_ifn h c_127
            refine lv_lload_n hx hb dX12_isKept_130 rfl (lv_at hl 1 rfl) ?_
            refine lv_ldc2 hx hb hown (hts _ qc_RX12_197) dX12_isKept_131 ?_
            refine W.lcmp hx hb dX12_isKept_134 ?_
            refine ez_top h (fun t_134 h => ?_)
            refine lv_if_eq (tgt := 194) hx hb dX12_isKept_135 (by decide) (fun c_135 => ?_) (fun c_135 => ?_)
            · replace h := ez_ifp h c_135
              exact K_194   _ _ _ hS h (lv_sub hl [] rfl)
            · replace h := ez_ifn h c_135
              refine lv_lload_n hx hb dX12_isKept_138 rfl (lv_at hl 1 rfl) ?_
              refine lv_ldc2 hx hb hown (hts _ qc_RX12_199) dX12_isKept_139 ?_
              refine W.lcmp hx hb dX12_isKept_142 ?_
              refine ez_top h (fun t_142 h => ?_)
              refine lv_if_eq (tgt := 194) hx hb dX12_isKept_143 (by decide) (fun c_143 => ?_) (fun c_143 => ?_)
              · replace h := ez_ifp h c_143
                exact K_194   _ _ _ hS h (lv_sub hl [] rfl)
              · replace h := ez_ifn h c_143
                refine lv_lload_n hx hb dX12_isKept_146 rfl (lv_at hl 1 rfl) ?_
                refine lv_ldc2 hx hb hown (hts _ qc_RX12_201) dX12_isKept_147 ?_
                refine W.lcmp hx hb dX12_isKept_150 ?_
                refine ez_top h (fun t_150 h => ?_)
                refine lv_if_eq (tgt := 194) hx hb dX12_isKept_151 (by decide) (fun c_151 => ?_) (fun c_151 => ?_)
                · replace h := ez_ifp h c_151
                  exact K_194   _ _ _ hS h (lv_sub hl [] rfl)
                · replace h := ez_ifn h c_151
                  refine lv_lload_n hx hb dX12_isKept_154 rfl (lv_at hl 1 rfl) ?_
                  refine lv_ldc2 hx hb hown (hts _ qc_RX12_203) dX12_isKept_155 ?_
                  refine W.lcmp hx hb dX12_isKept_158 ?_
                  refine ez_top h (fun t_158 h => ?_)
                  refine lv_if_eq (tgt := 194) hx hb dX12_isKept_159 (by decide) (fun c_159 => ?_) (fun c_159 => ?_)
                  · replace h := ez_ifp h c_159
                    exact K_194   _ _ _ hS h (lv_sub hl [] rfl)
                  · replace h := ez_ifn h c_159
                    refine lv_lload_n hx hb dX12_isKept_162 rfl (lv_at hl 1 rfl) ?_
                    refine lv_ldc2 hx hb hown (hts _ qc_RX12_205) dX12_isKept_163 ?_
                    refine W.lcmp hx hb dX12_isKept_166 ?_
                    refine ez_top h (fun t_166 h => ?_)
                    refine lv_if_eq (tgt := 194) hx hb dX12_isKept_167 (by decide) (fun c_167 => ?_) (fun c_167 => ?_)
                    · replace h := ez_ifp h c_167
                      exact K_194   _ _ _ hS h (lv_sub hl [] rfl)
                    · replace h := ez_ifn h c_167
                      refine lv_lload_n hx hb dX12_isKept_170 rfl (lv_at hl 1 rfl) ?_
                      refine lv_ldc2 hx hb hown (hts _ qc_RX12_207) dX12_isKept_171 ?_
                      refine W.lcmp hx hb dX12_isKept_174 ?_
                      refine ez_top h (fun t_174 h => ?_)
                      refine lv_if_eq (tgt := 194) hx hb dX12_isKept_175 (by decide) (fun c_175 => ?_) (fun c_175 => ?_)
                      · replace h := ez_ifp h c_175
                        exact K_194   _ _ _ hS h (lv_sub hl [] rfl)
                      · replace h := ez_ifn h c_175
                        refine lv_lload_n hx hb dX12_isKept_178 rfl (lv_at hl 1 rfl) ?_
                        refine lv_ldc2 hx hb hown (hts _ qc_RX12_209) dX12_isKept_179 ?_
                        refine W.lcmp hx hb dX12_isKept_182 ?_
                        refine ez_top h (fun t_182 h => ?_)
                        refine lv_if_eq (tgt := 194) hx hb dX12_isKept_183 (by decide) (fun c_183 => ?_) (fun c_183 => ?_)
                        · replace h := ez_ifp h c_183
                          exact K_194   _ _ _ hS h (lv_sub hl [] rfl)
                        · replace h := ez_ifn h c_183
                          refine lv_lload_n hx hb dX12_isKept_186 rfl (lv_at hl 1 rfl) ?_
                          refine lv_ldc2 hx hb hown (hts _ qc_RX12_211) dX12_isKept_187 ?_
                          refine W.lcmp hx hb dX12_isKept_190 ?_
                          refine ez_top h (fun t_190 h => ?_)
                          refine lv_if_ne (tgt := 198) hx hb dX12_isKept_191 (by decide) (fun c_191 => ?_) (fun c_191 => ?_)
                          · replace h := ez_ifn h c_191
                            refine lv_iconst (v := 0) hx hb dX12_isKept_198 (by decide) ?_
                            exact K_199  (0 : Int32) _ _ _ hS h (lv_sub hl [] rfl)
                          · replace h := ez_ifp h c_191
                            exact K_194   _ _ _ hS h (lv_sub hl [] rfl)
  have K_96 : ∀ (x0 : Int64) (H : Heap) (locs : List Loc) (ls : Array Slot), ez_S X B s.heap (n0) σ H locs → z_X12_isKept_96 σ x0 = some z → lv_has ls 3 [(0, .long x0)] → W p l e R s m args below meth c H locs 0 0 Q (F0 m 96 ls []) := by
    intro x0 H locs ls hS h hl
    refine lv_iconst (v := 1) hx hb dX12_isKept_96 (by decide) ?_
    refine lv_goto (tgt := 101) hx hb dX12_isKept_97 (by decide) ?_
    exact K_101  x0 (1 : Int32) _ _ _ hS h (lv_sub hl [0] rfl)
  refine lv_lload_n hx hb dX12_isKept_0 rfl (lv_at hl 0 rfl) ?_
  refine lv_ldc2 hx hb hown (hts _ qc_RX12_167) dX12_isKept_1 ?_
  refine W.lcmp hx hb dX12_isKept_4 ?_
  refine ez_top h (fun t_4 h => ?_)
  refine lv_if_eq (tgt := 96) hx hb dX12_isKept_5 (by decide) (fun c_5 => ?_) (fun c_5 => ?_)
  · replace h := ez_ifp h c_5
    exact K_96  x0 _ _ _ hS h (lv_sub hl [0] rfl)
  · replace h := ez_ifn h c_5
    refine lv_lload_n hx hb dX12_isKept_8 rfl (lv_at hl 0 rfl) ?_
    refine lv_ldc2 hx hb hown (hts _ qc_RX12_169) dX12_isKept_9 ?_
    refine W.lcmp hx hb dX12_isKept_12 ?_
    refine ez_top h (fun t_12 h => ?_)
    refine lv_if_eq (tgt := 96) hx hb dX12_isKept_13 (by decide) (fun c_13 => ?_) (fun c_13 => ?_)
    · replace h := ez_ifp h c_13
      exact K_96  x0 _ _ _ hS h (lv_sub hl [0] rfl)
    · replace h := ez_ifn h c_13
      refine lv_lload_n hx hb dX12_isKept_16 rfl (lv_at hl 0 rfl) ?_
      refine lv_ldc2 hx hb hown (hts _ qc_RX12_171) dX12_isKept_17 ?_
      refine W.lcmp hx hb dX12_isKept_20 ?_
      refine ez_top h (fun t_20 h => ?_)
      refine lv_if_eq (tgt := 96) hx hb dX12_isKept_21 (by decide) (fun c_21 => ?_) (fun c_21 => ?_)
      · replace h := ez_ifp h c_21
        exact K_96  x0 _ _ _ hS h (lv_sub hl [0] rfl)
      · replace h := ez_ifn h c_21
        refine lv_lload_n hx hb dX12_isKept_24 rfl (lv_at hl 0 rfl) ?_
        refine lv_ldc2 hx hb hown (hts _ qc_RX12_173) dX12_isKept_25 ?_
        refine W.lcmp hx hb dX12_isKept_28 ?_
        refine ez_top h (fun t_28 h => ?_)
        refine lv_if_eq (tgt := 96) hx hb dX12_isKept_29 (by decide) (fun c_29 => ?_) (fun c_29 => ?_)
        · replace h := ez_ifp h c_29
          exact K_96  x0 _ _ _ hS h (lv_sub hl [0] rfl)
        · replace h := ez_ifn h c_29
          refine lv_lload_n hx hb dX12_isKept_32 rfl (lv_at hl 0 rfl) ?_
          refine lv_ldc2 hx hb hown (hts _ qc_RX12_175) dX12_isKept_33 ?_
          refine W.lcmp hx hb dX12_isKept_36 ?_
          refine ez_top h (fun t_36 h => ?_)
          refine lv_if_eq (tgt := 96) hx hb dX12_isKept_37 (by decide) (fun c_37 => ?_) (fun c_37 => ?_)
          · replace h := ez_ifp h c_37
            exact K_96  x0 _ _ _ hS h (lv_sub hl [0] rfl)
          · replace h := ez_ifn h c_37
            refine lv_lload_n hx hb dX12_isKept_40 rfl (lv_at hl 0 rfl) ?_
            refine lv_ldc2 hx hb hown (hts _ qc_RX12_177) dX12_isKept_41 ?_
            refine W.lcmp hx hb dX12_isKept_44 ?_
            refine ez_top h (fun t_44 h => ?_)
            refine lv_if_eq (tgt := 96) hx hb dX12_isKept_45 (by decide) (fun c_45 => ?_) (fun c_45 => ?_)
            · replace h := ez_ifp h c_45
              exact K_96  x0 _ _ _ hS h (lv_sub hl [0] rfl)
            · replace h := ez_ifn h c_45
              refine lv_lload_n hx hb dX12_isKept_48 rfl (lv_at hl 0 rfl) ?_
              refine lv_ldc2 hx hb hown (hts _ qc_RX12_179) dX12_isKept_49 ?_
              refine W.lcmp hx hb dX12_isKept_52 ?_
              refine ez_top h (fun t_52 h => ?_)
              refine lv_if_eq (tgt := 96) hx hb dX12_isKept_53 (by decide) (fun c_53 => ?_) (fun c_53 => ?_)
              · replace h := ez_ifp h c_53
                exact K_96  x0 _ _ _ hS h (lv_sub hl [0] rfl)
              · replace h := ez_ifn h c_53
                refine lv_lload_n hx hb dX12_isKept_56 rfl (lv_at hl 0 rfl) ?_
                refine lv_ldc2 hx hb hown (hts _ qc_RX12_181) dX12_isKept_57 ?_
                refine W.lcmp hx hb dX12_isKept_60 ?_
                refine ez_top h (fun t_60 h => ?_)
                refine lv_if_eq (tgt := 96) hx hb dX12_isKept_61 (by decide) (fun c_61 => ?_) (fun c_61 => ?_)
                · replace h := ez_ifp h c_61
                  exact K_96  x0 _ _ _ hS h (lv_sub hl [0] rfl)
                · replace h := ez_ifn h c_61
                  refine lv_lload_n hx hb dX12_isKept_64 rfl (lv_at hl 0 rfl) ?_
                  refine lv_ldc2 hx hb hown (hts _ qc_RX12_183) dX12_isKept_65 ?_
                  refine W.lcmp hx hb dX12_isKept_68 ?_
                  refine ez_top h (fun t_68 h => ?_)
                  refine lv_if_eq (tgt := 96) hx hb dX12_isKept_69 (by decide) (fun c_69 => ?_) (fun c_69 => ?_)
                  · replace h := ez_ifp h c_69
                    exact K_96  x0 _ _ _ hS h (lv_sub hl [0] rfl)
                  · replace h := ez_ifn h c_69
                    refine lv_lload_n hx hb dX12_isKept_72 rfl (lv_at hl 0 rfl) ?_
                    refine lv_ldc2 hx hb hown (hts _ qc_RX12_185) dX12_isKept_73 ?_
                    refine W.lcmp hx hb dX12_isKept_76 ?_
                    refine ez_top h (fun t_76 h => ?_)
                    refine lv_if_eq (tgt := 96) hx hb dX12_isKept_77 (by decide) (fun c_77 => ?_) (fun c_77 => ?_)
                    · replace h := ez_ifp h c_77
                      exact K_96  x0 _ _ _ hS h (lv_sub hl [0] rfl)
                    · replace h := ez_ifn h c_77
                      refine lv_lload_n hx hb dX12_isKept_80 rfl (lv_at hl 0 rfl) ?_
                      refine lv_ldc2 hx hb hown (hts _ qc_RX12_187) dX12_isKept_81 ?_
                      refine W.lcmp hx hb dX12_isKept_84 ?_
                      refine ez_top h (fun t_84 h => ?_)
                      refine lv_if_eq (tgt := 96) hx hb dX12_isKept_85 (by decide) (fun c_85 => ?_) (fun c_85 => ?_)
                      · replace h := ez_ifp h c_85
                        exact K_96  x0 _ _ _ hS h (lv_sub hl [0] rfl)
                      · replace h := ez_ifn h c_85
                        refine lv_lload_n hx hb dX12_isKept_88 rfl (lv_at hl 0 rfl) ?_
                        refine lv_ldc2 hx hb hown (hts _ qc_RX12_189) dX12_isKept_89 ?_
                        refine W.lcmp hx hb dX12_isKept_92 ?_
                        refine ez_top h (fun t_92 h => ?_)
                        refine lv_if_ne (tgt := 100) hx hb dX12_isKept_93 (by decide) (fun c_93 => ?_) (fun c_93 => ?_)
                        · replace h := ez_ifn h c_93
                          refine lv_iconst (v := 0) hx hb dX12_isKept_100 (by decide) ?_
                          exact K_101  x0 (0 : Int32) _ _ _ hS h (lv_sub hl [0] rfl)
                        · replace h := ez_ifp h c_93
                          exact K_96  x0 _ _ _ hS h (lv_sub hl [0] rfl)
set_option maxHeartbeats 4000000 in
set_option maxRecDepth 100000 in
theorem c_X12_isDigit {l : Launch} {X : ez_X} {B : Nat} {σ : ez_H} {x0 : Int32} {z : Int32} (h : z_X12_isDigit σ x0 = some z) : ez_M l X B σ yX12_isDigit cX12_isDigit 1 (some .boolean) 0 [.int x0] (some (.int z)) σ := by
  refine ez_startip (z := z) (by decide) (Nat.le_of_ble_eq_true rfl) (fun p e R s m args below meth c Q hC hret hS ls hl => ?_)
  have hC : ez_C p R s m args c X B RX12 cX12_isDigit 1 0 := hC
  have hx := hC.1.1
  have hb := hC.1.2.1
  have hown := hC.1.2.2.2.1
  have hts := hC.1.2.2.2.2
  have hl : lv_has ls 1 [(0, .int x0)] := hl
  obtain ⟨n0, e0⟩ : ∃ n0 : Nat, n0 = σ.length := ⟨_, rfl⟩
  rw [← e0] at hret hS
  have K_17 : ∀ (y0 : Int32) (H : Heap) (locs : List Loc) (ls : Array Slot), ez_S X B s.heap (n0) σ H locs → z_X12_isDigit_17 σ y0 = some z → lv_has ls 1 [] → W p l e R s m args below meth c H locs 0 0 Q (F0 m 17 ls [.int y0]) := by
    intro y0 H locs ls hS h hl
    obtain ⟨hn, h⟩ := ez_nr_sp rfl h
    exact hret _ _ _ _ _ (Option.some.inj h) hn hS dX12_isDigit_17
  have K_16 : ∀ (H : Heap) (locs : List Loc) (ls : Array Slot), ez_S X B s.heap (n0) σ H locs → z_X12_isDigit_16 σ = some z → lv_has ls 1 [] → W p l e R s m args below meth c H locs 0 0 Q (F0 m 16 ls []) := by
    intro  H locs ls hS h hl
    refine lv_iconst (v := 0) hx hb dX12_isDigit_16 (by decide) ?_
    exact K_17  (0 : Int32) _ _ _ hS h (lv_sub hl [] rfl)
  refine lv_iload_n hx hb dX12_isDigit_0 rfl (lv_at hl 0 rfl) ?_
  refine lv_bipush (v := 48) hx hb dX12_isDigit_1 (by decide) ?_
  refine lv_icmp_lt (tgt := 16) hx hb dX12_isDigit_3 (by decide) (fun c_3 => ?_) (fun c_3 => ?_)
  · replace h := ez_ifp h c_3
    exact K_16   _ _ _ hS h (lv_sub hl [] rfl)
  · replace h := ez_ifn h c_3
    refine lv_iload_n hx hb dX12_isDigit_6 rfl (lv_at hl 0 rfl) ?_
    refine lv_bipush (v := 57) hx hb dX12_isDigit_7 (by decide) ?_
    refine lv_icmp_gt (tgt := 16) hx hb dX12_isDigit_9 (by decide) (fun c_9 => ?_) (fun c_9 => ?_)
    · replace h := ez_ifp h c_9
      exact K_16   _ _ _ hS h (lv_sub hl [] rfl)
    · replace h := ez_ifn h c_9
      refine lv_iconst (v := 1) hx hb dX12_isDigit_12 (by decide) ?_
      refine lv_goto (tgt := 17) hx hb dX12_isDigit_13 (by decide) ?_
      exact K_17  (1 : Int32) _ _ _ hS h (lv_sub hl [] rfl)
set_option maxHeartbeats 4000000 in
set_option maxRecDepth 100000 in
theorem c_X12_isSign {l : Launch} {X : ez_X} {B : Nat} {σ : ez_H} {x0 : Int32} {z : Int32} (h : z_X12_isSign σ x0 = some z) : ez_M l X B σ yX12_isSign cX12_isSign 1 (some .boolean) 0 [.int x0] (some (.int z)) σ := by
  refine ez_startip (z := z) (by decide) (Nat.le_of_ble_eq_true rfl) (fun p e R s m args below meth c Q hC hret hS ls hl => ?_)
  have hC : ez_C p R s m args c X B RX12 cX12_isSign 1 0 := hC
  have hx := hC.1.1
  have hb := hC.1.2.1
  have hown := hC.1.2.2.2.1
  have hts := hC.1.2.2.2.2
  have hl : lv_has ls 1 [(0, .int x0)] := hl
  obtain ⟨n0, e0⟩ : ∃ n0 : Nat, n0 = σ.length := ⟨_, rfl⟩
  rw [← e0] at hret hS
  have K_71 : ∀ (y0 : Int32) (H : Heap) (locs : List Loc) (ls : Array Slot), ez_S X B s.heap (n0) σ H locs → z_X12_isSign_71 σ y0 = some z → lv_has ls 1 [] → W p l e R s m args below meth c H locs 0 0 Q (F0 m 71 ls [.int y0]) := by
    intro y0 H locs ls hS h hl
    obtain ⟨hn, h⟩ := ez_nr_sp rfl h
    exact hret _ _ _ _ _ (Option.some.inj h) hn hS dX12_isSign_71
  have K_66 : ∀ (H : Heap) (locs : List Loc) (ls : Array Slot), ez_S X B s.heap (n0) σ H locs → z_X12_isSign_66 σ = some z → lv_has ls 1 [] → W p l e R s m args below meth c H locs 0 0 Q (F0 m 66 ls []) := by
    intro  H locs ls hS h hl
    refine lv_iconst (v := 1) hx hb dX12_isSign_66 (by decide) ?_
    refine lv_goto (tgt := 71) hx hb dX12_isSign_67 (by decide) ?_
    exact K_71  (1 : Int32) _ _ _ hS h (lv_sub hl [] rfl)
  refine lv_iload_n hx hb dX12_isSign_0 rfl (lv_at hl 0 rfl) ?_
  refine lv_bipush (v := 59) hx hb dX12_isSign_1 (by decide) ?_
  refine lv_icmp_eq (tgt := 66) hx hb dX12_isSign_3 (by decide) (fun c_3 => ?_) (fun c_3 => ?_)
  · replace h := ez_ifp h c_3
    exact K_66   _ _ _ hS h (lv_sub hl [] rfl)
  · replace h := ez_ifn h c_3
    refine lv_iload_n hx hb dX12_isSign_6 rfl (lv_at hl 0 rfl) ?_
    refine lv_bipush (v := 40) hx hb dX12_isSign_7 (by decide) ?_
    refine lv_icmp_eq (tgt := 66) hx hb dX12_isSign_9 (by decide) (fun c_9 => ?_) (fun c_9 => ?_)
    · replace h := ez_ifp h c_9
      exact K_66   _ _ _ hS h (lv_sub hl [] rfl)
    · replace h := ez_ifn h c_9
      refine lv_iload_n hx hb dX12_isSign_12 rfl (lv_at hl 0 rfl) ?_
      refine lv_bipush (v := 41) hx hb dX12_isSign_13 (by decide) ?_
      refine lv_icmp_eq (tgt := 66) hx hb dX12_isSign_15 (by decide) (fun c_15 => ?_) (fun c_15 => ?_)
      · replace h := ez_ifp h c_15
        exact K_66   _ _ _ hS h (lv_sub hl [] rfl)
      · replace h := ez_ifn h c_15
        refine lv_iload_n hx hb dX12_isSign_18 rfl (lv_at hl 0 rfl) ?_
        refine lv_bipush (v := 60) hx hb dX12_isSign_19 (by decide) ?_
        refine lv_icmp_eq (tgt := 66) hx hb dX12_isSign_21 (by decide) (fun c_21 => ?_) (fun c_21 => ?_)
        · replace h := ez_ifp h c_21
          exact K_66   _ _ _ hS h (lv_sub hl [] rfl)
        · replace h := ez_ifn h c_21
          refine lv_iload_n hx hb dX12_isSign_24 rfl (lv_at hl 0 rfl) ?_
          refine lv_bipush (v := 62) hx hb dX12_isSign_25 (by decide) ?_
          refine lv_icmp_eq (tgt := 66) hx hb dX12_isSign_27 (by decide) (fun c_27 => ?_) (fun c_27 => ?_)
          · replace h := ez_ifp h c_27
            exact K_66   _ _ _ hS h (lv_sub hl [] rfl)
          · replace h := ez_ifn h c_27
            refine lv_iload_n hx hb dX12_isSign_30 rfl (lv_at hl 0 rfl) ?_
            refine lv_bipush (v := 61) hx hb dX12_isSign_31 (by decide) ?_
            refine lv_icmp_eq (tgt := 66) hx hb dX12_isSign_33 (by decide) (fun c_33 => ?_) (fun c_33 => ?_)
            · replace h := ez_ifp h c_33
              exact K_66   _ _ _ hS h (lv_sub hl [] rfl)
            · replace h := ez_ifn h c_33
              refine lv_iload_n hx hb dX12_isSign_36 rfl (lv_at hl 0 rfl) ?_
              refine lv_bipush (v := 43) hx hb dX12_isSign_37 (by decide) ?_
              refine lv_icmp_eq (tgt := 66) hx hb dX12_isSign_39 (by decide) (fun c_39 => ?_) (fun c_39 => ?_)
              · replace h := ez_ifp h c_39
                exact K_66   _ _ _ hS h (lv_sub hl [] rfl)
              · replace h := ez_ifn h c_39
                refine lv_iload_n hx hb dX12_isSign_42 rfl (lv_at hl 0 rfl) ?_
                refine lv_bipush (v := 45) hx hb dX12_isSign_43 (by decide) ?_
                refine lv_icmp_eq (tgt := 66) hx hb dX12_isSign_45 (by decide) (fun c_45 => ?_) (fun c_45 => ?_)
                · replace h := ez_ifp h c_45
                  exact K_66   _ _ _ hS h (lv_sub hl [] rfl)
                · replace h := ez_ifn h c_45
                  refine lv_iload_n hx hb dX12_isSign_48 rfl (lv_at hl 0 rfl) ?_
                  refine lv_bipush (v := 42) hx hb dX12_isSign_49 (by decide) ?_
                  refine lv_icmp_eq (tgt := 66) hx hb dX12_isSign_51 (by decide) (fun c_51 => ?_) (fun c_51 => ?_)
                  · replace h := ez_ifp h c_51
                    exact K_66   _ _ _ hS h (lv_sub hl [] rfl)
                  · replace h := ez_ifn h c_51
                    refine lv_iload_n hx hb dX12_isSign_54 rfl (lv_at hl 0 rfl) ?_
                    refine lv_bipush (v := 47) hx hb dX12_isSign_55 (by decide) ?_
                    refine lv_icmp_eq (tgt := 66) hx hb dX12_isSign_57 (by decide) (fun c_57 => ?_) (fun c_57 => ?_)
                    · replace h := ez_ifp h c_57
                      exact K_66   _ _ _ hS h (lv_sub hl [] rfl)
                    · replace h := ez_ifn h c_57
                      refine lv_iload_n hx hb dX12_isSign_60 rfl (lv_at hl 0 rfl) ?_
                      refine lv_bipush (v := 37) hx hb dX12_isSign_61 (by decide) ?_
                      refine lv_icmp_ne (tgt := 70) hx hb dX12_isSign_63 (by decide) (fun c_63 => ?_) (fun c_63 => ?_)
                      · replace h := ez_ifn h c_63
                        refine lv_iconst (v := 0) hx hb dX12_isSign_70 (by decide) ?_
                        exact K_71  (0 : Int32) _ _ _ hS h (lv_sub hl [] rfl)
                      · replace h := ez_ifp h c_63
                        exact K_66   _ _ _ hS h (lv_sub hl [] rfl)
set_option maxHeartbeats 4000000 in
set_option maxRecDepth 100000 in
theorem c_X12_goOn {l : Launch} {X : ez_X} {B : Nat} {σ : ez_H} {h0 : Nat} {z : Unit × ez_H} (h : z_X12_goOn σ h0 = some z) : ez_M l X B σ yX12_goOn cX12_goOn 3 (none) 1 [.ref (B + h0)] (none) z.2 := by
  refine ez_startv (z := z) (by decide) (Nat.le_of_ble_eq_true rfl) (fun p e R s m args below meth c Q hC hret hS ls hl => ?_)
  have hC : ez_C p R s m args c X B RX12 cX12_goOn 3 1 := hC
  have hx := hC.1.1
  have hb := hC.1.2.1
  have hown := hC.1.2.2.2.1
  have hts := hC.1.2.2.2.2
  have hl : lv_has ls 3 [(0, .ref (B + h0))] := hl
  obtain ⟨σ0, eσ⟩ : ∃ σ0 : ez_H, σ0 = σ := ⟨_, rfl⟩
  rw [← eσ] at hret
  have hS : ez_S X B s.heap σ0.length σ s.heap [] := eσ ▸ hS
  obtain ⟨-, h⟩ := ez_in h
  have K_377 : ∀ (σ : ez_H) (H : Heap) (locs : List Loc) (ls : Array Slot), ez_S X B s.heap (σ0.length) σ H locs → z_X12_goOn_377 σ = some z → lv_has ls 3 [] → W p l e R s m args below meth c H locs 0 0 Q (F0 m 377 ls []) := by
    intro σ H locs ls hS h hl
    exact hret _ _ _ _ _ _ (Option.some.inj h) hS dX12_goOn_377
  have K_374 : ∀ (σ : ez_H) (y0 : Nat) (y1 : Int32) (H : Heap) (locs : List Loc) (ls : Array Slot), ez_S X B s.heap (σ0.length) σ H locs → z_X12_goOn_374 σ y0 y1 = some z → lv_has ls 3 [] → W p l e R s m args below meth c H locs 0 0 Q (F0 m 374 ls [.int y1, .ref (B + y0)]) := by
    intro σ y0 y1 H locs ls hS h hl
    refine ep_RX12_223 hC hS h dX12_goOn_374 (fun σ H locs hS h => ?_)
    exact K_377  σ _ _ _ hS h (lv_sub hl [] rfl)
  have K_355 : ∀ (σ : ez_H) (y0 : Nat) (y1 : Int32) (H : Heap) (locs : List Loc) (ls : Array Slot), ez_S X B s.heap (σ0.length) σ H locs → z_X12_goOn_355 σ y0 y1 = some z → lv_has ls 3 [] → W p l e R s m args below meth c H locs 0 0 Q (F0 m 355 ls [.int y1, .ref (B + y0)]) := by
    intro σ y0 y1 H locs ls hS h hl
    refine ep_RX12_223 hC hS h dX12_goOn_355 (fun σ H locs hS h => ?_)
    refine lv_goto (tgt := 377) hx hb dX12_goOn_358 (by decide) ?_
    exact K_377  σ _ _ _ hS h (lv_sub hl [] rfl)
  have K_350 : ∀ (σ : ez_H) (y0 : Nat) (H : Heap) (locs : List Loc) (ls : Array Slot), ez_S X B s.heap (σ0.length) σ H locs → z_X12_goOn_350 σ y0 = some z → lv_has ls 3 [] → W p l e R s m args below meth c H locs 0 0 Q (F0 m 350 ls [.ref (B + y0)]) := by
    intro σ y0 H locs ls hS h hl
    refine lv_iconst (v := 1) hx hb dX12_goOn_350 (by decide) ?_
    refine lv_goto (tgt := 355) hx hb dX12_goOn_351 (by decide) ?_
    exact K_355  σ y0 (1 : Int32) _ _ _ hS h (lv_sub hl [] rfl)
  have K_309 : ∀ (k_259 : ez_H → Nat → Option (Unit × ez_H)) (hk_259 : ∀ (σ : ez_H) (h0 : Nat) (H : Heap) (locs : List Loc) (ls : Array Slot), ez_S X B s.heap (σ0.length) σ H locs → k_259 σ h0 = some z → lv_has ls 3 [(0, .ref (B + h0))] → W p l e R s m args below meth c H locs 0 0 Q (F0 m 259 ls [])), ∀ (σ : ez_H) (h0 : Nat) (H : Heap) (locs : List Loc) (ls : Array Slot), ez_S X B s.heap (σ0.length) σ H locs → z_X12_goOn_309 k_259 σ h0 = some z → lv_has ls 3 [(0, .ref (B + h0))] → W p l e R s m args below meth c H locs 0 0 Q (F0 m 309 ls []) := by
    intro k_259 hk_259 σ h0 H locs ls hS h hl
    refine lv_aload_n hx hb dX12_goOn_309 rfl (lv_at hl 0 rfl) ?_
    refine lv_dup hx hb dX12_goOn_310 rfl ?_
    refine eg_RX12_213 hC hS h dX12_goOn_311 (fun t_311 h => ?_)
    refine lv_iconst (v := 1) hx hb dX12_goOn_314 (by decide) ?_
    refine lv_iadd hx hb dX12_goOn_315 ?_
    refine ez_top h (fun t_315 h => ?_)
    refine ep_RX12_213 hC hS h dX12_goOn_316 (fun σ H locs hS h => ?_)
    refine lv_goto (tgt := 259) hx hb dX12_goOn_319 (by decide) ?_
    exact hk_259 σ h0 _ _ _ hS h (lv_sub hl [0] rfl)
  have K_259 : ∀ (k_259 : ez_H → Nat → Option (Unit × ez_H)) (hk_259 : ∀ (σ : ez_H) (h0 : Nat) (H : Heap) (locs : List Loc) (ls : Array Slot), ez_S X B s.heap (σ0.length) σ H locs → k_259 σ h0 = some z → lv_has ls 3 [(0, .ref (B + h0))] → W p l e R s m args below meth c H locs 0 0 Q (F0 m 259 ls [])), ∀ (σ : ez_H) (h0 : Nat) (H : Heap) (locs : List Loc) (ls : Array Slot), ez_S X B s.heap (σ0.length) σ H locs → z_X12_goOn_259 k_259 σ h0 = some z → lv_has ls 3 [(0, .ref (B + h0))] → W p l e R s m args below meth c H locs 0 0 Q (F0 m 259 ls []) := by
    intro k_259 hk_259 σ h0 H locs ls hS h hl
    refine lv_aload_n hx hb dX12_goOn_259 rfl (lv_at hl 0 rfl) ?_
    refine lv_aload_n hx hb dX12_goOn_260 rfl (lv_at hl 0 rfl) ?_
    refine eg_RX12_213 hC hS h dX12_goOn_261 (fun t_261 h => ?_)
    refine ez_cVpi (As := [.int t_261]) (rest := []) h (fun _ q => c_X12_sign q) hC k_X12_sign ql_RX12_219 rfl (by decide) hS (fun _ q => ez_rcv q) rfl hl.1 rfl (Nat.le_of_ble_eq_true rfl) ⟨Nat.zero_le _, Nat.zero_le _⟩ dX12_goOn_264 (fun t_264 H locs hS h => ?_)
    refine ez_cSpi (As := [.int t_264]) (rest := []) h (fun _ q => c_X12_isDigit q) hC k_X12_isDigit ql_RX12_238 rfl (by decide) hS hl.1 rfl (Nat.le_of_ble_eq_true rfl) ⟨Nat.zero_le _, Nat.zero_le _⟩ dX12_goOn_267 (fun t_267 H locs hS h => ?_)
    refine lv_if_eq (tgt := 322) hx hb dX12_goOn_270 (by decide) (fun c_270 => ?_) (fun c_270 => ?_)
    · replace h := ez_ifp h c_270
      refine lv_aload_n hx hb dX12_goOn_322 rfl (lv_at hl 0 rfl) ?_
      refine lv_aload_n hx hb dX12_goOn_323 rfl (lv_at hl 0 rfl) ?_
      refine eg_RX12_213 hC hS h dX12_goOn_324 (fun t_324 h => ?_)
      refine lv_aload_n hx hb dX12_goOn_327 rfl (lv_at hl 0 rfl) ?_
      refine eg_RX12_216 hC hS h dX12_goOn_328 (fun t_328 h => ?_)
      refine lv_isub hx hb dX12_goOn_331 ?_
      refine ez_top h (fun t_331 h => ?_)
      refine lv_iconst (v := 4) hx hb dX12_goOn_332 (by decide) ?_
      refine lv_icmp_gt (tgt := 350) hx hb dX12_goOn_333 (by decide) (fun c_333 => ?_) (fun c_333 => ?_)
      · replace h := ez_ifp h c_333
        exact K_350  σ h0 _ _ _ hS h (lv_sub hl [] rfl)
      · replace h := ez_ifn h c_333
        refine lv_aload_n hx hb dX12_goOn_336 rfl (lv_at hl 0 rfl) ?_
        refine lv_aload_n hx hb dX12_goOn_337 rfl (lv_at hl 0 rfl) ?_
        refine eg_RX12_213 hC hS h dX12_goOn_338 (fun t_338 h => ?_)
        refine ez_cVpi (As := [.int t_338]) (rest := [.ref (B + h0)]) h (fun _ q => c_X12_sign q) hC k_X12_sign ql_RX12_219 rfl (by decide) hS (fun _ q => ez_rcv q) rfl hl.1 rfl (Nat.le_of_ble_eq_true rfl) ⟨Nat.zero_le _, Nat.zero_le _⟩ dX12_goOn_341 (fun t_341 H locs hS h => ?_)
        refine ez_cSpi (As := [.int t_341]) (rest := [.ref (B + h0)]) h (fun _ q => c_X12_isLetter q) hC k_X12_isLetter ql_RX12_226 rfl (by decide) hS hl.1 rfl (Nat.le_of_ble_eq_true rfl) ⟨Nat.zero_le _, Nat.zero_le _⟩ dX12_goOn_344 (fun t_344 H locs hS h => ?_)
        refine lv_if_eq (tgt := 354) hx hb dX12_goOn_347 (by decide) (fun c_347 => ?_) (fun c_347 => ?_)
        · replace h := ez_ifp h c_347
          refine lv_iconst (v := 4) hx hb dX12_goOn_354 (by decide) ?_
          exact K_355  σ h0 (4 : Int32) _ _ _ hS h (lv_sub hl [] rfl)
        · replace h := ez_ifn h c_347
          exact K_350  σ h0 _ _ _ hS h (lv_sub hl [] rfl)
    · replace h := ez_ifn h c_270
      refine lv_aload_n hx hb dX12_goOn_273 rfl (lv_at hl 0 rfl) ?_
      refine eg_RX12_213 hC hS h dX12_goOn_274 (fun t_274 h => ?_)
      refine lv_aload_n hx hb dX12_goOn_277 rfl (lv_at hl 0 rfl) ?_
      refine eg_RX12_216 hC hS h dX12_goOn_278 (fun t_278 h => ?_)
      refine lv_isub hx hb dX12_goOn_281 ?_
      refine ez_top h (fun t_281 h => ?_)
      refine lv_iconst (v := 4) hx hb dX12_goOn_282 (by decide) ?_
      refine lv_icmp_ge (tgt := 309) hx hb dX12_goOn_283 (by decide) (fun c_283 => ?_) (fun c_283 => ?_)
      · replace h := ez_ifp h c_283
        exact K_309 k_259 hk_259 σ h0 _ _ _ hS h (lv_sub hl [0] rfl)
      · replace h := ez_ifn h c_283
        refine lv_aload_n hx hb dX12_goOn_286 rfl (lv_at hl 0 rfl) ?_
        refine lv_bipush (v := 10) hx hb dX12_goOn_287 (by decide) ?_
        refine lv_aload_n hx hb dX12_goOn_289 rfl (lv_at hl 0 rfl) ?_
        refine eg_RX12_241 hC hS h dX12_goOn_290 (fun t_290 h => ?_)
        refine lv_imul hx hb dX12_goOn_293 ?_
        refine ez_top h (fun t_293 h => ?_)
        refine lv_aload_n hx hb dX12_goOn_294 rfl (lv_at hl 0 rfl) ?_
        refine lv_aload_n hx hb dX12_goOn_295 rfl (lv_at hl 0 rfl) ?_
        refine eg_RX12_213 hC hS h dX12_goOn_296 (fun t_296 h => ?_)
        refine ez_cVpi (As := [.int t_296]) (rest := [.int t_293, .ref (B + h0)]) h (fun _ q => c_X12_sign q) hC k_X12_sign ql_RX12_219 rfl (by decide) hS (fun _ q => ez_rcv q) rfl hl.1 rfl (Nat.le_of_ble_eq_true rfl) ⟨Nat.zero_le _, Nat.zero_le _⟩ dX12_goOn_299 (fun t_299 H locs hS h => ?_)
        refine lv_iadd hx hb dX12_goOn_302 ?_
        refine ez_top h (fun t_302 h => ?_)
        refine lv_bipush (v := 48) hx hb dX12_goOn_303 (by decide) ?_
        refine lv_isub hx hb dX12_goOn_305 ?_
        refine ez_top h (fun t_305 h => ?_)
        refine ep_RX12_241 hC hS h dX12_goOn_306 (fun σ H locs hS h => ?_)
        exact K_309 k_259 hk_259 σ h0 _ _ _ hS h (lv_sub hl [0] rfl)
  have E_259 : ∀ (σ : ez_H) (h0 : Nat) (H : Heap) (locs : List Loc) (ls : Array Slot), ez_S X B s.heap (σ0.length) σ H locs → (ez_fix (fun _ _ => none) (z_X12_goOn_259) ez_N) σ h0 = some z → lv_has ls 3 [(0, .ref (B + h0))] → W p l e R s m args below meth c H locs 0 0 Q (F0 m 259 ls []) := ez_fix_ind (fun k_259 : ez_H → Nat → Option (Unit × ez_H) => ∀ (σ : ez_H) (h0 : Nat) (H : Heap) (locs : List Loc) (ls : Array Slot), ez_S X B s.heap (σ0.length) σ H locs → k_259 σ h0 = some z → lv_has ls 3 [(0, .ref (B + h0))] → W p l e R s m args below meth c H locs 0 0 Q (F0 m 259 ls [])) (fun _ _ _ _ _ _ h _ => by cases h) (fun k_259 hk_259 => K_259 k_259 hk_259) ez_N
  have K_233 : ∀ (σ : ez_H) (y0 : Nat) (y1 : Int32) (H : Heap) (locs : List Loc) (ls : Array Slot), ez_S X B s.heap (σ0.length) σ H locs → z_X12_goOn_233 σ y0 y1 = some z → lv_has ls 3 [] → W p l e R s m args below meth c H locs 0 0 Q (F0 m 233 ls [.int y1, .ref (B + y0)]) := by
    intro σ y0 y1 H locs ls hS h hl
    refine ep_RX12_223 hC hS h dX12_goOn_233 (fun σ H locs hS h => ?_)
    refine lv_goto (tgt := 377) hx hb dX12_goOn_236 (by decide) ?_
    exact K_377  σ _ _ _ hS h (lv_sub hl [] rfl)
  have K_199 : ∀ (σ : ez_H) (h0 : Nat) (H : Heap) (locs : List Loc) (ls : Array Slot), ez_S X B s.heap (σ0.length) σ H locs → z_X12_goOn_199 σ h0 = some z → lv_has ls 3 [(0, .ref (B + h0))] → W p l e R s m args below meth c H locs 0 0 Q (F0 m 199 ls []) := by
    intro σ h0 H locs ls hS h hl
    refine lv_aload_n hx hb dX12_goOn_199 rfl (lv_at hl 0 rfl) ?_
    refine lv_aload_n hx hb dX12_goOn_200 rfl (lv_at hl 0 rfl) ?_
    refine eg_RX12_213 hC hS h dX12_goOn_201 (fun t_201 h => ?_)
    refine lv_aload_n hx hb dX12_goOn_204 rfl (lv_at hl 0 rfl) ?_
    refine eg_RX12_216 hC hS h dX12_goOn_205 (fun t_205 h => ?_)
    refine lv_isub hx hb dX12_goOn_208 ?_
    refine ez_top h (fun t_208 h => ?_)
    refine lv_bipush (v := 8) hx hb dX12_goOn_209 (by decide) ?_
    refine lv_icmp_le (tgt := 218) hx hb dX12_goOn_211 (by decide) (fun c_211 => ?_) (fun c_211 => ?_)
    · replace h := ez_ifp h c_211
      refine lv_aload_n hx hb dX12_goOn_218 rfl (lv_at hl 0 rfl) ?_
      refine eg_RX12_230 hC hS h dX12_goOn_219 (fun t_219 h => ?_)
      refine ez_cSpi (As := [.long t_219]) (rest := [.ref (B + h0)]) h (fun _ q => c_X12_isKept q) hC k_X12_isKept ql_RX12_234 rfl (by decide) hS hl.1 rfl (Nat.le_of_ble_eq_true rfl) ⟨Nat.zero_le _, Nat.zero_le _⟩ dX12_goOn_222 (fun t_222 H locs hS h => ?_)
      refine lv_if_eq (tgt := 232) hx hb dX12_goOn_225 (by decide) (fun c_225 => ?_) (fun c_225 => ?_)
      · replace h := ez_ifp h c_225
        refine lv_iconst (v := 2) hx hb dX12_goOn_232 (by decide) ?_
        exact K_233  σ h0 (2 : Int32) _ _ _ hS h (lv_sub hl [] rfl)
      · replace h := ez_ifn h c_225
        refine lv_iconst (v := 3) hx hb dX12_goOn_228 (by decide) ?_
        refine lv_goto (tgt := 233) hx hb dX12_goOn_229 (by decide) ?_
        exact K_233  σ h0 (3 : Int32) _ _ _ hS h (lv_sub hl [] rfl)
    · replace h := ez_ifn h c_211
      refine lv_iconst (v := 1) hx hb dX12_goOn_214 (by decide) ?_
      refine lv_goto (tgt := 233) hx hb dX12_goOn_215 (by decide) ?_
      exact K_233  σ h0 (1 : Int32) _ _ _ hS h (lv_sub hl [] rfl)
  have K_156 : ∀ (k_156 : ez_H → Nat → Int32 → Option (Unit × ez_H)) (hk_156 : ∀ (σ : ez_H) (h0 : Nat) (x2 : Int32) (H : Heap) (locs : List Loc) (ls : Array Slot), ez_S X B s.heap (σ0.length) σ H locs → k_156 σ h0 x2 = some z → lv_has ls 3 [(0, .ref (B + h0)), (2, .int x2)] → W p l e R s m args below meth c H locs 0 0 Q (F0 m 156 ls [])), ∀ (σ : ez_H) (h0 : Nat) (x2 : Int32) (H : Heap) (locs : List Loc) (ls : Array Slot), ez_S X B s.heap (σ0.length) σ H locs → z_X12_goOn_156 k_156 σ h0 x2 = some z → lv_has ls 3 [(0, .ref (B + h0)), (2, .int x2)] → W p l e R s m args below meth c H locs 0 0 Q (F0 m 156 ls []) := by
    intro k_156 hk_156 σ h0 x2 H locs ls hS h hl
    refine lv_iload_n hx hb dX12_goOn_156 rfl (lv_at hl 1 rfl) ?_
    refine lv_aload_n hx hb dX12_goOn_157 rfl (lv_at hl 0 rfl) ?_
    refine eg_RX12_213 hC hS h dX12_goOn_158 (fun t_158 h => ?_)
    refine lv_icmp_ge (tgt := 199) hx hb dX12_goOn_161 (by decide) (fun c_161 => ?_) (fun c_161 => ?_)
    · replace h := ez_ifp h c_161
      exact K_199  σ h0 _ _ _ hS h (lv_sub hl [0] rfl)
    · replace h := ez_ifn h c_161
      refine lv_iload_n hx hb dX12_goOn_164 rfl (lv_at hl 1 rfl) ?_
      refine lv_aload_n hx hb dX12_goOn_165 rfl (lv_at hl 0 rfl) ?_
      refine eg_RX12_216 hC hS h dX12_goOn_166 (fun t_166 h => ?_)
      refine lv_bipush (v := 8) hx hb dX12_goOn_169 (by decide) ?_
      refine lv_iadd hx hb dX12_goOn_171 ?_
      refine ez_top h (fun t_171 h => ?_)
      refine lv_icmp_ge (tgt := 199) hx hb dX12_goOn_172 (by decide) (fun c_172 => ?_) (fun c_172 => ?_)
      · replace h := ez_ifp h c_172
        exact K_199  σ h0 _ _ _ hS h (lv_sub hl [0] rfl)
      · replace h := ez_ifn h c_172
        refine lv_aload_n hx hb dX12_goOn_175 rfl (lv_at hl 0 rfl) ?_
        refine lv_aload_n hx hb dX12_goOn_176 rfl (lv_at hl 0 rfl) ?_
        refine eg_RX12_230 hC hS h dX12_goOn_177 (fun t_177 h => ?_)
        refine lv_bipush (v := 8) hx hb dX12_goOn_180 (by decide) ?_
        refine lv_lshl hx hb dX12_goOn_182 rfl ?_
        refine ez_topl h (fun t_182 h => ?_)
        refine lv_aload_n hx hb dX12_goOn_183 rfl (lv_at hl 0 rfl) ?_
        refine lv_iload_n hx hb dX12_goOn_184 rfl (lv_at hl 1 rfl) ?_
        refine ez_cVpi (As := [.int x2]) (rest := [.long t_182, .ref (B + h0)]) h (fun _ q => c_X12_sign q) hC k_X12_sign ql_RX12_219 rfl (by decide) hS (fun _ q => ez_rcv q) rfl hl.1 rfl (Nat.le_of_ble_eq_true rfl) ⟨Nat.zero_le _, Nat.zero_le _⟩ dX12_goOn_185 (fun t_185 H locs hS h => ?_)
        refine lv_i2l hx hb dX12_goOn_188 rfl ?_
        refine ez_topl h (fun t_188 h => ?_)
        refine lv_lor hx hb dX12_goOn_189 ?_
        refine ez_topl h (fun t_189 h => ?_)
        refine ep_RX12_230 hC hS h dX12_goOn_190 (fun σ H locs hS h => ?_)
        obtain ⟨t_193, e_193, h⟩ := ez_let_sp h
        refine lv_iinc (v := t_193) (lv' := [(2, .int t_193), (0, .ref (B + h0))]) hx hb dX12_goOn_193 hl (k := 1) rfl (by rw [e_193]; rfl) (by decide) rfl (fun ls hl => ?_)
        refine lv_goto (tgt := 156) hx hb dX12_goOn_196 (by decide) ?_
        exact hk_156 σ h0 t_193 _ _ _ hS h (lv_sub hl [1, 0] rfl)
  have E_156 : ∀ (σ : ez_H) (h0 : Nat) (x2 : Int32) (H : Heap) (locs : List Loc) (ls : Array Slot), ez_S X B s.heap (σ0.length) σ H locs → (ez_fix (fun _ _ _ => none) (z_X12_goOn_156) ez_N) σ h0 x2 = some z → lv_has ls 3 [(0, .ref (B + h0)), (2, .int x2)] → W p l e R s m args below meth c H locs 0 0 Q (F0 m 156 ls []) := ez_fix_ind (fun k_156 : ez_H → Nat → Int32 → Option (Unit × ez_H) => ∀ (σ : ez_H) (h0 : Nat) (x2 : Int32) (H : Heap) (locs : List Loc) (ls : Array Slot), ez_S X B s.heap (σ0.length) σ H locs → k_156 σ h0 x2 = some z → lv_has ls 3 [(0, .ref (B + h0)), (2, .int x2)] → W p l e R s m args below meth c H locs 0 0 Q (F0 m 156 ls [])) (fun _ _ _ _ _ _ _ h _ => by cases h) (fun k_156 hk_156 => K_156 k_156 hk_156) ez_N
  have K_119 : ∀ (k_119 : ez_H → Nat → Option (Unit × ez_H)) (hk_119 : ∀ (σ : ez_H) (h0 : Nat) (H : Heap) (locs : List Loc) (ls : Array Slot), ez_S X B s.heap (σ0.length) σ H locs → k_119 σ h0 = some z → lv_has ls 3 [(0, .ref (B + h0))] → W p l e R s m args below meth c H locs 0 0 Q (F0 m 119 ls [])), ∀ (σ : ez_H) (h0 : Nat) (H : Heap) (locs : List Loc) (ls : Array Slot), ez_S X B s.heap (σ0.length) σ H locs → z_X12_goOn_119 k_119 σ h0 = some z → lv_has ls 3 [(0, .ref (B + h0))] → W p l e R s m args below meth c H locs 0 0 Q (F0 m 119 ls []) := by
    intro k_119 hk_119 σ h0 H locs ls hS h hl
    refine lv_aload_n hx hb dX12_goOn_119 rfl (lv_at hl 0 rfl) ?_
    refine lv_aload_n hx hb dX12_goOn_120 rfl (lv_at hl 0 rfl) ?_
    refine eg_RX12_213 hC hS h dX12_goOn_121 (fun t_121 h => ?_)
    refine ez_cVpi (As := [.int t_121]) (rest := []) h (fun _ q => c_X12_sign q) hC k_X12_sign ql_RX12_219 rfl (by decide) hS (fun _ q => ez_rcv q) rfl hl.1 rfl (Nat.le_of_ble_eq_true rfl) ⟨Nat.zero_le _, Nat.zero_le _⟩ dX12_goOn_124 (fun t_124 H locs hS h => ?_)
    refine ez_cSpi (As := [.int t_124]) (rest := []) h (fun _ q => c_X12_isLetter q) hC k_X12_isLetter ql_RX12_226 rfl (by decide) hS hl.1 rfl (Nat.le_of_ble_eq_true rfl) ⟨Nat.zero_le _, Nat.zero_le _⟩ dX12_goOn_127 (fun t_127 H locs hS h => ?_)
    refine lv_if_eq (tgt := 146) hx hb dX12_goOn_130 (by decide) (fun c_130 => ?_) (fun c_130 => ?_)
    · replace h := ez_ifp h c_130
      refine lv_aload_n hx hb dX12_goOn_146 rfl (lv_at hl 0 rfl) ?_
      refine lv_lconst (v := 0) hx hb dX12_goOn_147 (by decide) ?_
      refine ep_RX12_230 hC hS h dX12_goOn_148 (fun σ H locs hS h => ?_)
      refine lv_aload_n hx hb dX12_goOn_151 rfl (lv_at hl 0 rfl) ?_
      refine eg_RX12_216 hC hS h dX12_goOn_152 (fun t_152 h => ?_)
      refine lv_istore_n (lv' := [(2, .int t_152), (0, .ref (B + h0))]) hx hb dX12_goOn_155 rfl hl (by decide) rfl (fun ls hl => ?_)
      exact E_156  σ h0 t_152 _ _ _ hS h (lv_sub hl [1, 0] rfl)
    · replace h := ez_ifn h c_130
      refine lv_aload_n hx hb dX12_goOn_133 rfl (lv_at hl 0 rfl) ?_
      refine lv_dup hx hb dX12_goOn_134 rfl ?_
      refine eg_RX12_213 hC hS h dX12_goOn_135 (fun t_135 h => ?_)
      refine lv_iconst (v := 1) hx hb dX12_goOn_138 (by decide) ?_
      refine lv_iadd hx hb dX12_goOn_139 ?_
      refine ez_top h (fun t_139 h => ?_)
      refine ep_RX12_213 hC hS h dX12_goOn_140 (fun σ H locs hS h => ?_)
      refine lv_goto (tgt := 119) hx hb dX12_goOn_143 (by decide) ?_
      exact hk_119 σ h0 _ _ _ hS h (lv_sub hl [0] rfl)
  have E_119 : ∀ (σ : ez_H) (h0 : Nat) (H : Heap) (locs : List Loc) (ls : Array Slot), ez_S X B s.heap (σ0.length) σ H locs → (ez_fix (fun _ _ => none) (z_X12_goOn_119) ez_N) σ h0 = some z → lv_has ls 3 [(0, .ref (B + h0))] → W p l e R s m args below meth c H locs 0 0 Q (F0 m 119 ls []) := ez_fix_ind (fun k_119 : ez_H → Nat → Option (Unit × ez_H) => ∀ (σ : ez_H) (h0 : Nat) (H : Heap) (locs : List Loc) (ls : Array Slot), ez_S X B s.heap (σ0.length) σ H locs → k_119 σ h0 = some z → lv_has ls 3 [(0, .ref (B + h0))] → W p l e R s m args below meth c H locs 0 0 Q (F0 m 119 ls [])) (fun _ _ _ _ _ _ h _ => by cases h) (fun k_119 hk_119 => K_119 k_119 hk_119) ez_N
  have K_58 : ∀ (σ : ez_H) (h0 : Nat) (H : Heap) (locs : List Loc) (ls : Array Slot), ez_S X B s.heap (σ0.length) σ H locs → z_X12_goOn_58 σ h0 = some z → lv_has ls 3 [(0, .ref (B + h0))] → W p l e R s m args below meth c H locs 0 0 Q (F0 m 58 ls []) := by
    intro σ h0 H locs ls hS h hl
    refine lv_aload_n hx hb dX12_goOn_58 rfl (lv_at hl 0 rfl) ?_
    refine lv_aload_n hx hb dX12_goOn_59 rfl (lv_at hl 0 rfl) ?_
    refine eg_RX12_216 hC hS h dX12_goOn_60 (fun t_60 h => ?_)
    refine ez_cVpi (As := [.int t_60]) (rest := []) h (fun _ q => c_X12_sign q) hC k_X12_sign ql_RX12_219 rfl (by decide) hS (fun _ q => ez_rcv q) rfl hl.1 rfl (Nat.le_of_ble_eq_true rfl) ⟨Nat.zero_le _, Nat.zero_le _⟩ dX12_goOn_63 (fun t_63 H locs hS h => ?_)
    refine lv_istore_n (lv' := [(1, .int t_63), (0, .ref (B + h0))]) hx hb dX12_goOn_66 rfl hl (by decide) rfl (fun ls hl => ?_)
    refine lv_aload_n hx hb dX12_goOn_67 rfl (lv_at hl 1 rfl) ?_
    refine lv_aload_n hx hb dX12_goOn_68 rfl (lv_at hl 1 rfl) ?_
    refine eg_RX12_216 hC hS h dX12_goOn_69 (fun t_69 h => ?_)
    refine lv_iconst (v := 1) hx hb dX12_goOn_72 (by decide) ?_
    refine lv_iadd hx hb dX12_goOn_73 ?_
    refine ez_top h (fun t_73 h => ?_)
    refine ep_RX12_213 hC hS h dX12_goOn_74 (fun σ H locs hS h => ?_)
    refine lv_aload_n hx hb dX12_goOn_77 rfl (lv_at hl 1 rfl) ?_
    refine eg_RX12_216 hC hS h dX12_goOn_78 (fun t_78 h => ?_)
    refine lv_aload_n hx hb dX12_goOn_81 rfl (lv_at hl 1 rfl) ?_
    refine eg_RX12_161 hC hS h dX12_goOn_82 (fun t_82 h => ?_)
    refine lv_icmp_lt (tgt := 112) hx hb dX12_goOn_85 (by decide) (fun c_85 => ?_) (fun c_85 => ?_)
    · replace h := ez_ifp h c_85
      refine lv_iload_n hx hb dX12_goOn_112 rfl (lv_at hl 0 rfl) ?_
      refine ez_cSpi (As := [.int t_63]) (rest := []) h (fun _ q => c_X12_isLetter q) hC k_X12_isLetter ql_RX12_226 rfl (by decide) hS hl.1 rfl (Nat.le_of_ble_eq_true rfl) ⟨Nat.zero_le _, Nat.zero_le _⟩ dX12_goOn_113 (fun t_113 H locs hS h => ?_)
      refine lv_if_eq (tgt := 239) hx hb dX12_goOn_116 (by decide) (fun c_116 => ?_) (fun c_116 => ?_)
      · replace h := ez_ifp h c_116
        refine lv_iload_n hx hb dX12_goOn_239 rfl (lv_at hl 0 rfl) ?_
        refine ez_cSpi (As := [.int t_63]) (rest := []) h (fun _ q => c_X12_isDigit q) hC k_X12_isDigit ql_RX12_238 rfl (by decide) hS hl.1 rfl (Nat.le_of_ble_eq_true rfl) ⟨Nat.zero_le _, Nat.zero_le _⟩ dX12_goOn_240 (fun t_240 H locs hS h => ?_)
        refine lv_if_eq (tgt := 361) hx hb dX12_goOn_243 (by decide) (fun c_243 => ?_) (fun c_243 => ?_)
        · replace h := ez_ifp h c_243
          refine lv_aload_n hx hb dX12_goOn_361 rfl (lv_at hl 1 rfl) ?_
          refine lv_iload_n hx hb dX12_goOn_362 rfl (lv_at hl 0 rfl) ?_
          refine ez_cSpi (As := [.int t_63]) (rest := [.ref (B + h0)]) h (fun _ q => c_X12_isSign q) hC k_X12_isSign ql_RX12_244 rfl (by decide) hS hl.1 rfl (Nat.le_of_ble_eq_true rfl) ⟨Nat.zero_le _, Nat.zero_le _⟩ dX12_goOn_363 (fun t_363 H locs hS h => ?_)
          refine lv_if_eq (tgt := 373) hx hb dX12_goOn_366 (by decide) (fun c_366 => ?_) (fun c_366 => ?_)
          · replace h := ez_ifp h c_366
            refine lv_iconst (v := 1) hx hb dX12_goOn_373 (by decide) ?_
            exact K_374  σ h0 (1 : Int32) _ _ _ hS h (lv_sub hl [] rfl)
          · replace h := ez_ifn h c_366
            refine lv_iconst (v := 5) hx hb dX12_goOn_369 (by decide) ?_
            refine lv_goto (tgt := 374) hx hb dX12_goOn_370 (by decide) ?_
            exact K_374  σ h0 (5 : Int32) _ _ _ hS h (lv_sub hl [] rfl)
        · replace h := ez_ifn h c_243
          refine lv_aload_n hx hb dX12_goOn_246 rfl (lv_at hl 1 rfl) ?_
          refine lv_iconst (v := 0) hx hb dX12_goOn_247 (by decide) ?_
          refine ep_RX12_241 hC hS h dX12_goOn_248 (fun σ H locs hS h => ?_)
          refine lv_aload_n hx hb dX12_goOn_251 rfl (lv_at hl 1 rfl) ?_
          refine lv_aload_n hx hb dX12_goOn_252 rfl (lv_at hl 1 rfl) ?_
          refine eg_RX12_216 hC hS h dX12_goOn_253 (fun t_253 h => ?_)
          refine ep_RX12_213 hC hS h dX12_goOn_256 (fun σ H locs hS h => ?_)
          exact E_259  σ h0 _ _ _ hS h (lv_sub hl [1] rfl)
      · replace h := ez_ifn h c_116
        exact E_119  σ h0 _ _ _ hS h (lv_sub hl [1] rfl)
    · replace h := ez_ifn h c_85
      refine lv_aload_n hx hb dX12_goOn_88 rfl (lv_at hl 1 rfl) ?_
      refine lv_iconst (v := 0) hx hb dX12_goOn_89 (by decide) ?_
      refine ep_RX12_223 hC hS h dX12_goOn_90 (fun σ H locs hS h => ?_)
      refine lv_aload_n hx hb dX12_goOn_93 rfl (lv_at hl 1 rfl) ?_
      refine lv_aload_n hx hb dX12_goOn_94 rfl (lv_at hl 1 rfl) ?_
      refine eg_RX12_161 hC hS h dX12_goOn_95 (fun t_95 h => ?_)
      refine ep_RX12_216 hC hS h dX12_goOn_98 (fun σ H locs hS h => ?_)
      refine lv_aload_n hx hb dX12_goOn_101 rfl (lv_at hl 1 rfl) ?_
      refine lv_aload_n hx hb dX12_goOn_102 rfl (lv_at hl 1 rfl) ?_
      refine eg_RX12_161 hC hS h dX12_goOn_103 (fun t_103 h => ?_)
      refine ep_RX12_213 hC hS h dX12_goOn_106 (fun σ H locs hS h => ?_)
      refine lv_goto (tgt := 377) hx hb dX12_goOn_109 (by decide) ?_
      exact K_377  σ _ _ _ hS h (lv_sub hl [] rfl)
  have K_45 : ∀ (k_8 : ez_H → Nat → Option (Unit × ez_H)) (hk_8 : ∀ (σ : ez_H) (h0 : Nat) (H : Heap) (locs : List Loc) (ls : Array Slot), ez_S X B s.heap (σ0.length) σ H locs → k_8 σ h0 = some z → lv_has ls 3 [(0, .ref (B + h0))] → W p l e R s m args below meth c H locs 0 0 Q (F0 m 8 ls [])), ∀ (σ : ez_H) (h0 : Nat) (H : Heap) (locs : List Loc) (ls : Array Slot), ez_S X B s.heap (σ0.length) σ H locs → z_X12_goOn_45 k_8 σ h0 = some z → lv_has ls 3 [(0, .ref (B + h0))] → W p l e R s m args below meth c H locs 0 0 Q (F0 m 45 ls []) := by
    intro k_8 hk_8 σ h0 H locs ls hS h hl
    refine lv_aload_n hx hb dX12_goOn_45 rfl (lv_at hl 0 rfl) ?_
    refine lv_dup hx hb dX12_goOn_46 rfl ?_
    refine eg_RX12_216 hC hS h dX12_goOn_47 (fun t_47 h => ?_)
    refine lv_iconst (v := 1) hx hb dX12_goOn_50 (by decide) ?_
    refine lv_iadd hx hb dX12_goOn_51 ?_
    refine ez_top h (fun t_51 h => ?_)
    refine ep_RX12_216 hC hS h dX12_goOn_52 (fun σ H locs hS h => ?_)
    refine lv_goto (tgt := 8) hx hb dX12_goOn_55 (by decide) ?_
    exact hk_8 σ h0 _ _ _ hS h (lv_sub hl [0] rfl)
  have K_8 : ∀ (k_8 : ez_H → Nat → Option (Unit × ez_H)) (hk_8 : ∀ (σ : ez_H) (h0 : Nat) (H : Heap) (locs : List Loc) (ls : Array Slot), ez_S X B s.heap (σ0.length) σ H locs → k_8 σ h0 = some z → lv_has ls 3 [(0, .ref (B + h0))] → W p l e R s m args below meth c H locs 0 0 Q (F0 m 8 ls [])), ∀ (σ : ez_H) (h0 : Nat) (H : Heap) (locs : List Loc) (ls : Array Slot), ez_S X B s.heap (σ0.length) σ H locs → z_X12_goOn_8 k_8 σ h0 = some z → lv_has ls 3 [(0, .ref (B + h0))] → W p l e R s m args below meth c H locs 0 0 Q (F0 m 8 ls []) := by
    intro k_8 hk_8 σ h0 H locs ls hS h hl
    refine lv_aload_n hx hb dX12_goOn_8 rfl (lv_at hl 0 rfl) ?_
    refine eg_RX12_216 hC hS h dX12_goOn_9 (fun t_9 h => ?_)
    refine lv_aload_n hx hb dX12_goOn_12 rfl (lv_at hl 0 rfl) ?_
    refine eg_RX12_161 hC hS h dX12_goOn_13 (fun t_13 h => ?_)
    refine lv_icmp_ge (tgt := 58) hx hb dX12_goOn_16 (by decide) (fun c_16 => ?_) (fun c_16 => ?_)
    · replace h := ez_ifp h c_16
      exact K_58  σ h0 _ _ _ hS h (lv_sub hl [0] rfl)
    · replace h := ez_ifn h c_16
      refine lv_aload_n hx hb dX12_goOn_19 rfl (lv_at hl 0 rfl) ?_
      refine lv_aload_n hx hb dX12_goOn_20 rfl (lv_at hl 0 rfl) ?_
      refine eg_RX12_216 hC hS h dX12_goOn_21 (fun t_21 h => ?_)
      refine ez_cVpi (As := [.int t_21]) (rest := []) h (fun _ q => c_X12_sign q) hC k_X12_sign ql_RX12_219 rfl (by decide) hS (fun _ q => ez_rcv q) rfl hl.1 rfl (Nat.le_of_ble_eq_true rfl) ⟨Nat.zero_le _, Nat.zero_le _⟩ dX12_goOn_24 (fun t_24 H locs hS h => ?_)
      refine lv_bipush (v := 32) hx hb dX12_goOn_27 (by decide) ?_
      refine lv_icmp_eq (tgt := 45) hx hb dX12_goOn_29 (by decide) (fun c_29 => ?_) (fun c_29 => ?_)
      · replace h := ez_ifp h c_29
        exact K_45 k_8 hk_8 σ h0 _ _ _ hS h (lv_sub hl [0] rfl)
      · replace h := ez_ifn h c_29
        refine lv_aload_n hx hb dX12_goOn_32 rfl (lv_at hl 0 rfl) ?_
        refine lv_aload_n hx hb dX12_goOn_33 rfl (lv_at hl 0 rfl) ?_
        refine eg_RX12_216 hC hS h dX12_goOn_34 (fun t_34 h => ?_)
        refine ez_cVpi (As := [.int t_34]) (rest := []) h (fun _ q => c_X12_sign q) hC k_X12_sign ql_RX12_219 rfl (by decide) hS (fun _ q => ez_rcv q) rfl hl.1 rfl (Nat.le_of_ble_eq_true rfl) ⟨Nat.zero_le _, Nat.zero_le _⟩ dX12_goOn_37 (fun t_37 H locs hS h => ?_)
        refine lv_bipush (v := 10) hx hb dX12_goOn_40 (by decide) ?_
        refine lv_icmp_ne (tgt := 58) hx hb dX12_goOn_42 (by decide) (fun c_42 => ?_) (fun c_42 => ?_)
        · replace h := ez_ifn h c_42
          exact K_58  σ h0 _ _ _ hS h (lv_sub hl [0] rfl)
        · replace h := ez_ifp h c_42
          exact K_45 k_8 hk_8 σ h0 _ _ _ hS h (lv_sub hl [0] rfl)
  have E_8 : ∀ (σ : ez_H) (h0 : Nat) (H : Heap) (locs : List Loc) (ls : Array Slot), ez_S X B s.heap (σ0.length) σ H locs → (ez_fix (fun _ _ => none) (z_X12_goOn_8) ez_N) σ h0 = some z → lv_has ls 3 [(0, .ref (B + h0))] → W p l e R s m args below meth c H locs 0 0 Q (F0 m 8 ls []) := ez_fix_ind (fun k_8 : ez_H → Nat → Option (Unit × ez_H) => ∀ (σ : ez_H) (h0 : Nat) (H : Heap) (locs : List Loc) (ls : Array Slot), ez_S X B s.heap (σ0.length) σ H locs → k_8 σ h0 = some z → lv_has ls 3 [(0, .ref (B + h0))] → W p l e R s m args below meth c H locs 0 0 Q (F0 m 8 ls [])) (fun _ _ _ _ _ _ h _ => by cases h) (fun k_8 hk_8 => K_8 k_8 hk_8) ez_N
  refine lv_aload_n hx hb dX12_goOn_0 rfl (lv_at hl 0 rfl) ?_
  refine lv_aload_n hx hb dX12_goOn_1 rfl (lv_at hl 0 rfl) ?_
  refine eg_RX12_213 hC hS h dX12_goOn_2 (fun t_2 h => ?_)
  refine ep_RX12_216 hC hS h dX12_goOn_5 (fun σ H locs hS h => ?_)
  exact E_8  σ h0 _ _ _ hS h (lv_sub hl [0] rfl)
