set_option maxHeartbeats 4000000 in
set_option maxRecDepth 100000 in
theorem c_X3_neverOf {l : Launch} {X : ez_X} {B : Nat} {σ : ez_H} {h0 : Nat} {x1 : Int32} {z : Int32} (h : z_X3_neverOf σ h0 x1 = some z) : ez_M l X B σ yX3_neverOf cX3_neverOf 2 (some .int) 1 [.ref (B + h0), .int x1] (some (.int z)) σ := by
  refine ez_startip (z := z) (by decide) (Nat.le_of_ble_eq_true rfl) (fun p e R s m args below meth c Q hC hret hS ls hl => ?_)
  have hC : ez_C p R s m args c X B RX3 cX3_neverOf 2 1 := hC
  have hx := hC.1.1
  have hb := hC.1.2.1
  have hown := hC.1.2.2.2.1
  have hts := hC.1.2.2.2.2
  have hl : lv_has ls 2 [(0, .ref (B + h0)), (1, .int x1)] := hl
  obtain ⟨n0, e0⟩ : ∃ n0 : Nat, n0 = σ.length := ⟨_, rfl⟩
  rw [← e0] at hret hS
  obtain ⟨-, h⟩ := ez_in h
  refine lv_aload_n hx hb dX3_neverOf_0 rfl (lv_at hl 0 rfl) ?_
  refine eg_RX3_45 hC hS h dX3_neverOf_1 (fun t_1 h => ?_)
  refine lv_iload_n hx hb dX3_neverOf_4 rfl (lv_at hl 1 rfl) ?_
  refine ez_cSpi (As := [.ref (B + t_1), .int x1]) (rest := []) h (fun _ q => c_X3_look q) hC k_X3_look ql_RX3_100 rfl (by decide) hS hl.1 rfl (Nat.le_of_ble_eq_true rfl) ⟨Nat.zero_le _, Nat.zero_le _⟩ dX3_neverOf_5 (fun t_5 H locs hS h => ?_)
  exact hret _ _ _ _ _ (Option.some.inj h) rfl hS dX3_neverOf_8
set_option maxHeartbeats 4000000 in
set_option maxRecDepth 100000 in
theorem c_X3_mustOf {l : Launch} {X : ez_X} {B : Nat} {σ : ez_H} {h0 : Nat} {x1 : Int32} {z : Int32} (h : z_X3_mustOf σ h0 x1 = some z) : ez_M l X B σ yX3_mustOf cX3_mustOf 2 (some .int) 1 [.ref (B + h0), .int x1] (some (.int z)) σ := by
  refine ez_startip (z := z) (by decide) (Nat.le_of_ble_eq_true rfl) (fun p e R s m args below meth c Q hC hret hS ls hl => ?_)
  have hC : ez_C p R s m args c X B RX3 cX3_mustOf 2 1 := hC
  have hx := hC.1.1
  have hb := hC.1.2.1
  have hown := hC.1.2.2.2.1
  have hts := hC.1.2.2.2.2
  have hl : lv_has ls 2 [(0, .ref (B + h0)), (1, .int x1)] := hl
  obtain ⟨n0, e0⟩ : ∃ n0 : Nat, n0 = σ.length := ⟨_, rfl⟩
  rw [← e0] at hret hS
  obtain ⟨-, h⟩ := ez_in h
  refine lv_aload_n hx hb dX3_mustOf_0 rfl (lv_at hl 0 rfl) ?_
  refine eg_RX3_42 hC hS h dX3_mustOf_1 (fun t_1 h => ?_)
  refine lv_iload_n hx hb dX3_mustOf_4 rfl (lv_at hl 1 rfl) ?_
  refine ez_cSpi (As := [.ref (B + t_1), .int x1]) (rest := []) h (fun _ q => c_X3_look q) hC k_X3_look ql_RX3_100 rfl (by decide) hS hl.1 rfl (Nat.le_of_ble_eq_true rfl) ⟨Nat.zero_le _, Nat.zero_le _⟩ dX3_mustOf_5 (fun t_5 H locs hS h => ?_)
  exact hret _ _ _ _ _ (Option.some.inj h) rfl hS dX3_mustOf_8
set_option maxHeartbeats 4000000 in
set_option maxRecDepth 100000 in
theorem c_X5_pinsFor {l : Launch} {X : ez_X} {B : Nat} {σ : ez_H} {h0 : Nat} {x1 : Int32} {z : Int32} (h : z_X5_pinsFor σ h0 x1 = some z) : ez_M l X B σ yX5_pinsFor cX5_pinsFor 4 (some .int) 2 [.ref (B + h0), .int x1] (some (.int z)) σ := by
  refine ez_startip (z := z) (by decide) (Nat.le_of_ble_eq_true rfl) (fun p e R s m args below meth c Q hC hret hS ls hl => ?_)
  have hC : ez_C p R s m args c X B RX5 cX5_pinsFor 4 2 := hC
  have hx := hC.1.1
  have hb := hC.1.2.1
  have hown := hC.1.2.2.2.1
  have hts := hC.1.2.2.2.2
  have hl : lv_has ls 4 [(0, .ref (B + h0)), (1, .int x1)] := hl
  obtain ⟨n0, e0⟩ : ∃ n0 : Nat, n0 = σ.length := ⟨_, rfl⟩
  rw [← e0] at hret hS
  obtain ⟨-, h⟩ := ez_in h
  have K_34 : ∀ (k_4 : Nat → Int32 → Int32 → Int32 → Option (Int32)) (hk_4 : ∀ (h0 : Nat) (x1 : Int32) (x2 : Int32) (x3 : Int32) (H : Heap) (locs : List Loc) (ls : Array Slot), ez_S X B s.heap (n0) σ H locs → k_4 h0 x1 x2 x3 = some z → lv_has ls 4 [(0, .ref (B + h0)), (1, .int x1), (2, .int x2), (3, .int x3)] → W p l e R s m args below meth c H locs 0 0 Q (F0 m 4 ls [])), ∀ (h0 : Nat) (x1 : Int32) (x2 : Int32) (x3 : Int32) (H : Heap) (locs : List Loc) (ls : Array Slot), ez_S X B s.heap (n0) σ H locs → z_X5_pinsFor_34 σ k_4 h0 x1 x2 x3 = some z → lv_has ls 4 [(0, .ref (B + h0)), (1, .int x1), (2, .int x2), (3, .int x3)] → W p l e R s m args below meth c H locs 0 0 Q (F0 m 34 ls []) := by
    intro k_4 hk_4 h0 x1 x2 x3 H locs ls hS h hl
    obtain ⟨t_34, e_34, h⟩ := ez_let_sp h
    refine lv_iinc (v := t_34) (lv' := [(3, .int t_34), (0, .ref (B + h0)), (1, .int x1), (2, .int x2)]) hx hb dX5_pinsFor_34 hl (k := 3) rfl (by rw [e_34]; rfl) (by decide) rfl (fun ls hl => ?_)
    refine lv_goto (tgt := 4) hx hb dX5_pinsFor_37 (by decide) ?_
    exact hk_4 h0 x1 x2 t_34 _ _ _ hS h (lv_sub hl [1, 2, 3, 0] rfl)
  have K_4 : ∀ (k_4 : Nat → Int32 → Int32 → Int32 → Option (Int32)) (hk_4 : ∀ (h0 : Nat) (x1 : Int32) (x2 : Int32) (x3 : Int32) (H : Heap) (locs : List Loc) (ls : Array Slot), ez_S X B s.heap (n0) σ H locs → k_4 h0 x1 x2 x3 = some z → lv_has ls 4 [(0, .ref (B + h0)), (1, .int x1), (2, .int x2), (3, .int x3)] → W p l e R s m args below meth c H locs 0 0 Q (F0 m 4 ls [])), ∀ (h0 : Nat) (x1 : Int32) (x2 : Int32) (x3 : Int32) (H : Heap) (locs : List Loc) (ls : Array Slot), ez_S X B s.heap (n0) σ H locs → z_X5_pinsFor_4 σ k_4 h0 x1 x2 x3 = some z → lv_has ls 4 [(0, .ref (B + h0)), (1, .int x1), (2, .int x2), (3, .int x3)] → W p l e R s m args below meth c H locs 0 0 Q (F0 m 4 ls []) := by
    intro k_4 hk_4 h0 x1 x2 x3 H locs ls hS h hl
    refine lv_iload_n hx hb dX5_pinsFor_4 rfl (lv_at hl 3 rfl) ?_
    refine lv_aload_n hx hb dX5_pinsFor_5 rfl (lv_at hl 0 rfl) ?_
    refine eg_RX5_9 hC hS h dX5_pinsFor_6 (fun t_6 h => ?_)
    refine eg_RX5_34 hC hS h dX5_pinsFor_9 (fun t_9 h => ?_)
    refine lv_icmp_ge (tgt := 40) hx hb dX5_pinsFor_12 (by decide) (fun c_12 => ?_) (fun c_12 => ?_)
    · replace h := ez_ifp h c_12
      refine lv_iload_n hx hb dX5_pinsFor_40 rfl (lv_at hl 2 rfl) ?_
      exact hret _ _ _ _ _ (Option.some.inj h) rfl hS dX5_pinsFor_41
    · replace h := ez_ifn h c_12
      refine lv_iload_n hx hb dX5_pinsFor_15 rfl (lv_at hl 1 rfl) ?_
      refine lv_iload_n hx hb dX5_pinsFor_16 rfl (lv_at hl 3 rfl) ?_
      refine lv_ishr hx hb dX5_pinsFor_17 ?_
      refine ez_top h (fun t_17 h => ?_)
      refine lv_iconst (v := 1) hx hb dX5_pinsFor_18 (by decide) ?_
      refine lv_iand hx hb dX5_pinsFor_19 ?_
      refine ez_top h (fun t_19 h => ?_)
      refine lv_if_eq (tgt := 34) hx hb dX5_pinsFor_20 (by decide) (fun c_20 => ?_) (fun c_20 => ?_)
      · replace h := ez_ifp h c_20
        exact K_34 k_4 hk_4 h0 x1 x2 x3 _ _ _ hS h (lv_sub hl [0, 1, 2, 3] rfl)
      · replace h := ez_ifn h c_20
        refine lv_iload_n hx hb dX5_pinsFor_23 rfl (lv_at hl 2 rfl) ?_
        refine lv_aload_n hx hb dX5_pinsFor_24 rfl (lv_at hl 0 rfl) ?_
        refine eg_RX5_15 hC hS h dX5_pinsFor_25 (fun t_25 h => ?_)
        refine lv_iload_n hx hb dX5_pinsFor_28 rfl (lv_at hl 3 rfl) ?_
        refine ez_cVpi (As := [.int x3]) (rest := [.int x2]) h (fun _ q => c_X7_bits q) hC k_X7_bits ql_RX5_37 rfl (by decide) hS (fun _ q => ez_rcv q) rfl hl.1 rfl (Nat.le_of_ble_eq_true rfl) ⟨Nat.zero_le _, Nat.zero_le _⟩ dX5_pinsFor_29 (fun t_29 H locs hS h => ?_)
        refine lv_ior hx hb dX5_pinsFor_32 ?_
        refine ez_top h (fun t_32 h => ?_)
        refine lv_istore_n (lv' := [(2, .int t_32), (0, .ref (B + h0)), (1, .int x1), (3, .int x3)]) hx hb dX5_pinsFor_33 rfl hl (by decide) rfl (fun ls hl => ?_)
        exact K_34 k_4 hk_4 h0 x1 t_32 x3 _ _ _ hS h (lv_sub hl [1, 2, 0, 3] rfl)
  have E_4 : ∀ (h0 : Nat) (x1 : Int32) (x2 : Int32) (x3 : Int32) (H : Heap) (locs : List Loc) (ls : Array Slot), ez_S X B s.heap (n0) σ H locs → (ez_fix (fun _ _ _ _ => none) (z_X5_pinsFor_4 σ) ez_N) h0 x1 x2 x3 = some z → lv_has ls 4 [(0, .ref (B + h0)), (1, .int x1), (2, .int x2), (3, .int x3)] → W p l e R s m args below meth c H locs 0 0 Q (F0 m 4 ls []) := ez_fix_ind (fun k_4 : Nat → Int32 → Int32 → Int32 → Option (Int32) => ∀ (h0 : Nat) (x1 : Int32) (x2 : Int32) (x3 : Int32) (H : Heap) (locs : List Loc) (ls : Array Slot), ez_S X B s.heap (n0) σ H locs → k_4 h0 x1 x2 x3 = some z → lv_has ls 4 [(0, .ref (B + h0)), (1, .int x1), (2, .int x2), (3, .int x3)] → W p l e R s m args below meth c H locs 0 0 Q (F0 m 4 ls [])) (fun _ _ _ _ _ _ _ _ h _ => by cases h) (fun k_4 hk_4 => K_4 k_4 hk_4) ez_N
  refine lv_iconst (v := 0) hx hb dX5_pinsFor_0 (by decide) ?_
  refine lv_istore_n (lv' := [(2, .int 0), (0, .ref (B + h0)), (1, .int x1)]) hx hb dX5_pinsFor_1 rfl hl (by decide) rfl (fun ls hl => ?_)
  refine lv_iconst (v := 0) hx hb dX5_pinsFor_2 (by decide) ?_
  refine lv_istore_n (lv' := [(3, .int 0), (2, .int 0), (0, .ref (B + h0)), (1, .int x1)]) hx hb dX5_pinsFor_3 rfl hl (by decide) rfl (fun ls hl => ?_)
  exact E_4  h0 x1 (0 : Int32) (0 : Int32) _ _ _ hS h (lv_sub hl [2, 3, 1, 0] rfl)
set_option maxHeartbeats 4000000 in
set_option maxRecDepth 100000 in
theorem c_X5_lawfulPins {l : Launch} {X : ez_X} {B : Nat} {σ : ez_H} {h0 : Nat} {x1 : Int32} {z : Int32} (h : z_X5_lawfulPins σ h0 x1 = some z) : ez_M l X B σ yX5_lawfulPins cX5_lawfulPins 3 (some .int) 3 [.ref (B + h0), .int x1] (some (.int z)) σ := by
  refine ez_startip (z := z) (by decide) (Nat.le_of_ble_eq_true rfl) (fun p e R s m args below meth c Q hC hret hS ls hl => ?_)
  have hC : ez_C p R s m args c X B RX5 cX5_lawfulPins 3 3 := hC
  have hx := hC.1.1
  have hb := hC.1.2.1
  have hown := hC.1.2.2.2.1
  have hts := hC.1.2.2.2.2
  have hl : lv_has ls 3 [(0, .ref (B + h0)), (1, .int x1)] := hl
  obtain ⟨n0, e0⟩ : ∃ n0 : Nat, n0 = σ.length := ⟨_, rfl⟩
  rw [← e0] at hret hS
  obtain ⟨-, h⟩ := ez_in h
  have K_29 : ∀ (y0 : Int32) (H : Heap) (locs : List Loc) (ls : Array Slot), ez_S X B s.heap (n0) σ H locs → z_X5_lawfulPins_29 σ y0 = some z → lv_has ls 3 [] → W p l e R s m args below meth c H locs 0 0 Q (F0 m 29 ls [.int y0]) := by
    intro y0 H locs ls hS h hl
    exact hret _ _ _ _ _ (Option.some.inj h) rfl hS dX5_lawfulPins_29
  refine lv_aload_n hx hb dX5_lawfulPins_0 rfl (lv_at hl 0 rfl) ?_
  refine eg_RX5_9 hC hS h dX5_lawfulPins_1 (fun t_1 h => ?_)
  refine lv_iload_n hx hb dX5_lawfulPins_4 rfl (lv_at hl 1 rfl) ?_
  refine ez_cVpi (As := [.int x1]) (rest := []) h (fun _ q => c_X3_mustOf q) hC k_X3_mustOf ql_RX5_55 rfl (by decide) hS (fun _ q => ez_rcv q) rfl hl.1 rfl (Nat.le_of_ble_eq_true rfl) ⟨Nat.zero_le _, Nat.zero_le _⟩ dX5_lawfulPins_5 (fun t_5 H locs hS h => ?_)
  refine lv_istore_n (lv' := [(2, .int t_5), (0, .ref (B + h0)), (1, .int x1)]) hx hb dX5_lawfulPins_8 rfl hl (by decide) rfl (fun ls hl => ?_)
  refine lv_iload_n hx hb dX5_lawfulPins_9 rfl (lv_at hl 0 rfl) ?_
  refine lv_if_ne (tgt := 24) hx hb dX5_lawfulPins_10 (by decide) (fun c_10 => ?_) (fun c_10 => ?_)
  · replace h := ez_ifn h c_10
    refine lv_aload_n hx hb dX5_lawfulPins_24 rfl (lv_at hl 1 rfl) ?_
    refine lv_iload_n hx hb dX5_lawfulPins_25 rfl (lv_at hl 0 rfl) ?_
    refine ez_cVpi (As := [.int t_5]) (rest := []) h (fun _ q => c_X5_pinsFor q) hC k_X5_pinsFor ql_RX5_58 rfl (by decide) hS (fun _ q => ez_rcv q) rfl hl.1 rfl (Nat.le_of_ble_eq_true rfl) ⟨Nat.zero_le _, Nat.zero_le _⟩ dX5_lawfulPins_26 (fun t_26 H locs hS h => ?_)
    exact K_29  t_26 _ _ _ hS h (lv_sub hl [] rfl)
  · replace h := ez_ifp h c_10
    refine lv_aload_n hx hb dX5_lawfulPins_13 rfl (lv_at hl 1 rfl) ?_
    refine eg_RX5_15 hC hS h dX5_lawfulPins_14 (fun t_14 h => ?_)
    refine lv_iload_n hx hb dX5_lawfulPins_17 rfl (lv_at hl 2 rfl) ?_
    refine ez_cVpi (As := [.int x1]) (rest := []) h (fun _ q => c_X7_pins q) hC k_X7_pins ql_RX5_43 rfl (by decide) hS (fun _ q => ez_rcv q) rfl hl.1 rfl (Nat.le_of_ble_eq_true rfl) ⟨Nat.zero_le _, Nat.zero_le _⟩ dX5_lawfulPins_18 (fun t_18 H locs hS h => ?_)
    refine lv_goto (tgt := 29) hx hb dX5_lawfulPins_21 (by decide) ?_
    exact K_29  t_18 _ _ _ hS h (lv_sub hl [] rfl)
set_option maxHeartbeats 4000000 in
set_option maxRecDepth 100000 in
theorem c_X5_isStray {l : Launch} {X : ez_X} {B : Nat} {σ : ez_H} {h0 : Nat} {x1 : Int32} {x2 : Int32} {z : Int32} (h : z_X5_isStray σ h0 x1 x2 = some z) : ez_M l X B σ yX5_isStray cX5_isStray 3 (some .boolean) 4 [.ref (B + h0), .int x1, .int x2] (some (.int z)) σ := by
  refine ez_startip (z := z) (by decide) (Nat.le_of_ble_eq_true rfl) (fun p e R s m args below meth c Q hC hret hS ls hl => ?_)
  have hC : ez_C p R s m args c X B RX5 cX5_isStray 3 4 := hC
  have hx := hC.1.1
  have hb := hC.1.2.1
  have hown := hC.1.2.2.2.1
  have hts := hC.1.2.2.2.2
  have hl : lv_has ls 3 [(0, .ref (B + h0)), (1, .int x1), (2, .int x2)] := hl
  obtain ⟨n0, e0⟩ : ∃ n0 : Nat, n0 = σ.length := ⟨_, rfl⟩
  rw [← e0] at hret hS
  obtain ⟨-, h⟩ := ez_in h
  have K_39 : ∀ (y0 : Int32) (H : Heap) (locs : List Loc) (ls : Array Slot), ez_S X B s.heap (n0) σ H locs → z_X5_isStray_39 σ y0 = some z → lv_has ls 3 [] → W p l e R s m args below meth c H locs 0 0 Q (F0 m 39 ls [.int y0]) := by
    intro y0 H locs ls hS h hl
    obtain ⟨hn, h⟩ := ez_nr_sp rfl h
    exact hret _ _ _ _ _ (Option.some.inj h) hn hS dX5_isStray_39
  have K_38 : ∀ (H : Heap) (locs : List Loc) (ls : Array Slot), ez_S X B s.heap (n0) σ H locs → z_X5_isStray_38 σ = some z → lv_has ls 3 [] → W p l e R s m args below meth c H locs 0 0 Q (F0 m 38 ls []) := by
    intro  H locs ls hS h hl
    refine lv_iconst (v := 0) hx hb dX5_isStray_38 (by decide) ?_
    exact K_39  (0 : Int32) _ _ _ hS h (lv_sub hl [] rfl)
  refine lv_aload_n hx hb dX5_isStray_0 rfl (lv_at hl 0 rfl) ?_
  refine eg_RX5_9 hC hS h dX5_isStray_1 (fun t_1 h => ?_)
  refine lv_iload_n hx hb dX5_isStray_4 rfl (lv_at hl 2 rfl) ?_
  refine ez_cVpi (As := [.int x2]) (rest := []) h (fun _ q => c_X3_neverOf q) hC k_X3_neverOf ql_RX5_52 rfl (by decide) hS (fun _ q => ez_rcv q) rfl hl.1 rfl (Nat.le_of_ble_eq_true rfl) ⟨Nat.zero_le _, Nat.zero_le _⟩ dX5_isStray_5 (fun t_5 H locs hS h => ?_)
  refine lv_iload_n hx hb dX5_isStray_8 rfl (lv_at hl 1 rfl) ?_
  refine lv_ishr hx hb dX5_isStray_9 ?_
  refine ez_top h (fun t_9 h => ?_)
  refine lv_iconst (v := 1) hx hb dX5_isStray_10 (by decide) ?_
  refine lv_iand hx hb dX5_isStray_11 ?_
  refine ez_top h (fun t_11 h => ?_)
  refine lv_if_eq (tgt := 38) hx hb dX5_isStray_12 (by decide) (fun c_12 => ?_) (fun c_12 => ?_)
  · replace h := ez_ifp h c_12
    exact K_38   _ _ _ hS h (lv_sub hl [] rfl)
  · replace h := ez_ifn h c_12
    refine lv_aload_n hx hb dX5_isStray_15 rfl (lv_at hl 0 rfl) ?_
    refine eg_RX5_15 hC hS h dX5_isStray_16 (fun t_16 h => ?_)
    refine lv_iload_n hx hb dX5_isStray_19 rfl (lv_at hl 1 rfl) ?_
    refine ez_cVpi (As := [.int x1]) (rest := []) h (fun _ q => c_X7_bits q) hC k_X7_bits ql_RX5_37 rfl (by decide) hS (fun _ q => ez_rcv q) rfl hl.1 rfl (Nat.le_of_ble_eq_true rfl) ⟨Nat.zero_le _, Nat.zero_le _⟩ dX5_isStray_20 (fun t_20 H locs hS h => ?_)
    refine lv_aload_n hx hb dX5_isStray_23 rfl (lv_at hl 0 rfl) ?_
    refine lv_iload_n hx hb dX5_isStray_24 rfl (lv_at hl 2 rfl) ?_
    refine ez_cVpi (As := [.int x2]) (rest := [.int t_20]) h (fun _ q => c_X5_lawfulPins q) hC k_X5_lawfulPins ql_RX5_61 rfl (by decide) hS (fun _ q => ez_rcv q) rfl hl.1 rfl (Nat.le_of_ble_eq_true rfl) ⟨Nat.zero_le _, Nat.zero_le _⟩ dX5_isStray_25 (fun t_25 H locs hS h => ?_)
    refine ez_cSpi (As := [.int t_20, .int t_25]) (rest := []) h (fun _ q => c_X6_fitsIn q) hC k_X6_fitsIn ql_RX5_46 rfl (by decide) hS hl.1 rfl (Nat.le_of_ble_eq_true rfl) ⟨Nat.zero_le _, Nat.zero_le _⟩ dX5_isStray_28 (fun t_28 H locs hS h => ?_)
    refine lv_if_eq (tgt := 38) hx hb dX5_isStray_31 (by decide) (fun c_31 => ?_) (fun c_31 => ?_)
    · replace h := ez_ifp h c_31
      exact K_38   _ _ _ hS h (lv_sub hl [] rfl)
    · replace h := ez_ifn h c_31
      refine lv_iconst (v := 1) hx hb dX5_isStray_34 (by decide) ?_
      refine lv_goto (tgt := 39) hx hb dX5_isStray_35 (by decide) ?_
      exact K_39  (1 : Int32) _ _ _ hS h (lv_sub hl [] rfl)
set_option maxHeartbeats 4000000 in
set_option maxRecDepth 100000 in
theorem c_X5_isBroken {l : Launch} {X : ez_X} {B : Nat} {σ : ez_H} {h0 : Nat} {x1 : Int32} {x2 : Int32} {z : Int32} (h : z_X5_isBroken σ h0 x1 x2 = some z) : ez_M l X B σ yX5_isBroken cX5_isBroken 5 (some .boolean) 2 [.ref (B + h0), .int x1, .int x2] (some (.int z)) σ := by
  refine ez_startip (z := z) (by decide) (Nat.le_of_ble_eq_true rfl) (fun p e R s m args below meth c Q hC hret hS ls hl => ?_)
  have hC : ez_C p R s m args c X B RX5 cX5_isBroken 5 2 := hC
  have hx := hC.1.1
  have hb := hC.1.2.1
  have hown := hC.1.2.2.2.1
  have hts := hC.1.2.2.2.2
  have hl : lv_has ls 5 [(0, .ref (B + h0)), (1, .int x1), (2, .int x2)] := hl
  obtain ⟨n0, e0⟩ : ∃ n0 : Nat, n0 = σ.length := ⟨_, rfl⟩
  rw [← e0] at hret hS
  obtain ⟨-, h⟩ := ez_in h
  have K_59 : ∀ (y0 : Int32) (H : Heap) (locs : List Loc) (ls : Array Slot), ez_S X B s.heap (n0) σ H locs → z_X5_isBroken_59 σ y0 = some z → lv_has ls 5 [] → W p l e R s m args below meth c H locs 0 0 Q (F0 m 59 ls [.int y0]) := by
    intro y0 H locs ls hS h hl
    obtain ⟨hn, h⟩ := ez_nr_sp rfl h
    exact hret _ _ _ _ _ (Option.some.inj h) hn hS dX5_isBroken_59
  have K_43 : ∀ (x1 : Int32) (y0 : Int32) (H : Heap) (locs : List Loc) (ls : Array Slot), ez_S X B s.heap (n0) σ H locs → z_X5_isBroken_43 σ x1 y0 = some z → lv_has ls 5 [(1, .int x1)] → W p l e R s m args below meth c H locs 0 0 Q (F0 m 43 ls [.int y0]) := by
    intro x1 y0 H locs ls hS h hl
    refine lv_istore (lv' := [(4, .int y0), (1, .int x1)]) hx hb dX5_isBroken_43 hl (by decide) rfl (fun ls hl => ?_)
    refine lv_iload hx hb dX5_isBroken_45 (lv_at hl 0 rfl) ?_
    refine lv_iload_n hx hb dX5_isBroken_47 rfl (lv_at hl 1 rfl) ?_
    refine lv_ishr hx hb dX5_isBroken_48 ?_
    refine ez_top h (fun t_48 h => ?_)
    refine lv_iconst (v := 1) hx hb dX5_isBroken_49 (by decide) ?_
    refine lv_iand hx hb dX5_isBroken_50 ?_
    refine ez_top h (fun t_50 h => ?_)
    refine lv_if_eq (tgt := 58) hx hb dX5_isBroken_51 (by decide) (fun c_51 => ?_) (fun c_51 => ?_)
    · replace h := ez_ifp h c_51
      refine lv_iconst (v := 0) hx hb dX5_isBroken_58 (by decide) ?_
      exact K_59  (0 : Int32) _ _ _ hS h (lv_sub hl [] rfl)
    · replace h := ez_ifn h c_51
      refine lv_iconst (v := 1) hx hb dX5_isBroken_54 (by decide) ?_
      refine lv_goto (tgt := 59) hx hb dX5_isBroken_55 (by decide) ?_
      exact K_59  (1 : Int32) _ _ _ hS h (lv_sub hl [] rfl)
  refine lv_aload_n hx hb dX5_isBroken_0 rfl (lv_at hl 0 rfl) ?_
  refine eg_RX5_15 hC hS h dX5_isBroken_1 (fun t_1 h => ?_)
  refine lv_iload_n hx hb dX5_isBroken_4 rfl (lv_at hl 1 rfl) ?_
  refine ez_cVpi (As := [.int x1]) (rest := []) h (fun _ q => c_X7_bits q) hC k_X7_bits ql_RX5_37 rfl (by decide) hS (fun _ q => ez_rcv q) rfl hl.1 rfl (Nat.le_of_ble_eq_true rfl) ⟨Nat.zero_le _, Nat.zero_le _⟩ dX5_isBroken_5 (fun t_5 H locs hS h => ?_)
  refine lv_aload_n hx hb dX5_isBroken_8 rfl (lv_at hl 0 rfl) ?_
  refine eg_RX5_15 hC hS h dX5_isBroken_9 (fun t_9 h => ?_)
  refine lv_iload_n hx hb dX5_isBroken_12 rfl (lv_at hl 2 rfl) ?_
  refine ez_cVpi (As := [.int x2]) (rest := [.int t_5]) h (fun _ q => c_X7_pins q) hC k_X7_pins ql_RX5_43 rfl (by decide) hS (fun _ q => ez_rcv q) rfl hl.1 rfl (Nat.le_of_ble_eq_true rfl) ⟨Nat.zero_le _, Nat.zero_le _⟩ dX5_isBroken_13 (fun t_13 H locs hS h => ?_)
  refine ez_cSpi (As := [.int t_5, .int t_13]) (rest := []) h (fun _ q => c_X6_fitsIn q) hC k_X6_fitsIn ql_RX5_46 rfl (by decide) hS hl.1 rfl (Nat.le_of_ble_eq_true rfl) ⟨Nat.zero_le _, Nat.zero_le _⟩ dX5_isBroken_16 (fun t_16 H locs hS h => ?_)
  refine lv_istore_n (lv' := [(3, .int t_16), (0, .ref (B + h0)), (1, .int x1), (2, .int x2)]) hx hb dX5_isBroken_19 rfl hl (by decide) rfl (fun ls hl => ?_)
  refine lv_iload_n hx hb dX5_isBroken_20 rfl (lv_at hl 0 rfl) ?_
  refine lv_if_eq (tgt := 35) hx hb dX5_isBroken_21 (by decide) (fun c_21 => ?_) (fun c_21 => ?_)
  · replace h := ez_ifp h c_21
    refine lv_aload_n hx hb dX5_isBroken_35 rfl (lv_at hl 1 rfl) ?_
    refine eg_RX5_9 hC hS h dX5_isBroken_36 (fun t_36 h => ?_)
    refine lv_iload_n hx hb dX5_isBroken_39 rfl (lv_at hl 3 rfl) ?_
    refine ez_cVpi (As := [.int x2]) (rest := []) h (fun _ q => c_X3_mustOf q) hC k_X3_mustOf ql_RX5_55 rfl (by decide) hS (fun _ q => ez_rcv q) rfl hl.1 rfl (Nat.le_of_ble_eq_true rfl) ⟨Nat.zero_le _, Nat.zero_le _⟩ dX5_isBroken_40 (fun t_40 H locs hS h => ?_)
    exact K_43  x1 t_40 _ _ _ hS h (lv_sub hl [2] rfl)
  · replace h := ez_ifn h c_21
    refine lv_aload_n hx hb dX5_isBroken_24 rfl (lv_at hl 1 rfl) ?_
    refine eg_RX5_9 hC hS h dX5_isBroken_25 (fun t_25 h => ?_)
    refine lv_iload_n hx hb dX5_isBroken_28 rfl (lv_at hl 3 rfl) ?_
    refine ez_cVpi (As := [.int x2]) (rest := []) h (fun _ q => c_X3_neverOf q) hC k_X3_neverOf ql_RX5_52 rfl (by decide) hS (fun _ q => ez_rcv q) rfl hl.1 rfl (Nat.le_of_ble_eq_true rfl) ⟨Nat.zero_le _, Nat.zero_le _⟩ dX5_isBroken_29 (fun t_29 H locs hS h => ?_)
    refine lv_goto (tgt := 43) hx hb dX5_isBroken_32 (by decide) ?_
    exact K_43  x1 t_29 _ _ _ hS h (lv_sub hl [2] rfl)
set_option maxHeartbeats 4000000 in
set_option maxRecDepth 100000 in
theorem c_X5_tellPairs {l : Launch} {X : ez_X} {B : Nat} {σ : ez_H} {h0 : Nat} {x1 : Int32} {x2 : Int32} {z : Int32} (h : z_X5_tellPairs σ h0 x1 x2 = some z) : ez_M l X B σ yX5_tellPairs cX5_tellPairs 8 (some .int) 5 [.ref (B + h0), .int x1, .int x2] (some (.int z)) σ := by
  refine ez_startip (z := z) (by decide) (Nat.le_of_ble_eq_true rfl) (fun p e R s m args below meth c Q hC hret hS ls hl => ?_)
  have hC : ez_C p R s m args c X B RX5 cX5_tellPairs 8 5 := hC
  have hx := hC.1.1
  have hb := hC.1.2.1
  have hown := hC.1.2.2.2.1
  have hts := hC.1.2.2.2.2
  have hl : lv_has ls 8 [(0, .ref (B + h0)), (1, .int x1), (2, .int x2)] := hl
  obtain ⟨n0, e0⟩ : ∃ n0 : Nat, n0 = σ.length := ⟨_, rfl⟩
  rw [← e0] at hret hS
  obtain ⟨-, h⟩ := ez_in h
  have K_96 : ∀ (k_11 : Nat → Int32 → Int32 → Int32 → Int32 → Int32 → Int32 → Option (Int32)) (hk_11 : ∀ (h0 : Nat) (x1 : Int32) (x2 : Int32) (x3 : Int32) (x4 : Int32) (x5 : Int32) (x6 : Int32) (H : Heap) (locs : List Loc) (ls : Array Slot), ez_S X B s.heap (n0) σ H locs → k_11 h0 x1 x2 x3 x4 x5 x6 = some z → lv_has ls 8 [(0, .ref (B + h0)), (1, .int x1), (2, .int x2), (3, .int x3), (4, .int x4), (5, .int x5), (6, .int x6)] → W p l e R s m args below meth c H locs 0 0 Q (F0 m 11 ls [])) (k_26 : Nat → Int32 → Int32 → Int32 → Int32 → Int32 → Int32 → Int32 → Option (Int32)) (hk_26 : ∀ (h0 : Nat) (x1 : Int32) (x2 : Int32) (x3 : Int32) (x4 : Int32) (x5 : Int32) (x6 : Int32) (x7 : Int32) (H : Heap) (locs : List Loc) (ls : Array Slot), ez_S X B s.heap (n0) σ H locs → k_26 h0 x1 x2 x3 x4 x5 x6 x7 = some z → lv_has ls 8 [(0, .ref (B + h0)), (1, .int x1), (2, .int x2), (3, .int x3), (4, .int x4), (5, .int x5), (6, .int x6), (7, .int x7)] → W p l e R s m args below meth c H locs 0 0 Q (F0 m 26 ls [])), ∀ (h0 : Nat) (x1 : Int32) (x2 : Int32) (x3 : Int32) (x4 : Int32) (x5 : Int32) (x6 : Int32) (x7 : Int32) (H : Heap) (locs : List Loc) (ls : Array Slot), ez_S X B s.heap (n0) σ H locs → z_X5_tellPairs_96 σ k_11 k_26 h0 x1 x2 x3 x4 x5 x6 x7 = some z → lv_has ls 8 [(0, .ref (B + h0)), (1, .int x1), (2, .int x2), (3, .int x3), (4, .int x4), (5, .int x5), (6, .int x6), (7, .int x7)] → W p l e R s m args below meth c H locs 0 0 Q (F0 m 96 ls []) := by
    intro k_11 hk_11 k_26 hk_26 h0 x1 x2 x3 x4 x5 x6 x7 H locs ls hS h hl
    obtain ⟨t_96, e_96, h⟩ := ez_let_sp h
    refine lv_iinc (v := t_96) (lv' := [(7, .int t_96), (0, .ref (B + h0)), (1, .int x1), (2, .int x2), (3, .int x3), (4, .int x4), (5, .int x5), (6, .int x6)]) hx hb dX5_tellPairs_96 hl (k := 7) rfl (by rw [e_96]; rfl) (by decide) rfl (fun ls hl => ?_)
    refine lv_goto (tgt := 26) hx hb dX5_tellPairs_99 (by decide) ?_
    exact hk_26 h0 x1 x2 x3 x4 x5 x6 t_96 _ _ _ hS h (lv_sub hl [1, 2, 3, 4, 5, 6, 7, 0] rfl)
  have K_91 : ∀ (k_11 : Nat → Int32 → Int32 → Int32 → Int32 → Int32 → Int32 → Option (Int32)) (hk_11 : ∀ (h0 : Nat) (x1 : Int32) (x2 : Int32) (x3 : Int32) (x4 : Int32) (x5 : Int32) (x6 : Int32) (H : Heap) (locs : List Loc) (ls : Array Slot), ez_S X B s.heap (n0) σ H locs → k_11 h0 x1 x2 x3 x4 x5 x6 = some z → lv_has ls 8 [(0, .ref (B + h0)), (1, .int x1), (2, .int x2), (3, .int x3), (4, .int x4), (5, .int x5), (6, .int x6)] → W p l e R s m args below meth c H locs 0 0 Q (F0 m 11 ls [])) (k_26 : Nat → Int32 → Int32 → Int32 → Int32 → Int32 → Int32 → Int32 → Option (Int32)) (hk_26 : ∀ (h0 : Nat) (x1 : Int32) (x2 : Int32) (x3 : Int32) (x4 : Int32) (x5 : Int32) (x6 : Int32) (x7 : Int32) (H : Heap) (locs : List Loc) (ls : Array Slot), ez_S X B s.heap (n0) σ H locs → k_26 h0 x1 x2 x3 x4 x5 x6 x7 = some z → lv_has ls 8 [(0, .ref (B + h0)), (1, .int x1), (2, .int x2), (3, .int x3), (4, .int x4), (5, .int x5), (6, .int x6), (7, .int x7)] → W p l e R s m args below meth c H locs 0 0 Q (F0 m 26 ls [])), ∀ (h0 : Nat) (x1 : Int32) (x2 : Int32) (x3 : Int32) (x4 : Int32) (x6 : Int32) (x7 : Int32) (y0 : Int32) (H : Heap) (locs : List Loc) (ls : Array Slot), ez_S X B s.heap (n0) σ H locs → z_X5_tellPairs_91 σ k_11 k_26 h0 x1 x2 x3 x4 x6 x7 y0 = some z → lv_has ls 8 [(0, .ref (B + h0)), (1, .int x1), (2, .int x2), (3, .int x3), (4, .int x4), (6, .int x6), (7, .int x7)] → W p l e R s m args below meth c H locs 0 0 Q (F0 m 91 ls [.int y0]) := by
    intro k_11 hk_11 k_26 hk_26 h0 x1 x2 x3 x4 x6 x7 y0 H locs ls hS h hl
    refine lv_istore (lv' := [(5, .int y0), (0, .ref (B + h0)), (1, .int x1), (2, .int x2), (3, .int x3), (4, .int x4), (6, .int x6), (7, .int x7)]) hx hb dX5_tellPairs_91 hl (by decide) rfl (fun ls hl => ?_)
    obtain ⟨t_93, e_93, h⟩ := ez_let_sp h
    refine lv_iinc (v := t_93) (lv' := [(3, .int t_93), (5, .int y0), (0, .ref (B + h0)), (1, .int x1), (2, .int x2), (4, .int x4), (6, .int x6), (7, .int x7)]) hx hb dX5_tellPairs_93 hl (k := 4) rfl (by rw [e_93]; rfl) (by decide) rfl (fun ls hl => ?_)
    exact K_96 k_11 hk_11 k_26 hk_26 h0 x1 x2 t_93 x4 y0 x6 x7 _ _ _ hS h (lv_sub hl [2, 3, 4, 0, 5, 1, 6, 7] rfl)
  have K_78 : ∀ (k_11 : Nat → Int32 → Int32 → Int32 → Int32 → Int32 → Int32 → Option (Int32)) (hk_11 : ∀ (h0 : Nat) (x1 : Int32) (x2 : Int32) (x3 : Int32) (x4 : Int32) (x5 : Int32) (x6 : Int32) (H : Heap) (locs : List Loc) (ls : Array Slot), ez_S X B s.heap (n0) σ H locs → k_11 h0 x1 x2 x3 x4 x5 x6 = some z → lv_has ls 8 [(0, .ref (B + h0)), (1, .int x1), (2, .int x2), (3, .int x3), (4, .int x4), (5, .int x5), (6, .int x6)] → W p l e R s m args below meth c H locs 0 0 Q (F0 m 11 ls [])) (k_26 : Nat → Int32 → Int32 → Int32 → Int32 → Int32 → Int32 → Int32 → Option (Int32)) (hk_26 : ∀ (h0 : Nat) (x1 : Int32) (x2 : Int32) (x3 : Int32) (x4 : Int32) (x5 : Int32) (x6 : Int32) (x7 : Int32) (H : Heap) (locs : List Loc) (ls : Array Slot), ez_S X B s.heap (n0) σ H locs → k_26 h0 x1 x2 x3 x4 x5 x6 x7 = some z → lv_has ls 8 [(0, .ref (B + h0)), (1, .int x1), (2, .int x2), (3, .int x3), (4, .int x4), (5, .int x5), (6, .int x6), (7, .int x7)] → W p l e R s m args below meth c H locs 0 0 Q (F0 m 26 ls [])), ∀ (h0 : Nat) (x1 : Int32) (x2 : Int32) (x3 : Int32) (x5 : Int32) (x6 : Int32) (x7 : Int32) (y0 : Int32) (H : Heap) (locs : List Loc) (ls : Array Slot), ez_S X B s.heap (n0) σ H locs → z_X5_tellPairs_78 σ k_11 k_26 h0 x1 x2 x3 x5 x6 x7 y0 = some z → lv_has ls 8 [(0, .ref (B + h0)), (1, .int x1), (2, .int x2), (3, .int x3), (5, .int x5), (6, .int x6), (7, .int x7)] → W p l e R s m args below meth c H locs 0 0 Q (F0 m 78 ls [.int y0]) := by
    intro k_11 hk_11 k_26 hk_26 h0 x1 x2 x3 x5 x6 x7 y0 H locs ls hS h hl
    refine lv_istore (lv' := [(4, .int y0), (0, .ref (B + h0)), (1, .int x1), (2, .int x2), (3, .int x3), (5, .int x5), (6, .int x6), (7, .int x7)]) hx hb dX5_tellPairs_78 hl (by decide) rfl (fun ls hl => ?_)
    refine lv_iload_n hx hb dX5_tellPairs_80 rfl (lv_at hl 4 rfl) ?_
    refine lv_if_ne (tgt := 89) hx hb dX5_tellPairs_81 (by decide) (fun c_81 => ?_) (fun c_81 => ?_)
    · replace h := ez_ifn h c_81
      refine lv_iload hx hb dX5_tellPairs_89 (lv_at hl 5 rfl) ?_
      exact K_91 k_11 hk_11 k_26 hk_26 h0 x1 x2 x3 y0 x6 x7 x5 _ _ _ hS h (lv_sub hl [1, 2, 3, 4, 0, 6, 7] rfl)
    · replace h := ez_ifp h c_81
      refine lv_iload hx hb dX5_tellPairs_84 (lv_at hl 7 rfl) ?_
      refine lv_goto (tgt := 91) hx hb dX5_tellPairs_86 (by decide) ?_
      exact K_91 k_11 hk_11 k_26 hk_26 h0 x1 x2 x3 y0 x6 x7 x7 _ _ _ hS h (lv_sub hl [1, 2, 3, 4, 0, 6, 7] rfl)
  have K_67 : ∀ (k_11 : Nat → Int32 → Int32 → Int32 → Int32 → Int32 → Int32 → Option (Int32)) (hk_11 : ∀ (h0 : Nat) (x1 : Int32) (x2 : Int32) (x3 : Int32) (x4 : Int32) (x5 : Int32) (x6 : Int32) (H : Heap) (locs : List Loc) (ls : Array Slot), ez_S X B s.heap (n0) σ H locs → k_11 h0 x1 x2 x3 x4 x5 x6 = some z → lv_has ls 8 [(0, .ref (B + h0)), (1, .int x1), (2, .int x2), (3, .int x3), (4, .int x4), (5, .int x5), (6, .int x6)] → W p l e R s m args below meth c H locs 0 0 Q (F0 m 11 ls [])) (k_26 : Nat → Int32 → Int32 → Int32 → Int32 → Int32 → Int32 → Int32 → Option (Int32)) (hk_26 : ∀ (h0 : Nat) (x1 : Int32) (x2 : Int32) (x3 : Int32) (x4 : Int32) (x5 : Int32) (x6 : Int32) (x7 : Int32) (H : Heap) (locs : List Loc) (ls : Array Slot), ez_S X B s.heap (n0) σ H locs → k_26 h0 x1 x2 x3 x4 x5 x6 x7 = some z → lv_has ls 8 [(0, .ref (B + h0)), (1, .int x1), (2, .int x2), (3, .int x3), (4, .int x4), (5, .int x5), (6, .int x6), (7, .int x7)] → W p l e R s m args below meth c H locs 0 0 Q (F0 m 26 ls [])), ∀ (h0 : Nat) (x1 : Int32) (x2 : Int32) (x3 : Int32) (x4 : Int32) (x5 : Int32) (x6 : Int32) (x7 : Int32) (H : Heap) (locs : List Loc) (ls : Array Slot), ez_S X B s.heap (n0) σ H locs → z_X5_tellPairs_67 σ k_11 k_26 h0 x1 x2 x3 x4 x5 x6 x7 = some z → lv_has ls 8 [(0, .ref (B + h0)), (1, .int x1), (2, .int x2), (3, .int x3), (4, .int x4), (5, .int x5), (6, .int x6), (7, .int x7)] → W p l e R s m args below meth c H locs 0 0 Q (F0 m 67 ls []) := by
    intro k_11 hk_11 k_26 hk_26 h0 x1 x2 x3 x4 x5 x6 x7 H locs ls hS h hl
    refine lv_iload_n hx hb dX5_tellPairs_67 rfl (lv_at hl 3 rfl) ?_
    refine lv_if_ne (tgt := 76) hx hb dX5_tellPairs_68 (by decide) (fun c_68 => ?_) (fun c_68 => ?_)
    · replace h := ez_ifn h c_68
      refine lv_iload hx hb dX5_tellPairs_76 (lv_at hl 4 rfl) ?_
      exact K_78 k_11 hk_11 k_26 hk_26 h0 x1 x2 x3 x5 x6 x7 x4 _ _ _ hS h (lv_sub hl [0, 1, 2, 3, 5, 6, 7] rfl)
    · replace h := ez_ifp h c_68
      refine lv_iload hx hb dX5_tellPairs_71 (lv_at hl 6 rfl) ?_
      refine lv_goto (tgt := 78) hx hb dX5_tellPairs_73 (by decide) ?_
      exact K_78 k_11 hk_11 k_26 hk_26 h0 x1 x2 x3 x5 x6 x7 x6 _ _ _ hS h (lv_sub hl [0, 1, 2, 3, 5, 6, 7] rfl)
  have K_26 : ∀ (k_11 : Nat → Int32 → Int32 → Int32 → Int32 → Int32 → Int32 → Option (Int32)) (hk_11 : ∀ (h0 : Nat) (x1 : Int32) (x2 : Int32) (x3 : Int32) (x4 : Int32) (x5 : Int32) (x6 : Int32) (H : Heap) (locs : List Loc) (ls : Array Slot), ez_S X B s.heap (n0) σ H locs → k_11 h0 x1 x2 x3 x4 x5 x6 = some z → lv_has ls 8 [(0, .ref (B + h0)), (1, .int x1), (2, .int x2), (3, .int x3), (4, .int x4), (5, .int x5), (6, .int x6)] → W p l e R s m args below meth c H locs 0 0 Q (F0 m 11 ls [])) (k_26 : Nat → Int32 → Int32 → Int32 → Int32 → Int32 → Int32 → Int32 → Option (Int32)) (hk_26 : ∀ (h0 : Nat) (x1 : Int32) (x2 : Int32) (x3 : Int32) (x4 : Int32) (x5 : Int32) (x6 : Int32) (x7 : Int32) (H : Heap) (locs : List Loc) (ls : Array Slot), ez_S X B s.heap (n0) σ H locs → k_26 h0 x1 x2 x3 x4 x5 x6 x7 = some z → lv_has ls 8 [(0, .ref (B + h0)), (1, .int x1), (2, .int x2), (3, .int x3), (4, .int x4), (5, .int x5), (6, .int x6), (7, .int x7)] → W p l e R s m args below meth c H locs 0 0 Q (F0 m 26 ls [])), ∀ (h0 : Nat) (x1 : Int32) (x2 : Int32) (x3 : Int32) (x4 : Int32) (x5 : Int32) (x6 : Int32) (x7 : Int32) (H : Heap) (locs : List Loc) (ls : Array Slot), ez_S X B s.heap (n0) σ H locs → z_X5_tellPairs_26 σ k_11 k_26 h0 x1 x2 x3 x4 x5 x6 x7 = some z → lv_has ls 8 [(0, .ref (B + h0)), (1, .int x1), (2, .int x2), (3, .int x3), (4, .int x4), (5, .int x5), (6, .int x6), (7, .int x7)] → W p l e R s m args below meth c H locs 0 0 Q (F0 m 26 ls []) := by
    intro k_11 hk_11 k_26 hk_26 h0 x1 x2 x3 x4 x5 x6 x7 H locs ls hS h hl
    refine lv_iload hx hb dX5_tellPairs_26 (lv_at hl 7 rfl) ?_
    refine lv_aload_n hx hb dX5_tellPairs_28 rfl (lv_at hl 0 rfl) ?_
    refine eg_RX5_9 hC hS h dX5_tellPairs_29 (fun t_29 h => ?_)
    refine eg_RX5_64 hC hS h dX5_tellPairs_32 (fun t_32 h => ?_)
    refine lv_icmp_ge (tgt := 102) hx hb dX5_tellPairs_35 (by decide) (fun c_35 => ?_) (fun c_35 => ?_)
    · replace h := ez_ifp h c_35
      obtain ⟨t_102, e_102, h⟩ := ez_let_sp h
      refine lv_iinc (v := t_102) (lv' := [(6, .int t_102), (0, .ref (B + h0)), (1, .int x1), (2, .int x2), (3, .int x3), (4, .int x4), (5, .int x5), (7, .int x7)]) hx hb dX5_tellPairs_102 hl (k := 6) rfl (by rw [e_102]; rfl) (by decide) rfl (fun ls hl => ?_)
      refine lv_goto (tgt := 11) hx hb dX5_tellPairs_105 (by decide) ?_
      exact hk_11 h0 x1 x2 x3 x4 x5 t_102 _ _ _ hS h (lv_sub hl [1, 2, 3, 4, 5, 6, 0] rfl)
    · replace h := ez_ifn h c_35
      refine lv_iload_n hx hb dX5_tellPairs_38 rfl (lv_at hl 2 rfl) ?_
      refine lv_if_eq (tgt := 56) hx hb dX5_tellPairs_39 (by decide) (fun c_39 => ?_) (fun c_39 => ?_)
      · replace h := ez_ifp h c_39
        refine lv_aload_n hx hb dX5_tellPairs_56 rfl (lv_at hl 0 rfl) ?_
        refine lv_iload hx hb dX5_tellPairs_57 (lv_at hl 6 rfl) ?_
        refine lv_iload hx hb dX5_tellPairs_59 (lv_at hl 7 rfl) ?_
        refine ez_cVpi (As := [.int x6, .int x7]) (rest := []) h (fun _ q => c_X5_isBroken q) hC k_X5_isBroken ql_RX5_70 rfl (by decide) hS (fun _ q => ez_rcv q) rfl hl.1 rfl (Nat.le_of_ble_eq_true rfl) ⟨Nat.zero_le _, Nat.zero_le _⟩ dX5_tellPairs_61 (fun t_61 H locs hS h => ?_)
        refine lv_if_eq (tgt := 96) hx hb dX5_tellPairs_64 (by decide) (fun c_64 => ?_) (fun c_64 => ?_)
        · replace h := ez_ifp h c_64
          exact K_96 k_11 hk_11 k_26 hk_26 h0 x1 x2 x3 x4 x5 x6 x7 _ _ _ hS h (lv_sub hl [0, 1, 2, 3, 4, 5, 6, 7] rfl)
        · replace h := ez_ifn h c_64
          exact K_67 k_11 hk_11 k_26 hk_26 h0 x1 x2 x3 x4 x5 x6 x7 _ _ _ hS h (lv_sub hl [0, 1, 2, 3, 4, 5, 6, 7] rfl)
      · replace h := ez_ifn h c_39
        refine lv_aload_n hx hb dX5_tellPairs_42 rfl (lv_at hl 0 rfl) ?_
        refine lv_iload hx hb dX5_tellPairs_43 (lv_at hl 6 rfl) ?_
        refine lv_iload hx hb dX5_tellPairs_45 (lv_at hl 7 rfl) ?_
        refine ez_cVpi (As := [.int x6, .int x7]) (rest := []) h (fun _ q => c_X5_isStray q) hC k_X5_isStray ql_RX5_67 rfl (by decide) hS (fun _ q => ez_rcv q) rfl hl.1 rfl (Nat.le_of_ble_eq_true rfl) ⟨Nat.zero_le _, Nat.zero_le _⟩ dX5_tellPairs_47 (fun t_47 H locs hS h => ?_)
        refine lv_if_eq (tgt := 96) hx hb dX5_tellPairs_50 (by decide) (fun c_50 => ?_) (fun c_50 => ?_)
        · replace h := ez_ifp h c_50
          exact K_96 k_11 hk_11 k_26 hk_26 h0 x1 x2 x3 x4 x5 x6 x7 _ _ _ hS h (lv_sub hl [0, 1, 2, 3, 4, 5, 6, 7] rfl)
        · replace h := ez_ifn h c_50
          refine lv_goto (tgt := 67) hx hb dX5_tellPairs_53 (by decide) ?_
          exact K_67 k_11 hk_11 k_26 hk_26 h0 x1 x2 x3 x4 x5 x6 x7 _ _ _ hS h (lv_sub hl [0, 1, 2, 3, 4, 5, 6, 7] rfl)
  have E_26 : ∀ (k_11 : Nat → Int32 → Int32 → Int32 → Int32 → Int32 → Int32 → Option (Int32)) (hk_11 : ∀ (h0 : Nat) (x1 : Int32) (x2 : Int32) (x3 : Int32) (x4 : Int32) (x5 : Int32) (x6 : Int32) (H : Heap) (locs : List Loc) (ls : Array Slot), ez_S X B s.heap (n0) σ H locs → k_11 h0 x1 x2 x3 x4 x5 x6 = some z → lv_has ls 8 [(0, .ref (B + h0)), (1, .int x1), (2, .int x2), (3, .int x3), (4, .int x4), (5, .int x5), (6, .int x6)] → W p l e R s m args below meth c H locs 0 0 Q (F0 m 11 ls [])), ∀ (h0 : Nat) (x1 : Int32) (x2 : Int32) (x3 : Int32) (x4 : Int32) (x5 : Int32) (x6 : Int32) (x7 : Int32) (H : Heap) (locs : List Loc) (ls : Array Slot), ez_S X B s.heap (n0) σ H locs → (ez_fix (fun _ _ _ _ _ _ _ _ => none) (z_X5_tellPairs_26 σ k_11) ez_N) h0 x1 x2 x3 x4 x5 x6 x7 = some z → lv_has ls 8 [(0, .ref (B + h0)), (1, .int x1), (2, .int x2), (3, .int x3), (4, .int x4), (5, .int x5), (6, .int x6), (7, .int x7)] → W p l e R s m args below meth c H locs 0 0 Q (F0 m 26 ls []) := fun k_11 hk_11 => ez_fix_ind (fun k_26 : Nat → Int32 → Int32 → Int32 → Int32 → Int32 → Int32 → Int32 → Option (Int32) => ∀ (h0 : Nat) (x1 : Int32) (x2 : Int32) (x3 : Int32) (x4 : Int32) (x5 : Int32) (x6 : Int32) (x7 : Int32) (H : Heap) (locs : List Loc) (ls : Array Slot), ez_S X B s.heap (n0) σ H locs → k_26 h0 x1 x2 x3 x4 x5 x6 x7 = some z → lv_has ls 8 [(0, .ref (B + h0)), (1, .int x1), (2, .int x2), (3, .int x3), (4, .int x4), (5, .int x5), (6, .int x6), (7, .int x7)] → W p l e R s m args below meth c H locs 0 0 Q (F0 m 26 ls [])) (fun _ _ _ _ _ _ _ _ _ _ _ _ h _ => by cases h) (fun k_26 hk_26 => K_26 k_11 hk_11 k_26 hk_26) ez_N
  have K_11 : ∀ (k_11 : Nat → Int32 → Int32 → Int32 → Int32 → Int32 → Int32 → Option (Int32)) (hk_11 : ∀ (h0 : Nat) (x1 : Int32) (x2 : Int32) (x3 : Int32) (x4 : Int32) (x5 : Int32) (x6 : Int32) (H : Heap) (locs : List Loc) (ls : Array Slot), ez_S X B s.heap (n0) σ H locs → k_11 h0 x1 x2 x3 x4 x5 x6 = some z → lv_has ls 8 [(0, .ref (B + h0)), (1, .int x1), (2, .int x2), (3, .int x3), (4, .int x4), (5, .int x5), (6, .int x6)] → W p l e R s m args below meth c H locs 0 0 Q (F0 m 11 ls [])), ∀ (h0 : Nat) (x1 : Int32) (x2 : Int32) (x3 : Int32) (x4 : Int32) (x5 : Int32) (x6 : Int32) (H : Heap) (locs : List Loc) (ls : Array Slot), ez_S X B s.heap (n0) σ H locs → z_X5_tellPairs_11 σ k_11 h0 x1 x2 x3 x4 x5 x6 = some z → lv_has ls 8 [(0, .ref (B + h0)), (1, .int x1), (2, .int x2), (3, .int x3), (4, .int x4), (5, .int x5), (6, .int x6)] → W p l e R s m args below meth c H locs 0 0 Q (F0 m 11 ls []) := by
    intro k_11 hk_11 h0 x1 x2 x3 x4 x5 x6 H locs ls hS h hl
    refine lv_iload hx hb dX5_tellPairs_11 (lv_at hl 6 rfl) ?_
    refine lv_aload_n hx hb dX5_tellPairs_13 rfl (lv_at hl 0 rfl) ?_
    refine eg_RX5_9 hC hS h dX5_tellPairs_14 (fun t_14 h => ?_)
    refine eg_RX5_34 hC hS h dX5_tellPairs_17 (fun t_17 h => ?_)
    refine lv_icmp_ge (tgt := 108) hx hb dX5_tellPairs_20 (by decide) (fun c_20 => ?_) (fun c_20 => ?_)
    · replace h := ez_ifp h c_20
      refine lv_iload_n hx hb dX5_tellPairs_108 rfl (lv_at hl 1 rfl) ?_
      by_cases s_109_0 : x1 = 0
      · replace h := ez_ifp h s_109_0
        refine lv_tableIn (tgt := 136) hx hb dX5_tellPairs_109 (by rw [s_109_0]; decide) (by rw [s_109_0]; decide) (by first | (rw [s_109_0]; done) | (rw [s_109_0]; rfl)) (by decide) ?_
        refine lv_iload_n hx hb dX5_tellPairs_136 rfl (lv_at hl 3 rfl) ?_
        exact hret _ _ _ _ _ (Option.some.inj h) rfl hS dX5_tellPairs_137
      replace h := ez_ifn h s_109_0
      by_cases s_109_1 : x1 = 1
      · replace h := ez_ifp h s_109_1
        refine lv_tableIn (tgt := 138) hx hb dX5_tellPairs_109 (by rw [s_109_1]; decide) (by rw [s_109_1]; decide) (by first | (rw [s_109_1]; done) | (rw [s_109_1]; rfl)) (by decide) ?_
        refine lv_iload hx hb dX5_tellPairs_138 (lv_at hl 4 rfl) ?_
        exact hret _ _ _ _ _ (Option.some.inj h) rfl hS dX5_tellPairs_140
      replace h := ez_ifn h s_109_1
      by_cases s_109_2 : x1 = 2
      · replace h := ez_ifp h s_109_2
        refine lv_tableIn (tgt := 141) hx hb dX5_tellPairs_109 (by rw [s_109_2]; decide) (by rw [s_109_2]; decide) (by first | (rw [s_109_2]; done) | (rw [s_109_2]; rfl)) (by decide) ?_
        refine lv_iload hx hb dX5_tellPairs_141 (lv_at hl 5 rfl) ?_
        exact hret _ _ _ _ _ (Option.some.inj h) rfl hS dX5_tellPairs_143
      replace h := ez_ifn h s_109_2
      have w_109 : Int32.toInt x1 < 0 ∨ 2 < Int32.toInt x1 := by
        have q_0 := ez_toNe (k := 0) s_109_0 (by decide)
        have q_1 := ez_toNe (k := 1) s_109_1 (by decide)
        have q_2 := ez_toNe (k := 2) s_109_2 (by decide)
        omega
      refine lv_tableOut (tgt := 144) hx hb dX5_tellPairs_109 w_109 (by decide) ?_
      refine lv_iconst (v := -1) hx hb dX5_tellPairs_144 (by decide) ?_
      exact hret _ _ _ _ _ (Option.some.inj h) rfl hS dX5_tellPairs_145
    · replace h := ez_ifn h c_20
      refine lv_iconst (v := 0) hx hb dX5_tellPairs_23 (by decide) ?_
      refine lv_istore (lv' := [(7, .int 0), (0, .ref (B + h0)), (1, .int x1), (2, .int x2), (3, .int x3), (4, .int x4), (5, .int x5), (6, .int x6)]) hx hb dX5_tellPairs_24 hl (by decide) rfl (fun ls hl => ?_)
      exact E_26 k_11 hk_11 h0 x1 x2 x3 x4 x5 x6 (0 : Int32) _ _ _ hS h (lv_sub hl [1, 2, 3, 4, 5, 6, 7, 0] rfl)
  have E_11 : ∀ (h0 : Nat) (x1 : Int32) (x2 : Int32) (x3 : Int32) (x4 : Int32) (x5 : Int32) (x6 : Int32) (H : Heap) (locs : List Loc) (ls : Array Slot), ez_S X B s.heap (n0) σ H locs → (ez_fix (fun _ _ _ _ _ _ _ => none) (z_X5_tellPairs_11 σ) ez_N) h0 x1 x2 x3 x4 x5 x6 = some z → lv_has ls 8 [(0, .ref (B + h0)), (1, .int x1), (2, .int x2), (3, .int x3), (4, .int x4), (5, .int x5), (6, .int x6)] → W p l e R s m args below meth c H locs 0 0 Q (F0 m 11 ls []) := ez_fix_ind (fun k_11 : Nat → Int32 → Int32 → Int32 → Int32 → Int32 → Int32 → Option (Int32) => ∀ (h0 : Nat) (x1 : Int32) (x2 : Int32) (x3 : Int32) (x4 : Int32) (x5 : Int32) (x6 : Int32) (H : Heap) (locs : List Loc) (ls : Array Slot), ez_S X B s.heap (n0) σ H locs → k_11 h0 x1 x2 x3 x4 x5 x6 = some z → lv_has ls 8 [(0, .ref (B + h0)), (1, .int x1), (2, .int x2), (3, .int x3), (4, .int x4), (5, .int x5), (6, .int x6)] → W p l e R s m args below meth c H locs 0 0 Q (F0 m 11 ls [])) (fun _ _ _ _ _ _ _ _ _ _ _ h _ => by cases h) (fun k_11 hk_11 => K_11 k_11 hk_11) ez_N
  refine lv_iconst (v := 0) hx hb dX5_tellPairs_0 (by decide) ?_
  refine lv_istore_n (lv' := [(3, .int 0), (0, .ref (B + h0)), (1, .int x1), (2, .int x2)]) hx hb dX5_tellPairs_1 rfl hl (by decide) rfl (fun ls hl => ?_)
  refine lv_iconst (v := -1) hx hb dX5_tellPairs_2 (by decide) ?_
  refine lv_istore (lv' := [(4, .int (-1)), (3, .int 0), (0, .ref (B + h0)), (1, .int x1), (2, .int x2)]) hx hb dX5_tellPairs_3 hl (by decide) rfl (fun ls hl => ?_)
  refine lv_iconst (v := -1) hx hb dX5_tellPairs_5 (by decide) ?_
  refine lv_istore (lv' := [(5, .int (-1)), (4, .int (-1)), (3, .int 0), (0, .ref (B + h0)), (1, .int x1), (2, .int x2)]) hx hb dX5_tellPairs_6 hl (by decide) rfl (fun ls hl => ?_)
  refine lv_iconst (v := 0) hx hb dX5_tellPairs_8 (by decide) ?_
  refine lv_istore (lv' := [(6, .int 0), (5, .int (-1)), (4, .int (-1)), (3, .int 0), (0, .ref (B + h0)), (1, .int x1), (2, .int x2)]) hx hb dX5_tellPairs_9 hl (by decide) rfl (fun ls hl => ?_)
  exact E_11  h0 x1 x2 (0 : Int32) (-1 : Int32) (-1 : Int32) (0 : Int32) _ _ _ hS h (lv_sub hl [4, 5, 6, 3, 2, 1, 0] rfl)
set_option maxHeartbeats 4000000 in
set_option maxRecDepth 100000 in
theorem c_X11_broken {l : Launch} {X : ez_X} {B : Nat} {σ : ez_H} {h0 : Nat} {x1 : Int32} {z : Int32} (h : z_X11_broken σ h0 x1 = some z) : ez_M l X B σ yX11_broken cX11_broken 2 (some .int) 6 [.ref (B + h0), .int x1] (some (.int z)) σ := by
  refine ez_startip (z := z) (by decide) (Nat.le_of_ble_eq_true rfl) (fun p e R s m args below meth c Q hC hret hS ls hl => ?_)
  have hC : ez_C p R s m args c X B RX11 cX11_broken 2 6 := hC
  have hx := hC.1.1
  have hb := hC.1.2.1
  have hown := hC.1.2.2.2.1
  have hts := hC.1.2.2.2.2
  have hl : lv_has ls 2 [(0, .ref (B + h0)), (1, .int x1)] := hl
  obtain ⟨n0, e0⟩ : ∃ n0 : Nat, n0 = σ.length := ⟨_, rfl⟩
  rw [← e0] at hret hS
  obtain ⟨-, h⟩ := ez_in h
  refine lv_aload_n hx hb dX11_broken_0 rfl (lv_at hl 0 rfl) ?_
  refine eg_RX11_86 hC hS h dX11_broken_1 (fun t_1 h => ?_)
  refine lv_iload_n hx hb dX11_broken_4 rfl (lv_at hl 1 rfl) ?_
  refine lv_iconst (v := 0) hx hb dX11_broken_5 (by decide) ?_
  refine ez_cVpi (As := [.int x1, .int 0]) (rest := []) h (fun _ q => c_X5_tellPairs q) hC k_X5_tellPairs ql_RX11_346 rfl (by decide) hS (fun _ q => ez_rcv q) rfl hl.1 rfl (Nat.le_of_ble_eq_true rfl) ⟨Nat.zero_le _, Nat.zero_le _⟩ dX11_broken_6 (fun t_6 H locs hS h => ?_)
  exact hret _ _ _ _ _ (Option.some.inj h) rfl hS dX11_broken_9
set_option maxHeartbeats 4000000 in
set_option maxRecDepth 100000 in
theorem c_X3_hasRoom {l : Launch} {X : ez_X} {B : Nat} {σ : ez_H} {h0 : Nat} {x1 : Int32} {z : Int32} (h : z_X3_hasRoom σ h0 x1 = some z) : ez_M l X B σ yX3_hasRoom cX3_hasRoom 2 (some .boolean) 0 [.ref (B + h0), .int x1] (some (.int z)) σ := by
  refine ez_startip (z := z) (by decide) (Nat.le_of_ble_eq_true rfl) (fun p e R s m args below meth c Q hC hret hS ls hl => ?_)
  have hC : ez_C p R s m args c X B RX3 cX3_hasRoom 2 0 := hC
  have hx := hC.1.1
  have hb := hC.1.2.1
  have hown := hC.1.2.2.2.1
  have hts := hC.1.2.2.2.2
  have hl : lv_has ls 2 [(0, .ref (B + h0)), (1, .int x1)] := hl
  obtain ⟨n0, e0⟩ : ∃ n0 : Nat, n0 = σ.length := ⟨_, rfl⟩
  rw [← e0] at hret hS
  obtain ⟨-, h⟩ := ez_in h
  have K_17 : ∀ (y0 : Int32) (H : Heap) (locs : List Loc) (ls : Array Slot), ez_S X B s.heap (n0) σ H locs → z_X3_hasRoom_17 σ y0 = some z → lv_has ls 2 [] → W p l e R s m args below meth c H locs 0 0 Q (F0 m 17 ls [.int y0]) := by
    intro y0 H locs ls hS h hl
    obtain ⟨hn, h⟩ := ez_nr_sp rfl h
    exact hret _ _ _ _ _ (Option.some.inj h) hn hS dX3_hasRoom_17
  have K_16 : ∀ (H : Heap) (locs : List Loc) (ls : Array Slot), ez_S X B s.heap (n0) σ H locs → z_X3_hasRoom_16 σ = some z → lv_has ls 2 [] → W p l e R s m args below meth c H locs 0 0 Q (F0 m 16 ls []) := by
    intro  H locs ls hS h hl
    refine lv_iconst (v := 0) hx hb dX3_hasRoom_16 (by decide) ?_
    exact K_17  (0 : Int32) _ _ _ hS h (lv_sub hl [] rfl)
  refine lv_iload_n hx hb dX3_hasRoom_0 rfl (lv_at hl 1 rfl) ?_
  refine lv_if_lt (tgt := 16) hx hb dX3_hasRoom_1 (by decide) (fun c_1 => ?_) (fun c_1 => ?_)
  · replace h := ez_ifp h c_1
    exact K_16   _ _ _ hS h (lv_sub hl [] rfl)
  · replace h := ez_ifn h c_1
    refine lv_iload_n hx hb dX3_hasRoom_4 rfl (lv_at hl 1 rfl) ?_
    refine lv_aload_n hx hb dX3_hasRoom_5 rfl (lv_at hl 0 rfl) ?_
    refine eg_RX3_62 hC hS h dX3_hasRoom_6 (fun t_6 h => ?_)
    refine lv_icmp_ge (tgt := 16) hx hb dX3_hasRoom_9 (by decide) (fun c_9 => ?_) (fun c_9 => ?_)
    · replace h := ez_ifp h c_9
      exact K_16   _ _ _ hS h (lv_sub hl [] rfl)
    · replace h := ez_ifn h c_9
      refine lv_iconst (v := 1) hx hb dX3_hasRoom_12 (by decide) ?_
      refine lv_goto (tgt := 17) hx hb dX3_hasRoom_13 (by decide) ?_
      exact K_17  (1 : Int32) _ _ _ hS h (lv_sub hl [] rfl)
set_option maxHeartbeats 4000000 in
set_option maxRecDepth 100000 in
theorem c_X3_allKeys {l : Launch} {X : ez_X} {B : Nat} {σ : ez_H} {h0 : Nat} {z : Int32} (h : z_X3_allKeys σ h0 = some z) : ez_M l X B σ yX3_allKeys cX3_allKeys 1 (some .int) 0 [.ref (B + h0)] (some (.int z)) σ := by
  refine ez_startip (z := z) (by decide) (Nat.le_of_ble_eq_true rfl) (fun p e R s m args below meth c Q hC hret hS ls hl => ?_)
  have hC : ez_C p R s m args c X B RX3 cX3_allKeys 1 0 := hC
  have hx := hC.1.1
  have hb := hC.1.2.1
  have hown := hC.1.2.2.2.1
  have hts := hC.1.2.2.2.2
  have hl : lv_has ls 1 [(0, .ref (B + h0))] := hl
  obtain ⟨n0, e0⟩ : ∃ n0 : Nat, n0 = σ.length := ⟨_, rfl⟩
  rw [← e0] at hret hS
  obtain ⟨-, h⟩ := ez_in h
  refine lv_iconst (v := 1) hx hb dX3_allKeys_0 (by decide) ?_
  refine lv_aload_n hx hb dX3_allKeys_1 rfl (lv_at hl 0 rfl) ?_
  refine eg_RX3_55 hC hS h dX3_allKeys_2 (fun t_2 h => ?_)
  refine lv_ishl hx hb dX3_allKeys_5 ?_
  refine ez_top h (fun t_5 h => ?_)
  refine lv_iconst (v := 1) hx hb dX3_allKeys_6 (by decide) ?_
  refine lv_isub hx hb dX3_allKeys_7 ?_
  refine ez_top h (fun t_7 h => ?_)
  exact hret _ _ _ _ _ (Option.some.inj h) rfl hS dX3_allKeys_8
set_option maxHeartbeats 4000000 in
set_option maxRecDepth 100000 in
theorem c_X2_fewestKeys {l : Launch} {X : ez_X} {B : Nat} {σ : ez_H} {h0 : Nat} {x1 : Int32} {x2 : Int32} {z : Int32} (h : z_X2_fewestKeys σ h0 x1 x2 = some z) : ez_M l X B σ yX2_fewestKeys cX2_fewestKeys 7 (some .int) 3 [.ref (B + h0), .int x1, .int x2] (some (.int z)) σ := by
  refine ez_startip (z := z) (by decide) (Nat.le_of_ble_eq_true rfl) (fun p e R s m args below meth c Q hC hret hS ls hl => ?_)
  have hC : ez_C p R s m args c X B RX2 cX2_fewestKeys 7 3 := hC
  have hx := hC.1.1
  have hb := hC.1.2.1
  have hown := hC.1.2.2.2.1
  have hts := hC.1.2.2.2.2
  have hl : lv_has ls 7 [(0, .ref (B + h0)), (1, .int x1), (2, .int x2)] := hl
  obtain ⟨n0, e0⟩ : ∃ n0 : Nat, n0 = σ.length := ⟨_, rfl⟩
  rw [← e0] at hret hS
  obtain ⟨-, h⟩ := ez_in h
  have K_101 : ∀ (k_33 : Nat → Int32 → Int32 → Int32 → Int32 → Int32 → Option (Int32)) (hk_33 : ∀ (h0 : Nat) (x1 : Int32) (x2 : Int32) (x3 : Int32) (x4 : Int32) (x5 : Int32) (H : Heap) (locs : List Loc) (ls : Array Slot), ez_S X B s.heap (n0) σ H locs → k_33 h0 x1 x2 x3 x4 x5 = some z → lv_has ls 7 [(0, .ref (B + h0)), (1, .int x1), (2, .int x2), (3, .int x3), (4, .int x4), (5, .int x5)] → W p l e R s m args below meth c H locs 0 0 Q (F0 m 33 ls [])), ∀ (h0 : Nat) (x1 : Int32) (x2 : Int32) (x3 : Int32) (x4 : Int32) (x5 : Int32) (H : Heap) (locs : List Loc) (ls : Array Slot), ez_S X B s.heap (n0) σ H locs → z_X2_fewestKeys_101 σ k_33 h0 x1 x2 x3 x4 x5 = some z → lv_has ls 7 [(0, .ref (B + h0)), (1, .int x1), (2, .int x2), (3, .int x3), (4, .int x4), (5, .int x5)] → W p l e R s m args below meth c H locs 0 0 Q (F0 m 101 ls []) := by
    intro k_33 hk_33 h0 x1 x2 x3 x4 x5 H locs ls hS h hl
    obtain ⟨t_101, e_101, h⟩ := ez_let_sp h
    refine lv_iinc (v := t_101) (lv' := [(5, .int t_101), (0, .ref (B + h0)), (1, .int x1), (2, .int x2), (3, .int x3), (4, .int x4)]) hx hb dX2_fewestKeys_101 hl (k := 5) rfl (by rw [e_101]; rfl) (by decide) rfl (fun ls hl => ?_)
    refine lv_goto (tgt := 33) hx hb dX2_fewestKeys_104 (by decide) ?_
    exact hk_33 h0 x1 x2 x3 x4 t_101 _ _ _ hS h (lv_sub hl [1, 2, 3, 4, 5, 0] rfl)
  have K_63 : ∀ (k_33 : Nat → Int32 → Int32 → Int32 → Int32 → Int32 → Option (Int32)) (hk_33 : ∀ (h0 : Nat) (x1 : Int32) (x2 : Int32) (x3 : Int32) (x4 : Int32) (x5 : Int32) (H : Heap) (locs : List Loc) (ls : Array Slot), ez_S X B s.heap (n0) σ H locs → k_33 h0 x1 x2 x3 x4 x5 = some z → lv_has ls 7 [(0, .ref (B + h0)), (1, .int x1), (2, .int x2), (3, .int x3), (4, .int x4), (5, .int x5)] → W p l e R s m args below meth c H locs 0 0 Q (F0 m 33 ls [])), ∀ (h0 : Nat) (x1 : Int32) (x2 : Int32) (x3 : Int32) (x4 : Int32) (x5 : Int32) (y0 : Int32) (H : Heap) (locs : List Loc) (ls : Array Slot), ez_S X B s.heap (n0) σ H locs → z_X2_fewestKeys_63 σ k_33 h0 x1 x2 x3 x4 x5 y0 = some z → lv_has ls 7 [(0, .ref (B + h0)), (1, .int x1), (2, .int x2), (3, .int x3), (4, .int x4), (5, .int x5)] → W p l e R s m args below meth c H locs 0 0 Q (F0 m 63 ls [.int y0]) := by
    intro k_33 hk_33 h0 x1 x2 x3 x4 x5 y0 H locs ls hS h hl
    refine lv_istore (lv' := [(6, .int y0), (0, .ref (B + h0)), (1, .int x1), (2, .int x2), (3, .int x3), (4, .int x4), (5, .int x5)]) hx hb dX2_fewestKeys_63 hl (by decide) rfl (fun ls hl => ?_)
    refine lv_iload hx hb dX2_fewestKeys_65 (lv_at hl 0 rfl) ?_
    refine lv_if_eq (tgt := 101) hx hb dX2_fewestKeys_67 (by decide) (fun c_67 => ?_) (fun c_67 => ?_)
    · replace h := ez_ifp h c_67
      exact K_101 k_33 hk_33 h0 x1 x2 x3 x4 x5 _ _ _ hS h (lv_sub hl [1, 2, 3, 4, 5, 6] rfl)
    · replace h := ez_ifn h c_67
      refine lv_iload hx hb dX2_fewestKeys_70 (lv_at hl 6 rfl) ?_
      refine lv_iload_n hx hb dX2_fewestKeys_72 rfl (lv_at hl 4 rfl) ?_
      refine lv_iconst (v := -1) hx hb dX2_fewestKeys_73 (by decide) ?_
      refine lv_ixor hx hb dX2_fewestKeys_74 ?_
      refine ez_top h (fun t_74 h => ?_)
      refine lv_iand hx hb dX2_fewestKeys_75 ?_
      refine ez_top h (fun t_75 h => ?_)
      refine lv_if_ne (tgt := 101) hx hb dX2_fewestKeys_76 (by decide) (fun c_76 => ?_) (fun c_76 => ?_)
      · replace h := ez_ifn h c_76
        exact K_101 k_33 hk_33 h0 x1 x2 x3 x4 x5 _ _ _ hS h (lv_sub hl [1, 2, 3, 4, 5, 6] rfl)
      · replace h := ez_ifp h c_76
        refine lv_aload_n hx hb dX2_fewestKeys_79 rfl (lv_at hl 1 rfl) ?_
        refine lv_iload_n hx hb dX2_fewestKeys_80 rfl (lv_at hl 2 rfl) ?_
        refine lv_aload_n hx hb dX2_fewestKeys_81 rfl (lv_at hl 1 rfl) ?_
        refine lv_iload hx hb dX2_fewestKeys_82 (lv_at hl 6 rfl) ?_
        refine ez_cVpi (As := [.int x5]) (rest := [.int x1, .ref (B + h0)]) h (fun _ q => c_X2_locksFor q) hC k_X2_locksFor ql_RX2_71 rfl (by decide) hS (fun _ q => ez_rcv q) rfl hl.1 rfl (Nat.le_of_ble_eq_true rfl) ⟨Nat.zero_le _, Nat.zero_le _⟩ dX2_fewestKeys_84 (fun t_84 H locs hS h => ?_)
        refine ez_cVpi (As := [.int x1, .int t_84]) (rest := []) h (fun _ q => c_X2_flood q) hC k_X2_flood ql_RX2_74 rfl (by decide) hS (fun _ q => ez_rcv q) rfl hl.1 rfl (Nat.le_of_ble_eq_true rfl) ⟨Nat.zero_le _, Nat.zero_le _⟩ dX2_fewestKeys_87 (fun t_87 H locs hS h => ?_)
        refine lv_iload_n hx hb dX2_fewestKeys_90 rfl (lv_at hl 3 rfl) ?_
        refine lv_ishr hx hb dX2_fewestKeys_91 ?_
        refine ez_top h (fun t_91 h => ?_)
        refine lv_iconst (v := 1) hx hb dX2_fewestKeys_92 (by decide) ?_
        refine lv_iand hx hb dX2_fewestKeys_93 ?_
        refine ez_top h (fun t_93 h => ?_)
        refine lv_if_eq (tgt := 101) hx hb dX2_fewestKeys_94 (by decide) (fun c_94 => ?_) (fun c_94 => ?_)
        · replace h := ez_ifp h c_94
          exact K_101 k_33 hk_33 h0 x1 x2 x3 x4 x5 _ _ _ hS h (lv_sub hl [1, 2, 3, 4, 5, 6] rfl)
        · replace h := ez_ifn h c_94
          refine lv_iload hx hb dX2_fewestKeys_97 (lv_at hl 6 rfl) ?_
          refine lv_istore (lv' := [(4, .int x5), (6, .int y0), (0, .ref (B + h0)), (1, .int x1), (2, .int x2), (3, .int x3), (5, .int x5)]) hx hb dX2_fewestKeys_99 hl (by decide) rfl (fun ls hl => ?_)
          exact K_101 k_33 hk_33 h0 x1 x2 x3 x5 x5 _ _ _ hS h (lv_sub hl [2, 3, 4, 5, 0, 6] rfl)
  have K_58 : ∀ (k_33 : Nat → Int32 → Int32 → Int32 → Int32 → Int32 → Option (Int32)) (hk_33 : ∀ (h0 : Nat) (x1 : Int32) (x2 : Int32) (x3 : Int32) (x4 : Int32) (x5 : Int32) (H : Heap) (locs : List Loc) (ls : Array Slot), ez_S X B s.heap (n0) σ H locs → k_33 h0 x1 x2 x3 x4 x5 = some z → lv_has ls 7 [(0, .ref (B + h0)), (1, .int x1), (2, .int x2), (3, .int x3), (4, .int x4), (5, .int x5)] → W p l e R s m args below meth c H locs 0 0 Q (F0 m 33 ls [])), ∀ (h0 : Nat) (x1 : Int32) (x2 : Int32) (x3 : Int32) (x4 : Int32) (x5 : Int32) (H : Heap) (locs : List Loc) (ls : Array Slot), ez_S X B s.heap (n0) σ H locs → z_X2_fewestKeys_58 σ k_33 h0 x1 x2 x3 x4 x5 = some z → lv_has ls 7 [(0, .ref (B + h0)), (1, .int x1), (2, .int x2), (3, .int x3), (4, .int x4), (5, .int x5)] → W p l e R s m args below meth c H locs 0 0 Q (F0 m 58 ls []) := by
    intro k_33 hk_33 h0 x1 x2 x3 x4 x5 H locs ls hS h hl
    refine lv_iconst (v := 1) hx hb dX2_fewestKeys_58 (by decide) ?_
    refine lv_goto (tgt := 63) hx hb dX2_fewestKeys_59 (by decide) ?_
    exact K_63 k_33 hk_33 h0 x1 x2 x3 x4 x5 (1 : Int32) _ _ _ hS h (lv_sub hl [0, 1, 2, 3, 4, 5] rfl)
  have K_33 : ∀ (k_33 : Nat → Int32 → Int32 → Int32 → Int32 → Int32 → Option (Int32)) (hk_33 : ∀ (h0 : Nat) (x1 : Int32) (x2 : Int32) (x3 : Int32) (x4 : Int32) (x5 : Int32) (H : Heap) (locs : List Loc) (ls : Array Slot), ez_S X B s.heap (n0) σ H locs → k_33 h0 x1 x2 x3 x4 x5 = some z → lv_has ls 7 [(0, .ref (B + h0)), (1, .int x1), (2, .int x2), (3, .int x3), (4, .int x4), (5, .int x5)] → W p l e R s m args below meth c H locs 0 0 Q (F0 m 33 ls [])), ∀ (h0 : Nat) (x1 : Int32) (x2 : Int32) (x3 : Int32) (x4 : Int32) (x5 : Int32) (H : Heap) (locs : List Loc) (ls : Array Slot), ez_S X B s.heap (n0) σ H locs → z_X2_fewestKeys_33 σ k_33 h0 x1 x2 x3 x4 x5 = some z → lv_has ls 7 [(0, .ref (B + h0)), (1, .int x1), (2, .int x2), (3, .int x3), (4, .int x4), (5, .int x5)] → W p l e R s m args below meth c H locs 0 0 Q (F0 m 33 ls []) := by
    intro k_33 hk_33 h0 x1 x2 x3 x4 x5 H locs ls hS h hl
    refine lv_iload hx hb dX2_fewestKeys_33 (lv_at hl 5 rfl) ?_
    refine lv_iload_n hx hb dX2_fewestKeys_35 rfl (lv_at hl 3 rfl) ?_
    refine lv_icmp_gt (tgt := 107) hx hb dX2_fewestKeys_36 (by decide) (fun c_36 => ?_) (fun c_36 => ?_)
    · replace h := ez_ifp h c_36
      refine lv_iload hx hb dX2_fewestKeys_107 (lv_at hl 4 rfl) ?_
      exact hret _ _ _ _ _ (Option.some.inj h) rfl hS dX2_fewestKeys_109
    · replace h := ez_ifn h c_36
      refine lv_iload hx hb dX2_fewestKeys_39 (lv_at hl 4 rfl) ?_
      refine lv_iconst (v := -1) hx hb dX2_fewestKeys_41 (by decide) ?_
      refine lv_icmp_eq (tgt := 58) hx hb dX2_fewestKeys_42 (by decide) (fun c_42 => ?_) (fun c_42 => ?_)
      · replace h := ez_ifp h c_42
        exact K_58 k_33 hk_33 h0 x1 x2 x3 x4 x5 _ _ _ hS h (lv_sub hl [0, 1, 2, 3, 4, 5] rfl)
      · replace h := ez_ifn h c_42
        refine lv_iload hx hb dX2_fewestKeys_45 (lv_at hl 5 rfl) ?_
        refine ez_cSpi (As := [.int x5]) (rest := []) h (fun _ q => c_J6_bitCount_0f7a4 q) hC k_J6_bitCount_0f7a4 ql_RX2_115 rfl (by decide) hS hl.1 rfl (Nat.le_of_ble_eq_true rfl) ⟨Nat.zero_le _, Nat.zero_le _⟩ dX2_fewestKeys_47 (fun t_47 H locs hS h => ?_)
        refine lv_iload hx hb dX2_fewestKeys_50 (lv_at hl 4 rfl) ?_
        refine ez_cSpi (As := [.int x4]) (rest := [.int t_47]) h (fun _ q => c_J6_bitCount_0f7a4 q) hC k_J6_bitCount_0f7a4 ql_RX2_115 rfl (by decide) hS hl.1 rfl (Nat.le_of_ble_eq_true rfl) ⟨Nat.zero_le _, Nat.zero_le _⟩ dX2_fewestKeys_52 (fun t_52 H locs hS h => ?_)
        refine lv_icmp_ge (tgt := 62) hx hb dX2_fewestKeys_55 (by decide) (fun c_55 => ?_) (fun c_55 => ?_)
        · replace h := ez_ifp h c_55
          refine lv_iconst (v := 0) hx hb dX2_fewestKeys_62 (by decide) ?_
          exact K_63 k_33 hk_33 h0 x1 x2 x3 x4 x5 (0 : Int32) _ _ _ hS h (lv_sub hl [0, 1, 2, 3, 4, 5] rfl)
        · replace h := ez_ifn h c_55
          exact K_58 k_33 hk_33 h0 x1 x2 x3 x4 x5 _ _ _ hS h (lv_sub hl [0, 1, 2, 3, 4, 5] rfl)
  have E_33 : ∀ (h0 : Nat) (x1 : Int32) (x2 : Int32) (x3 : Int32) (x4 : Int32) (x5 : Int32) (H : Heap) (locs : List Loc) (ls : Array Slot), ez_S X B s.heap (n0) σ H locs → (ez_fix (fun _ _ _ _ _ _ => none) (z_X2_fewestKeys_33 σ) ez_N) h0 x1 x2 x3 x4 x5 = some z → lv_has ls 7 [(0, .ref (B + h0)), (1, .int x1), (2, .int x2), (3, .int x3), (4, .int x4), (5, .int x5)] → W p l e R s m args below meth c H locs 0 0 Q (F0 m 33 ls []) := ez_fix_ind (fun k_33 : Nat → Int32 → Int32 → Int32 → Int32 → Int32 → Option (Int32) => ∀ (h0 : Nat) (x1 : Int32) (x2 : Int32) (x3 : Int32) (x4 : Int32) (x5 : Int32) (H : Heap) (locs : List Loc) (ls : Array Slot), ez_S X B s.heap (n0) σ H locs → k_33 h0 x1 x2 x3 x4 x5 = some z → lv_has ls 7 [(0, .ref (B + h0)), (1, .int x1), (2, .int x2), (3, .int x3), (4, .int x4), (5, .int x5)] → W p l e R s m args below meth c H locs 0 0 Q (F0 m 33 ls [])) (fun _ _ _ _ _ _ _ _ _ _ h _ => by cases h) (fun k_33 hk_33 => K_33 k_33 hk_33) ez_N
  refine lv_aload_n hx hb dX2_fewestKeys_0 rfl (lv_at hl 0 rfl) ?_
  refine eg_RX2_9 hC hS h dX2_fewestKeys_1 (fun t_1 h => ?_)
  refine ez_cVpi (As := []) (rest := []) h (fun _ q => c_X3_allKeys q) hC k_X3_allKeys ql_RX2_111 rfl (by decide) hS (fun _ q => ez_rcv q) rfl hl.1 rfl (Nat.le_of_ble_eq_true rfl) ⟨Nat.zero_le _, Nat.zero_le _⟩ dX2_fewestKeys_4 (fun t_4 H locs hS h => ?_)
  refine lv_aload_n hx hb dX2_fewestKeys_7 rfl (lv_at hl 0 rfl) ?_
  refine eg_RX2_15 hC hS h dX2_fewestKeys_8 (fun t_8 h => ?_)
  refine lv_bipush (v := -2) hx hb dX2_fewestKeys_11 (by decide) ?_
  refine lv_aload_n hx hb dX2_fewestKeys_13 rfl (lv_at hl 0 rfl) ?_
  refine eg_RX2_9 hC hS h dX2_fewestKeys_14 (fun t_14 h => ?_)
  refine eg_RX2_33 hC hS h dX2_fewestKeys_17 (fun t_17 h => ?_)
  refine ez_cVpi (As := [.int (-2), .int t_17]) (rest := [.int t_4]) h (fun _ q => c_X7_heldBy q) hC k_X7_heldBy ql_RX2_78 rfl (by decide) hS (fun _ q => ez_rcv q) rfl hl.1 rfl (Nat.le_of_ble_eq_true rfl) ⟨Nat.zero_le _, Nat.zero_le _⟩ dX2_fewestKeys_20 (fun t_20 H locs hS h => ?_)
  refine lv_iconst (v := -1) hx hb dX2_fewestKeys_23 (by decide) ?_
  refine lv_ixor hx hb dX2_fewestKeys_24 ?_
  refine ez_top h (fun t_24 h => ?_)
  refine lv_iand hx hb dX2_fewestKeys_25 ?_
  refine ez_top h (fun t_25 h => ?_)
  refine lv_istore_n (lv' := [(3, .int t_25), (0, .ref (B + h0)), (1, .int x1), (2, .int x2)]) hx hb dX2_fewestKeys_26 rfl hl (by decide) rfl (fun ls hl => ?_)
  refine lv_iconst (v := -1) hx hb dX2_fewestKeys_27 (by decide) ?_
  refine lv_istore (lv' := [(4, .int (-1)), (3, .int t_25), (0, .ref (B + h0)), (1, .int x1), (2, .int x2)]) hx hb dX2_fewestKeys_28 hl (by decide) rfl (fun ls hl => ?_)
  refine lv_iconst (v := 0) hx hb dX2_fewestKeys_30 (by decide) ?_
  refine lv_istore (lv' := [(5, .int 0), (4, .int (-1)), (3, .int t_25), (0, .ref (B + h0)), (1, .int x1), (2, .int x2)]) hx hb dX2_fewestKeys_31 hl (by decide) rfl (fun ls hl => ?_)
  exact E_33  h0 x1 x2 t_25 (-1 : Int32) (0 : Int32) _ _ _ hS h (lv_sub hl [3, 4, 5, 2, 1, 0] rfl)
set_option maxHeartbeats 4000000 in
set_option maxRecDepth 100000 in
theorem c_X11_bunch {l : Launch} {X : ez_X} {B : Nat} {σ : ez_H} {h0 : Nat} {x1 : Int32} {x2 : Int32} {x3 : Int32} {z : Int32} (h : z_X11_bunch σ h0 x1 x2 x3 = some z) : ez_M l X B σ yX11_bunch cX11_bunch 5 (some .int) 4 [.ref (B + h0), .int x1, .int x2, .int x3] (some (.int z)) σ := by
  refine ez_startip (z := z) (by decide) (Nat.le_of_ble_eq_true rfl) (fun p e R s m args below meth c Q hC hret hS ls hl => ?_)
  have hC : ez_C p R s m args c X B RX11 cX11_bunch 5 4 := hC
  have hx := hC.1.1
  have hb := hC.1.2.1
  have hown := hC.1.2.2.2.1
  have hts := hC.1.2.2.2.2
  have hl : lv_has ls 5 [(0, .ref (B + h0)), (1, .int x1), (2, .int x2), (3, .int x3)] := hl
  obtain ⟨n0, e0⟩ : ∃ n0 : Nat, n0 = σ.length := ⟨_, rfl⟩
  rw [← e0] at hret hS
  obtain ⟨-, h⟩ := ez_in h
  have K_22 : ∀ (H : Heap) (locs : List Loc) (ls : Array Slot), ez_S X B s.heap (n0) σ H locs → z_X11_bunch_22 σ = some z → lv_has ls 5 [] → W p l e R s m args below meth c H locs 0 0 Q (F0 m 22 ls []) := by
    intro  H locs ls hS h hl
    refine lv_iconst (v := -1) hx hb dX11_bunch_22 (by decide) ?_
    exact hret _ _ _ _ _ (Option.some.inj h) rfl hS dX11_bunch_23
  refine lv_aload_n hx hb dX11_bunch_0 rfl (lv_at hl 0 rfl) ?_
  refine eg_RX11_29 hC hS h dX11_bunch_1 (fun t_1 h => ?_)
  refine lv_iload_n hx hb dX11_bunch_4 rfl (lv_at hl 1 rfl) ?_
  refine ez_cVpi (As := [.int x1]) (rest := []) h (fun _ q => c_X3_hasRoom q) hC k_X3_hasRoom ql_RX11_356 rfl (by decide) hS (fun _ q => ez_rcv q) rfl hl.1 rfl (Nat.le_of_ble_eq_true rfl) ⟨Nat.zero_le _, Nat.zero_le _⟩ dX11_bunch_5 (fun t_5 H locs hS h => ?_)
  refine lv_if_eq (tgt := 22) hx hb dX11_bunch_8 (by decide) (fun c_8 => ?_) (fun c_8 => ?_)
  · replace h := ez_ifp h c_8
    exact K_22   _ _ _ hS h (lv_sub hl [] rfl)
  · replace h := ez_ifn h c_8
    refine lv_aload_n hx hb dX11_bunch_11 rfl (lv_at hl 0 rfl) ?_
    refine eg_RX11_29 hC hS h dX11_bunch_12 (fun t_12 h => ?_)
    refine lv_iload_n hx hb dX11_bunch_15 rfl (lv_at hl 2 rfl) ?_
    refine ez_cVpi (As := [.int x2]) (rest := []) h (fun _ q => c_X3_hasRoom q) hC k_X3_hasRoom ql_RX11_356 rfl (by decide) hS (fun _ q => ez_rcv q) rfl hl.1 rfl (Nat.le_of_ble_eq_true rfl) ⟨Nat.zero_le _, Nat.zero_le _⟩ dX11_bunch_16 (fun t_16 H locs hS h => ?_)
    refine lv_if_ne (tgt := 24) hx hb dX11_bunch_19 (by decide) (fun c_19 => ?_) (fun c_19 => ?_)
    · replace h := ez_ifn h c_19
      refine lv_aload_n hx hb dX11_bunch_24 rfl (lv_at hl 0 rfl) ?_
      refine eg_RX11_79 hC hS h dX11_bunch_25 (fun t_25 h => ?_)
      refine lv_iload_n hx hb dX11_bunch_28 rfl (lv_at hl 1 rfl) ?_
      refine lv_iload_n hx hb dX11_bunch_29 rfl (lv_at hl 2 rfl) ?_
      refine ez_cVpi (As := [.int x1, .int x2]) (rest := []) h (fun _ q => c_X2_fewestKeys q) hC k_X2_fewestKeys ql_RX11_362 rfl (by decide) hS (fun _ q => ez_rcv q) rfl hl.1 rfl (Nat.le_of_ble_eq_true rfl) ⟨Nat.zero_le _, Nat.zero_le _⟩ dX11_bunch_30 (fun t_30 H locs hS h => ?_)
      refine lv_istore (lv' := [(4, .int t_30), (0, .ref (B + h0)), (1, .int x1), (2, .int x2), (3, .int x3)]) hx hb dX11_bunch_33 hl (by decide) rfl (fun ls hl => ?_)
      refine lv_iload hx hb dX11_bunch_35 (lv_at hl 0 rfl) ?_
      refine lv_iconst (v := -1) hx hb dX11_bunch_37 (by decide) ?_
      refine lv_icmp_ne (tgt := 43) hx hb dX11_bunch_38 (by decide) (fun c_38 => ?_) (fun c_38 => ?_)
      · replace h := ez_ifn h c_38
        refine lv_iload_n hx hb dX11_bunch_43 rfl (lv_at hl 4 rfl) ?_
        by_cases s_44_0 : x3 = 0
        · replace h := ez_ifp h s_44_0
          refine lv_lookup (tgt := 72) hx hb dX11_bunch_44 (by decide) (by first | (rw [s_44_0]; done) | (rw [s_44_0]; rfl)) (by decide) ?_
          refine lv_iload hx hb dX11_bunch_72 (lv_at hl 0 rfl) ?_
          refine ez_cSpi (As := [.int t_30]) (rest := []) h (fun _ q => c_J6_bitCount_0f7a4 q) hC k_J6_bitCount_0f7a4 ql_RX11_171 rfl (by decide) hS hl.1 rfl (Nat.le_of_ble_eq_true rfl) ⟨Nat.zero_le _, Nat.zero_le _⟩ dX11_bunch_74 (fun t_74 H locs hS h => ?_)
          exact hret _ _ _ _ _ (Option.some.inj h) rfl hS dX11_bunch_77
        replace h := ez_ifn h s_44_0
        by_cases s_44_1 : x3 = 1
        · replace h := ez_ifp h s_44_1
          refine lv_lookup (tgt := 78) hx hb dX11_bunch_44 (by decide) (by first | (rw [s_44_1]; done) | (rw [s_44_1]; rfl)) (by decide) ?_
          refine lv_iload hx hb dX11_bunch_78 (lv_at hl 0 rfl) ?_
          exact hret _ _ _ _ _ (Option.some.inj h) rfl hS dX11_bunch_80
        replace h := ez_ifn h s_44_1
        refine lv_lookup (off := 37) (tgt := 81) hx hb dX11_bunch_44 (by decide) (by simp only [Op.lookupswitch.offset_cons, Op.lookupswitch.offset_nil]; rw [if_neg (fun q => ez_toNe (k := 0) s_44_0 (by decide) q.symm), if_neg (fun q => ez_toNe (k := 1) s_44_1 (by decide) q.symm)]) (by decide) ?_
        refine lv_iconst (v := -1) hx hb dX11_bunch_81 (by decide) ?_
        exact hret _ _ _ _ _ (Option.some.inj h) rfl hS dX11_bunch_82
      · replace h := ez_ifp h c_38
        refine lv_iconst (v := -1) hx hb dX11_bunch_41 (by decide) ?_
        exact hret _ _ _ _ _ (Option.some.inj h) rfl hS dX11_bunch_42
    · replace h := ez_ifp h c_19
      exact K_22   _ _ _ hS h (lv_sub hl [] rfl)
set_option maxHeartbeats 4000000 in
set_option maxRecDepth 100000 in
theorem c_X11_comers {l : Launch} {X : ez_X} {B : Nat} {σ : ez_H} {h0 : Nat} {x1 : Int32} {z : Int32} (h : z_X11_comers σ h0 x1 = some z) : ez_M l X B σ yX11_comers cX11_comers 4 (some .int) 5 [.ref (B + h0), .int x1] (some (.int z)) σ := by
  refine ez_startip (z := z) (by decide) (Nat.le_of_ble_eq_true rfl) (fun p e R s m args below meth c Q hC hret hS ls hl => ?_)
  have hC : ez_C p R s m args c X B RX11 cX11_comers 4 5 := hC
  have hx := hC.1.1
  have hb := hC.1.2.1
  have hown := hC.1.2.2.2.1
  have hts := hC.1.2.2.2.2
  have hl : lv_has ls 4 [(0, .ref (B + h0)), (1, .int x1)] := hl
  obtain ⟨n0, e0⟩ : ∃ n0 : Nat, n0 = σ.length := ⟨_, rfl⟩
  rw [← e0] at hret hS
  obtain ⟨-, h⟩ := ez_in h
  have K_49 : ∀ (k_17 : Nat → Int32 → Int32 → Int32 → Option (Int32)) (hk_17 : ∀ (h0 : Nat) (x1 : Int32) (x2 : Int32) (x3 : Int32) (H : Heap) (locs : List Loc) (ls : Array Slot), ez_S X B s.heap (n0) σ H locs → k_17 h0 x1 x2 x3 = some z → lv_has ls 4 [(0, .ref (B + h0)), (1, .int x1), (2, .int x2), (3, .int x3)] → W p l e R s m args below meth c H locs 0 0 Q (F0 m 17 ls [])), ∀ (h0 : Nat) (x1 : Int32) (x2 : Int32) (x3 : Int32) (H : Heap) (locs : List Loc) (ls : Array Slot), ez_S X B s.heap (n0) σ H locs → z_X11_comers_49 σ k_17 h0 x1 x2 x3 = some z → lv_has ls 4 [(0, .ref (B + h0)), (1, .int x1), (2, .int x2), (3, .int x3)] → W p l e R s m args below meth c H locs 0 0 Q (F0 m 49 ls []) := by
    intro k_17 hk_17 h0 x1 x2 x3 H locs ls hS h hl
    obtain ⟨t_49, e_49, h⟩ := ez_let_sp h
    refine lv_iinc (v := t_49) (lv' := [(3, .int t_49), (0, .ref (B + h0)), (1, .int x1), (2, .int x2)]) hx hb dX11_comers_49 hl (k := 3) rfl (by rw [e_49]; rfl) (by decide) rfl (fun ls hl => ?_)
    refine lv_goto (tgt := 17) hx hb dX11_comers_52 (by decide) ?_
    exact hk_17 h0 x1 x2 t_49 _ _ _ hS h (lv_sub hl [1, 2, 3, 0] rfl)
  have K_17 : ∀ (k_17 : Nat → Int32 → Int32 → Int32 → Option (Int32)) (hk_17 : ∀ (h0 : Nat) (x1 : Int32) (x2 : Int32) (x3 : Int32) (H : Heap) (locs : List Loc) (ls : Array Slot), ez_S X B s.heap (n0) σ H locs → k_17 h0 x1 x2 x3 = some z → lv_has ls 4 [(0, .ref (B + h0)), (1, .int x1), (2, .int x2), (3, .int x3)] → W p l e R s m args below meth c H locs 0 0 Q (F0 m 17 ls [])), ∀ (h0 : Nat) (x1 : Int32) (x2 : Int32) (x3 : Int32) (H : Heap) (locs : List Loc) (ls : Array Slot), ez_S X B s.heap (n0) σ H locs → z_X11_comers_17 σ k_17 h0 x1 x2 x3 = some z → lv_has ls 4 [(0, .ref (B + h0)), (1, .int x1), (2, .int x2), (3, .int x3)] → W p l e R s m args below meth c H locs 0 0 Q (F0 m 17 ls []) := by
    intro k_17 hk_17 h0 x1 x2 x3 H locs ls hS h hl
    refine lv_iload_n hx hb dX11_comers_17 rfl (lv_at hl 3 rfl) ?_
    refine lv_aload_n hx hb dX11_comers_18 rfl (lv_at hl 0 rfl) ?_
    refine eg_RX11_29 hC hS h dX11_comers_19 (fun t_19 h => ?_)
    refine eg_RX11_368 hC hS h dX11_comers_22 (fun t_22 h => ?_)
    refine lv_icmp_ge (tgt := 55) hx hb dX11_comers_25 (by decide) (fun c_25 => ?_) (fun c_25 => ?_)
    · replace h := ez_ifp h c_25
      refine lv_iload_n hx hb dX11_comers_55 rfl (lv_at hl 2 rfl) ?_
      exact hret _ _ _ _ _ (Option.some.inj h) rfl hS dX11_comers_56
    · replace h := ez_ifn h c_25
      refine lv_aload_n hx hb dX11_comers_28 rfl (lv_at hl 0 rfl) ?_
      refine eg_RX11_79 hC hS h dX11_comers_29 (fun t_29 h => ?_)
      refine lv_iload_n hx hb dX11_comers_32 rfl (lv_at hl 3 rfl) ?_
      refine ez_cVpi (As := [.int x3]) (rest := []) h (fun _ q => c_X2_reachOf q) hC k_X2_reachOf ql_RX11_209 rfl (by decide) hS (fun _ q => ez_rcv q) rfl hl.1 rfl (Nat.le_of_ble_eq_true rfl) ⟨Nat.zero_le _, Nat.zero_le _⟩ dX11_comers_33 (fun t_33 H locs hS h => ?_)
      refine lv_iload_n hx hb dX11_comers_36 rfl (lv_at hl 1 rfl) ?_
      refine lv_ishr hx hb dX11_comers_37 ?_
      refine ez_top h (fun t_37 h => ?_)
      refine lv_iconst (v := 1) hx hb dX11_comers_38 (by decide) ?_
      refine lv_iand hx hb dX11_comers_39 ?_
      refine ez_top h (fun t_39 h => ?_)
      refine lv_if_eq (tgt := 49) hx hb dX11_comers_40 (by decide) (fun c_40 => ?_) (fun c_40 => ?_)
      · replace h := ez_ifp h c_40
        exact K_49 k_17 hk_17 h0 x1 x2 x3 _ _ _ hS h (lv_sub hl [0, 1, 2, 3] rfl)
      · replace h := ez_ifn h c_40
        refine lv_iload_n hx hb dX11_comers_43 rfl (lv_at hl 2 rfl) ?_
        refine lv_iconst (v := 1) hx hb dX11_comers_44 (by decide) ?_
        refine lv_iload_n hx hb dX11_comers_45 rfl (lv_at hl 3 rfl) ?_
        refine lv_ishl hx hb dX11_comers_46 ?_
        refine ez_top h (fun t_46 h => ?_)
        refine lv_ior hx hb dX11_comers_47 ?_
        refine ez_top h (fun t_47 h => ?_)
        refine lv_istore_n (lv' := [(2, .int t_47), (0, .ref (B + h0)), (1, .int x1), (3, .int x3)]) hx hb dX11_comers_48 rfl hl (by decide) rfl (fun ls hl => ?_)
        exact K_49 k_17 hk_17 h0 x1 t_47 x3 _ _ _ hS h (lv_sub hl [1, 2, 0, 3] rfl)
  have E_17 : ∀ (h0 : Nat) (x1 : Int32) (x2 : Int32) (x3 : Int32) (H : Heap) (locs : List Loc) (ls : Array Slot), ez_S X B s.heap (n0) σ H locs → (ez_fix (fun _ _ _ _ => none) (z_X11_comers_17 σ) ez_N) h0 x1 x2 x3 = some z → lv_has ls 4 [(0, .ref (B + h0)), (1, .int x1), (2, .int x2), (3, .int x3)] → W p l e R s m args below meth c H locs 0 0 Q (F0 m 17 ls []) := ez_fix_ind (fun k_17 : Nat → Int32 → Int32 → Int32 → Option (Int32) => ∀ (h0 : Nat) (x1 : Int32) (x2 : Int32) (x3 : Int32) (H : Heap) (locs : List Loc) (ls : Array Slot), ez_S X B s.heap (n0) σ H locs → k_17 h0 x1 x2 x3 = some z → lv_has ls 4 [(0, .ref (B + h0)), (1, .int x1), (2, .int x2), (3, .int x3)] → W p l e R s m args below meth c H locs 0 0 Q (F0 m 17 ls [])) (fun _ _ _ _ _ _ _ _ h _ => by cases h) (fun k_17 hk_17 => K_17 k_17 hk_17) ez_N
  refine lv_aload_n hx hb dX11_comers_0 rfl (lv_at hl 0 rfl) ?_
  refine eg_RX11_29 hC hS h dX11_comers_1 (fun t_1 h => ?_)
  refine lv_iload_n hx hb dX11_comers_4 rfl (lv_at hl 1 rfl) ?_
  refine ez_cVpi (As := [.int x1]) (rest := []) h (fun _ q => c_X3_hasRoom q) hC k_X3_hasRoom ql_RX11_356 rfl (by decide) hS (fun _ q => ez_rcv q) rfl hl.1 rfl (Nat.le_of_ble_eq_true rfl) ⟨Nat.zero_le _, Nat.zero_le _⟩ dX11_comers_5 (fun t_5 H locs hS h => ?_)
  refine lv_if_ne (tgt := 13) hx hb dX11_comers_8 (by decide) (fun c_8 => ?_) (fun c_8 => ?_)
  · replace h := ez_ifn h c_8
    refine lv_iconst (v := 0) hx hb dX11_comers_13 (by decide) ?_
    refine lv_istore_n (lv' := [(2, .int 0), (0, .ref (B + h0)), (1, .int x1)]) hx hb dX11_comers_14 rfl hl (by decide) rfl (fun ls hl => ?_)
    refine lv_iconst (v := 0) hx hb dX11_comers_15 (by decide) ?_
    refine lv_istore_n (lv' := [(3, .int 0), (2, .int 0), (0, .ref (B + h0)), (1, .int x1)]) hx hb dX11_comers_16 rfl hl (by decide) rfl (fun ls hl => ?_)
    exact E_17  h0 x1 (0 : Int32) (0 : Int32) _ _ _ hS h (lv_sub hl [2, 3, 1, 0] rfl)
  · replace h := ez_ifp h c_8
    refine lv_iconst (v := -1) hx hb dX11_comers_11 (by decide) ?_
    exact hret _ _ _ _ _ (Option.some.inj h) rfl hS dX11_comers_12
set_option maxHeartbeats 4000000 in
set_option maxRecDepth 100000 in
theorem c_X3_hasLocks {l : Launch} {X : ez_X} {B : Nat} {σ : ez_H} {h0 : Nat} {x1 : Int32} {z : Int32} (h : z_X3_hasLocks σ h0 x1 = some z) : ez_M l X B σ yX3_hasLocks cX3_hasLocks 2 (some .boolean) 1 [.ref (B + h0), .int x1] (some (.int z)) σ := by
  refine ez_startip (z := z) (by decide) (Nat.le_of_ble_eq_true rfl) (fun p e R s m args below meth c Q hC hret hS ls hl => ?_)
  have hC : ez_C p R s m args c X B RX3 cX3_hasLocks 2 1 := hC
  have hx := hC.1.1
  have hb := hC.1.2.1
  have hown := hC.1.2.2.2.1
  have hts := hC.1.2.2.2.2
  have hl : lv_has ls 2 [(0, .ref (B + h0)), (1, .int x1)] := hl
  obtain ⟨n0, e0⟩ : ∃ n0 : Nat, n0 = σ.length := ⟨_, rfl⟩
  rw [← e0] at hret hS
  obtain ⟨-, h⟩ := ez_in h
  have K_16 : ∀ (y0 : Int32) (H : Heap) (locs : List Loc) (ls : Array Slot), ez_S X B s.heap (n0) σ H locs → z_X3_hasLocks_16 σ y0 = some z → lv_has ls 2 [] → W p l e R s m args below meth c H locs 0 0 Q (F0 m 16 ls [.int y0]) := by
    intro y0 H locs ls hS h hl
    obtain ⟨hn, h⟩ := ez_nr_sp rfl h
    exact hret _ _ _ _ _ (Option.some.inj h) hn hS dX3_hasLocks_16
  refine lv_iload_n hx hb dX3_hasLocks_0 rfl (lv_at hl 1 rfl) ?_
  refine lv_aload_n hx hb dX3_hasLocks_1 rfl (lv_at hl 0 rfl) ?_
  refine ez_cVpi (As := []) (rest := [.int x1]) h (fun _ q => c_X3_allLocks q) hC k_X3_allLocks ql_RX3_97 rfl (by decide) hS (fun _ q => ez_rcv q) rfl hl.1 rfl (Nat.le_of_ble_eq_true rfl) ⟨Nat.zero_le _, Nat.zero_le _⟩ dX3_hasLocks_2 (fun t_2 H locs hS h => ?_)
  refine lv_iconst (v := -1) hx hb dX3_hasLocks_5 (by decide) ?_
  refine lv_ixor hx hb dX3_hasLocks_6 ?_
  refine ez_top h (fun t_6 h => ?_)
  refine lv_iand hx hb dX3_hasLocks_7 ?_
  refine ez_top h (fun t_7 h => ?_)
  refine lv_if_ne (tgt := 15) hx hb dX3_hasLocks_8 (by decide) (fun c_8 => ?_) (fun c_8 => ?_)
  · replace h := ez_ifn h c_8
    refine lv_iconst (v := 0) hx hb dX3_hasLocks_15 (by decide) ?_
    exact K_16  (0 : Int32) _ _ _ hS h (lv_sub hl [] rfl)
  · replace h := ez_ifp h c_8
    refine lv_iconst (v := 1) hx hb dX3_hasLocks_11 (by decide) ?_
    refine lv_goto (tgt := 16) hx hb dX3_hasLocks_12 (by decide) ?_
    exact K_16  (1 : Int32) _ _ _ hS h (lv_sub hl [] rfl)
set_option maxHeartbeats 4000000 in
set_option maxRecDepth 100000 in
theorem c_X8_leastNumber {l : Launch} {X : ez_X} {B : Nat} {σ : ez_H} {h0 : Nat} {x1 : Int32} {x2 : Int32} {z : Int32} (h : z_X8_leastNumber σ h0 x1 x2 = some z) : ez_M l X B σ yX8_leastNumber cX8_leastNumber 5 (some .int) 1 [.ref (B + h0), .int x1, .int x2] (some (.int z)) σ := by
  refine ez_startip (z := z) (by decide) (Nat.le_of_ble_eq_true rfl) (fun p e R s m args below meth c Q hC hret hS ls hl => ?_)
  have hC : ez_C p R s m args c X B RX8 cX8_leastNumber 5 1 := hC
  have hx := hC.1.1
  have hb := hC.1.2.1
  have hown := hC.1.2.2.2.1
  have hts := hC.1.2.2.2.2
  have hl : lv_has ls 5 [(0, .ref (B + h0)), (1, .int x1), (2, .int x2)] := hl
  obtain ⟨n0, e0⟩ : ∃ n0 : Nat, n0 = σ.length := ⟨_, rfl⟩
  rw [← e0] at hret hS
  obtain ⟨-, h⟩ := ez_in h
  have K_47 : ∀ (k_5 : Nat → Int32 → Int32 → Int32 → Int32 → Option (Int32)) (hk_5 : ∀ (h0 : Nat) (x1 : Int32) (x2 : Int32) (x3 : Int32) (x4 : Int32) (H : Heap) (locs : List Loc) (ls : Array Slot), ez_S X B s.heap (n0) σ H locs → k_5 h0 x1 x2 x3 x4 = some z → lv_has ls 5 [(0, .ref (B + h0)), (1, .int x1), (2, .int x2), (3, .int x3), (4, .int x4)] → W p l e R s m args below meth c H locs 0 0 Q (F0 m 5 ls [])), ∀ (h0 : Nat) (x1 : Int32) (x2 : Int32) (x3 : Int32) (x4 : Int32) (H : Heap) (locs : List Loc) (ls : Array Slot), ez_S X B s.heap (n0) σ H locs → z_X8_leastNumber_47 σ k_5 h0 x1 x2 x3 x4 = some z → lv_has ls 5 [(0, .ref (B + h0)), (1, .int x1), (2, .int x2), (3, .int x3), (4, .int x4)] → W p l e R s m args below meth c H locs 0 0 Q (F0 m 47 ls []) := by
    intro k_5 hk_5 h0 x1 x2 x3 x4 H locs ls hS h hl
    obtain ⟨t_47, e_47, h⟩ := ez_let_sp h
    refine lv_iinc (v := t_47) (lv' := [(4, .int t_47), (0, .ref (B + h0)), (1, .int x1), (2, .int x2), (3, .int x3)]) hx hb dX8_leastNumber_47 hl (k := 4) rfl (by rw [e_47]; rfl) (by decide) rfl (fun ls hl => ?_)
    refine lv_goto (tgt := 5) hx hb dX8_leastNumber_50 (by decide) ?_
    exact hk_5 h0 x1 x2 x3 t_47 _ _ _ hS h (lv_sub hl [1, 2, 3, 4, 0] rfl)
  have K_39 : ∀ (k_5 : Nat → Int32 → Int32 → Int32 → Int32 → Option (Int32)) (hk_5 : ∀ (h0 : Nat) (x1 : Int32) (x2 : Int32) (x3 : Int32) (x4 : Int32) (H : Heap) (locs : List Loc) (ls : Array Slot), ez_S X B s.heap (n0) σ H locs → k_5 h0 x1 x2 x3 x4 = some z → lv_has ls 5 [(0, .ref (B + h0)), (1, .int x1), (2, .int x2), (3, .int x3), (4, .int x4)] → W p l e R s m args below meth c H locs 0 0 Q (F0 m 5 ls [])), ∀ (h0 : Nat) (x1 : Int32) (x2 : Int32) (x4 : Int32) (H : Heap) (locs : List Loc) (ls : Array Slot), ez_S X B s.heap (n0) σ H locs → z_X8_leastNumber_39 σ k_5 h0 x1 x2 x4 = some z → lv_has ls 5 [(0, .ref (B + h0)), (1, .int x1), (2, .int x2), (4, .int x4)] → W p l e R s m args below meth c H locs 0 0 Q (F0 m 39 ls []) := by
    intro k_5 hk_5 h0 x1 x2 x4 H locs ls hS h hl
    refine lv_aload_n hx hb dX8_leastNumber_39 rfl (lv_at hl 0 rfl) ?_
    refine eg_RX8_50 hC hS h dX8_leastNumber_40 (fun t_40 h => ?_)
    refine lv_iload hx hb dX8_leastNumber_43 (lv_at hl 3 rfl) ?_
    refine ez_ial hC hS h dX8_leastNumber_45 (fun t_45 h => ?_)
    refine lv_istore_n (lv' := [(3, .int t_45), (0, .ref (B + h0)), (1, .int x1), (2, .int x2), (4, .int x4)]) hx hb dX8_leastNumber_46 rfl hl (by decide) rfl (fun ls hl => ?_)
    exact K_47 k_5 hk_5 h0 x1 x2 t_45 x4 _ _ _ hS h (lv_sub hl [1, 2, 3, 0, 4] rfl)
  have K_5 : ∀ (k_5 : Nat → Int32 → Int32 → Int32 → Int32 → Option (Int32)) (hk_5 : ∀ (h0 : Nat) (x1 : Int32) (x2 : Int32) (x3 : Int32) (x4 : Int32) (H : Heap) (locs : List Loc) (ls : Array Slot), ez_S X B s.heap (n0) σ H locs → k_5 h0 x1 x2 x3 x4 = some z → lv_has ls 5 [(0, .ref (B + h0)), (1, .int x1), (2, .int x2), (3, .int x3), (4, .int x4)] → W p l e R s m args below meth c H locs 0 0 Q (F0 m 5 ls [])), ∀ (h0 : Nat) (x1 : Int32) (x2 : Int32) (x3 : Int32) (x4 : Int32) (H : Heap) (locs : List Loc) (ls : Array Slot), ez_S X B s.heap (n0) σ H locs → z_X8_leastNumber_5 σ k_5 h0 x1 x2 x3 x4 = some z → lv_has ls 5 [(0, .ref (B + h0)), (1, .int x1), (2, .int x2), (3, .int x3), (4, .int x4)] → W p l e R s m args below meth c H locs 0 0 Q (F0 m 5 ls []) := by
    intro k_5 hk_5 h0 x1 x2 x3 x4 H locs ls hS h hl
    refine lv_iload hx hb dX8_leastNumber_5 (lv_at hl 4 rfl) ?_
    refine lv_bipush (v := 64) hx hb dX8_leastNumber_7 (by decide) ?_
    refine lv_icmp_ge (tgt := 53) hx hb dX8_leastNumber_9 (by decide) (fun c_9 => ?_) (fun c_9 => ?_)
    · replace h := ez_ifp h c_9
      refine lv_iload_n hx hb dX8_leastNumber_53 rfl (lv_at hl 3 rfl) ?_
      exact hret _ _ _ _ _ (Option.some.inj h) rfl hS dX8_leastNumber_54
    · replace h := ez_ifn h c_9
      refine lv_aload_n hx hb dX8_leastNumber_12 rfl (lv_at hl 0 rfl) ?_
      refine lv_iload hx hb dX8_leastNumber_13 (lv_at hl 4 rfl) ?_
      refine lv_iload_n hx hb dX8_leastNumber_15 rfl (lv_at hl 1 rfl) ?_
      refine lv_iload_n hx hb dX8_leastNumber_16 rfl (lv_at hl 2 rfl) ?_
      refine ez_cVpi (As := [.int x4, .int x1, .int x2]) (rest := []) h (fun _ q => c_X8_isSuch q) hC k_X8_isSuch ql_RX8_120 rfl (by decide) hS (fun _ q => ez_rcv q) rfl hl.1 rfl (Nat.le_of_ble_eq_true rfl) ⟨Nat.zero_le _, Nat.zero_le _⟩ dX8_leastNumber_17 (fun t_17 H locs hS h => ?_)
      refine lv_if_eq (tgt := 47) hx hb dX8_leastNumber_20 (by decide) (fun c_20 => ?_) (fun c_20 => ?_)
      · replace h := ez_ifp h c_20
        exact K_47 k_5 hk_5 h0 x1 x2 x3 x4 _ _ _ hS h (lv_sub hl [0, 1, 2, 3, 4] rfl)
      · replace h := ez_ifn h c_20
        refine lv_iload_n hx hb dX8_leastNumber_23 rfl (lv_at hl 3 rfl) ?_
        refine lv_iconst (v := -1) hx hb dX8_leastNumber_24 (by decide) ?_
        refine lv_icmp_eq (tgt := 39) hx hb dX8_leastNumber_25 (by decide) (fun c_25 => ?_) (fun c_25 => ?_)
        · replace h := ez_ifp h c_25
          exact K_39 k_5 hk_5 h0 x1 x2 x4 _ _ _ hS h (lv_sub hl [0, 1, 2, 4] rfl)
        · replace h := ez_ifn h c_25
          refine lv_aload_n hx hb dX8_leastNumber_28 rfl (lv_at hl 0 rfl) ?_
          refine eg_RX8_50 hC hS h dX8_leastNumber_29 (fun t_29 h => ?_)
          refine lv_iload hx hb dX8_leastNumber_32 (lv_at hl 4 rfl) ?_
          refine ez_ial hC hS h dX8_leastNumber_34 (fun t_34 h => ?_)
          refine lv_iload_n hx hb dX8_leastNumber_35 rfl (lv_at hl 3 rfl) ?_
          refine lv_icmp_ge (tgt := 47) hx hb dX8_leastNumber_36 (by decide) (fun c_36 => ?_) (fun c_36 => ?_)
          · replace h := ez_ifp h c_36
            exact K_47 k_5 hk_5 h0 x1 x2 x3 x4 _ _ _ hS h (lv_sub hl [0, 1, 2, 3, 4] rfl)
          · replace h := ez_ifn h c_36
            exact K_39 k_5 hk_5 h0 x1 x2 x4 _ _ _ hS h (lv_sub hl [0, 1, 2, 4] rfl)
  have E_5 : ∀ (h0 : Nat) (x1 : Int32) (x2 : Int32) (x3 : Int32) (x4 : Int32) (H : Heap) (locs : List Loc) (ls : Array Slot), ez_S X B s.heap (n0) σ H locs → (ez_fix (fun _ _ _ _ _ => none) (z_X8_leastNumber_5 σ) ez_N) h0 x1 x2 x3 x4 = some z → lv_has ls 5 [(0, .ref (B + h0)), (1, .int x1), (2, .int x2), (3, .int x3), (4, .int x4)] → W p l e R s m args below meth c H locs 0 0 Q (F0 m 5 ls []) := ez_fix_ind (fun k_5 : Nat → Int32 → Int32 → Int32 → Int32 → Option (Int32) => ∀ (h0 : Nat) (x1 : Int32) (x2 : Int32) (x3 : Int32) (x4 : Int32) (H : Heap) (locs : List Loc) (ls : Array Slot), ez_S X B s.heap (n0) σ H locs → k_5 h0 x1 x2 x3 x4 = some z → lv_has ls 5 [(0, .ref (B + h0)), (1, .int x1), (2, .int x2), (3, .int x3), (4, .int x4)] → W p l e R s m args below meth c H locs 0 0 Q (F0 m 5 ls [])) (fun _ _ _ _ _ _ _ _ _ h _ => by cases h) (fun k_5 hk_5 => K_5 k_5 hk_5) ez_N
  refine lv_iconst (v := -1) hx hb dX8_leastNumber_0 (by decide) ?_
  refine lv_istore_n (lv' := [(3, .int (-1)), (0, .ref (B + h0)), (1, .int x1), (2, .int x2)]) hx hb dX8_leastNumber_1 rfl hl (by decide) rfl (fun ls hl => ?_)
  refine lv_iconst (v := 0) hx hb dX8_leastNumber_2 (by decide) ?_
  refine lv_istore (lv' := [(4, .int 0), (3, .int (-1)), (0, .ref (B + h0)), (1, .int x1), (2, .int x2)]) hx hb dX8_leastNumber_3 hl (by decide) rfl (fun ls hl => ?_)
  exact E_5  h0 x1 x2 (-1 : Int32) (0 : Int32) _ _ _ hS h (lv_sub hl [2, 3, 4, 1, 0] rfl)
set_option maxHeartbeats 4000000 in
set_option maxRecDepth 100000 in
theorem c_X11_common {l : Launch} {X : ez_X} {B : Nat} {σ : ez_H} {h0 : Nat} {x1 : Int32} {x2 : Int32} {z : Int32 × ez_H} (h : z_X11_common σ h0 x1 x2 = some z) : ez_M l X B σ yX11_common cX11_common 3 (some .int) 4 [.ref (B + h0), .int x1, .int x2] (some (.int z.1)) z.2 := by
  refine ez_starti (z := z) (by decide) (Nat.le_of_ble_eq_true rfl) (fun p e R s m args below meth c Q hC hret hS ls hl => ?_)
  have hC : ez_C p R s m args c X B RX11 cX11_common 3 4 := hC
  have hx := hC.1.1
  have hb := hC.1.2.1
  have hown := hC.1.2.2.2.1
  have hts := hC.1.2.2.2.2
  have hl : lv_has ls 3 [(0, .ref (B + h0)), (1, .int x1), (2, .int x2)] := hl
  obtain ⟨σ0, eσ⟩ : ∃ σ0 : ez_H, σ0 = σ := ⟨_, rfl⟩
  rw [← eσ] at hret
  have hS : ez_S X B s.heap σ0.length σ s.heap [] := eσ ▸ hS
  obtain ⟨-, h⟩ := ez_in h
  refine lv_aload_n hx hb dX11_common_0 rfl (lv_at hl 0 rfl) ?_
  refine eg_RX11_29 hC hS h dX11_common_1 (fun t_1 h => ?_)
  refine lv_iload_n hx hb dX11_common_4 rfl (lv_at hl 1 rfl) ?_
  refine ez_cVpi (As := [.int x1]) (rest := []) h (fun _ q => c_X3_hasLocks q) hC k_X3_hasLocks ql_RX11_322 rfl (by decide) hS (fun _ q => ez_rcv q) rfl hl.1 rfl (Nat.le_of_ble_eq_true rfl) ⟨Nat.zero_le _, Nat.zero_le _⟩ dX11_common_5 (fun t_5 H locs hS h => ?_)
  refine lv_if_ne (tgt := 13) hx hb dX11_common_8 (by decide) (fun c_8 => ?_) (fun c_8 => ?_)
  · replace h := ez_ifn h c_8
    refine lv_aload_n hx hb dX11_common_13 rfl (lv_at hl 0 rfl) ?_
    refine eg_RX11_67 hC hS h dX11_common_14 (fun t_14 h => ?_)
    refine lv_aload_n hx hb dX11_common_17 rfl (lv_at hl 0 rfl) ?_
    refine eg_RX11_41 hC hS h dX11_common_18 (fun t_18 h => ?_)
    refine ez_cVv (As := [.ref (B + t_18)]) (rest := []) h (fun _ q => c_X8_take q) hC k_X8_take ql_RX11_325 rfl (by decide) hS (fun _ q => ez_rcv q) rfl hl.1 rfl (Nat.le_of_ble_eq_true rfl) ⟨Nat.zero_le _, Nat.zero_le _⟩ dX11_common_21 (fun _ σ H locs hS h => ?_)
    refine lv_iload_n hx hb dX11_common_24 rfl (lv_at hl 2 rfl) ?_
    by_cases s_25_0 : x2 = 0
    · replace h := ez_ifp h s_25_0
      refine lv_lookup (tgt := 52) hx hb dX11_common_25 (by decide) (by first | (rw [s_25_0]; done) | (rw [s_25_0]; rfl)) (by decide) ?_
      refine lv_aload_n hx hb dX11_common_52 rfl (lv_at hl 0 rfl) ?_
      refine eg_RX11_67 hC hS h dX11_common_53 (fun t_53 h => ?_)
      refine lv_iload_n hx hb dX11_common_56 rfl (lv_at hl 1 rfl) ?_
      refine lv_iconst (v := 0) hx hb dX11_common_57 (by decide) ?_
      refine ez_cVpi (As := [.int x1, .int 0]) (rest := []) h (fun _ q => c_X8_total q) hC k_X8_total ql_RX11_328 rfl (by decide) hS (fun _ q => ez_rcv q) rfl hl.1 rfl (Nat.le_of_ble_eq_true rfl) ⟨Nat.zero_le _, Nat.zero_le _⟩ dX11_common_58 (fun t_58 H locs hS h => ?_)
      exact hret _ _ _ _ _ _ (Option.some.inj h) rfl hS dX11_common_61
    replace h := ez_ifn h s_25_0
    by_cases s_25_1 : x2 = 1
    · replace h := ez_ifp h s_25_1
      refine lv_lookup (tgt := 62) hx hb dX11_common_25 (by decide) (by first | (rw [s_25_1]; done) | (rw [s_25_1]; rfl)) (by decide) ?_
      refine lv_aload_n hx hb dX11_common_62 rfl (lv_at hl 0 rfl) ?_
      refine eg_RX11_67 hC hS h dX11_common_63 (fun t_63 h => ?_)
      refine lv_iload_n hx hb dX11_common_66 rfl (lv_at hl 1 rfl) ?_
      refine lv_iconst (v := 0) hx hb dX11_common_67 (by decide) ?_
      refine ez_cVpi (As := [.int x1, .int 0]) (rest := []) h (fun _ q => c_X8_leastNumber q) hC k_X8_leastNumber ql_RX11_331 rfl (by decide) hS (fun _ q => ez_rcv q) rfl hl.1 rfl (Nat.le_of_ble_eq_true rfl) ⟨Nat.zero_le _, Nat.zero_le _⟩ dX11_common_68 (fun t_68 H locs hS h => ?_)
      exact hret _ _ _ _ _ _ (Option.some.inj h) rfl hS dX11_common_71
    replace h := ez_ifn h s_25_1
    refine lv_lookup (off := 47) (tgt := 72) hx hb dX11_common_25 (by decide) (by simp only [Op.lookupswitch.offset_cons, Op.lookupswitch.offset_nil]; rw [if_neg (fun q => ez_toNe (k := 0) s_25_0 (by decide) q.symm), if_neg (fun q => ez_toNe (k := 1) s_25_1 (by decide) q.symm)]) (by decide) ?_
    refine lv_iconst (v := -1) hx hb dX11_common_72 (by decide) ?_
    exact hret _ _ _ _ _ _ (Option.some.inj h) rfl hS dX11_common_73
  · replace h := ez_ifp h c_8
    refine lv_iconst (v := -1) hx hb dX11_common_11 (by decide) ?_
    exact hret _ _ _ _ _ _ (Option.some.inj h) rfl hS dX11_common_12
set_option maxHeartbeats 4000000 in
set_option maxRecDepth 100000 in
theorem c_X3_hasKey {l : Launch} {X : ez_X} {B : Nat} {σ : ez_H} {h0 : Nat} {x1 : Int32} {z : Int32} (h : z_X3_hasKey σ h0 x1 = some z) : ez_M l X B σ yX3_hasKey cX3_hasKey 2 (some .boolean) 0 [.ref (B + h0), .int x1] (some (.int z)) σ := by
  refine ez_startip (z := z) (by decide) (Nat.le_of_ble_eq_true rfl) (fun p e R s m args below meth c Q hC hret hS ls hl => ?_)
  have hC : ez_C p R s m args c X B RX3 cX3_hasKey 2 0 := hC
  have hx := hC.1.1
  have hb := hC.1.2.1
  have hown := hC.1.2.2.2.1
  have hts := hC.1.2.2.2.2
  have hl : lv_has ls 2 [(0, .ref (B + h0)), (1, .int x1)] := hl
  obtain ⟨n0, e0⟩ : ∃ n0 : Nat, n0 = σ.length := ⟨_, rfl⟩
  rw [← e0] at hret hS
  obtain ⟨-, h⟩ := ez_in h
  have K_17 : ∀ (y0 : Int32) (H : Heap) (locs : List Loc) (ls : Array Slot), ez_S X B s.heap (n0) σ H locs → z_X3_hasKey_17 σ y0 = some z → lv_has ls 2 [] → W p l e R s m args below meth c H locs 0 0 Q (F0 m 17 ls [.int y0]) := by
    intro y0 H locs ls hS h hl
    obtain ⟨hn, h⟩ := ez_nr_sp rfl h
    exact hret _ _ _ _ _ (Option.some.inj h) hn hS dX3_hasKey_17
  have K_16 : ∀ (H : Heap) (locs : List Loc) (ls : Array Slot), ez_S X B s.heap (n0) σ H locs → z_X3_hasKey_16 σ = some z → lv_has ls 2 [] → W p l e R s m args below meth c H locs 0 0 Q (F0 m 16 ls []) := by
    intro  H locs ls hS h hl
    refine lv_iconst (v := 0) hx hb dX3_hasKey_16 (by decide) ?_
    exact K_17  (0 : Int32) _ _ _ hS h (lv_sub hl [] rfl)
  refine lv_iload_n hx hb dX3_hasKey_0 rfl (lv_at hl 1 rfl) ?_
  refine lv_if_lt (tgt := 16) hx hb dX3_hasKey_1 (by decide) (fun c_1 => ?_) (fun c_1 => ?_)
  · replace h := ez_ifp h c_1
    exact K_16   _ _ _ hS h (lv_sub hl [] rfl)
  · replace h := ez_ifn h c_1
    refine lv_iload_n hx hb dX3_hasKey_4 rfl (lv_at hl 1 rfl) ?_
    refine lv_aload_n hx hb dX3_hasKey_5 rfl (lv_at hl 0 rfl) ?_
    refine eg_RX3_55 hC hS h dX3_hasKey_6 (fun t_6 h => ?_)
    refine lv_icmp_ge (tgt := 16) hx hb dX3_hasKey_9 (by decide) (fun c_9 => ?_) (fun c_9 => ?_)
    · replace h := ez_ifp h c_9
      exact K_16   _ _ _ hS h (lv_sub hl [] rfl)
    · replace h := ez_ifn h c_9
      refine lv_iconst (v := 1) hx hb dX3_hasKey_12 (by decide) ?_
      refine lv_goto (tgt := 17) hx hb dX3_hasKey_13 (by decide) ?_
      exact K_17  (1 : Int32) _ _ _ hS h (lv_sub hl [] rfl)
set_option maxHeartbeats 4000000 in
set_option maxRecDepth 100000 in
theorem c_X6_hasChamber {l : Launch} {X : ez_X} {B : Nat} {σ : ez_H} {h0 : Nat} {x1 : Int32} {z : Int32} (h : z_X6_hasChamber σ h0 x1 = some z) : ez_M l X B σ yX6_hasChamber cX6_hasChamber 2 (some .boolean) 0 [.ref (B + h0), .int x1] (some (.int z)) σ := by
  refine ez_startip (z := z) (by decide) (Nat.le_of_ble_eq_true rfl) (fun p e R s m args below meth c Q hC hret hS ls hl => ?_)
  have hC : ez_C p R s m args c X B RX6 cX6_hasChamber 2 0 := hC
  have hx := hC.1.1
  have hb := hC.1.2.1
  have hown := hC.1.2.2.2.1
  have hts := hC.1.2.2.2.2
  have hl : lv_has ls 2 [(0, .ref (B + h0)), (1, .int x1)] := hl
  obtain ⟨n0, e0⟩ : ∃ n0 : Nat, n0 = σ.length := ⟨_, rfl⟩
  rw [← e0] at hret hS
  obtain ⟨-, h⟩ := ez_in h
  have K_17 : ∀ (y0 : Int32) (H : Heap) (locs : List Loc) (ls : Array Slot), ez_S X B s.heap (n0) σ H locs → z_X6_hasChamber_17 σ y0 = some z → lv_has ls 2 [] → W p l e R s m args below meth c H locs 0 0 Q (F0 m 17 ls [.int y0]) := by
    intro y0 H locs ls hS h hl
    obtain ⟨hn, h⟩ := ez_nr_sp rfl h
    exact hret _ _ _ _ _ (Option.some.inj h) hn hS dX6_hasChamber_17
  have K_16 : ∀ (H : Heap) (locs : List Loc) (ls : Array Slot), ez_S X B s.heap (n0) σ H locs → z_X6_hasChamber_16 σ = some z → lv_has ls 2 [] → W p l e R s m args below meth c H locs 0 0 Q (F0 m 16 ls []) := by
    intro  H locs ls hS h hl
    refine lv_iconst (v := 0) hx hb dX6_hasChamber_16 (by decide) ?_
    exact K_17  (0 : Int32) _ _ _ hS h (lv_sub hl [] rfl)
  refine lv_iload_n hx hb dX6_hasChamber_0 rfl (lv_at hl 1 rfl) ?_
  refine lv_if_lt (tgt := 16) hx hb dX6_hasChamber_1 (by decide) (fun c_1 => ?_) (fun c_1 => ?_)
  · replace h := ez_ifp h c_1
    exact K_16   _ _ _ hS h (lv_sub hl [] rfl)
  · replace h := ez_ifn h c_1
    refine lv_iload_n hx hb dX6_hasChamber_4 rfl (lv_at hl 1 rfl) ?_
    refine lv_aload_n hx hb dX6_hasChamber_5 rfl (lv_at hl 0 rfl) ?_
    refine eg_RX6_18 hC hS h dX6_hasChamber_6 (fun t_6 h => ?_)
    refine lv_icmp_ge (tgt := 16) hx hb dX6_hasChamber_9 (by decide) (fun c_9 => ?_) (fun c_9 => ?_)
    · replace h := ez_ifp h c_9
      exact K_16   _ _ _ hS h (lv_sub hl [] rfl)
    · replace h := ez_ifn h c_9
      refine lv_iconst (v := 1) hx hb dX6_hasChamber_12 (by decide) ?_
      refine lv_goto (tgt := 17) hx hb dX6_hasChamber_13 (by decide) ?_
      exact K_17  (1 : Int32) _ _ _ hS h (lv_sub hl [] rfl)
set_option maxHeartbeats 4000000 in
set_option maxRecDepth 100000 in
theorem c_X11_cut {l : Launch} {X : ez_X} {B : Nat} {σ : ez_H} {h0 : Nat} {x1 : Int32} {x2 : Int32} {z : Int32} (h : z_X11_cut σ h0 x1 x2 = some z) : ez_M l X B σ yX11_cut cX11_cut 3 (some .int) 2 [.ref (B + h0), .int x1, .int x2] (some (.int z)) σ := by
  refine ez_startip (z := z) (by decide) (Nat.le_of_ble_eq_true rfl) (fun p e R s m args below meth c Q hC hret hS ls hl => ?_)
  have hC : ez_C p R s m args c X B RX11 cX11_cut 3 2 := hC
  have hx := hC.1.1
  have hb := hC.1.2.1
  have hown := hC.1.2.2.2.1
  have hts := hC.1.2.2.2.2
  have hl : lv_has ls 3 [(0, .ref (B + h0)), (1, .int x1), (2, .int x2)] := hl
  obtain ⟨n0, e0⟩ : ∃ n0 : Nat, n0 = σ.length := ⟨_, rfl⟩
  rw [← e0] at hret hS
  obtain ⟨-, h⟩ := ez_in h
  have K_22 : ∀ (H : Heap) (locs : List Loc) (ls : Array Slot), ez_S X B s.heap (n0) σ H locs → z_X11_cut_22 σ = some z → lv_has ls 3 [] → W p l e R s m args below meth c H locs 0 0 Q (F0 m 22 ls []) := by
    intro  H locs ls hS h hl
    refine lv_iconst (v := -1) hx hb dX11_cut_22 (by decide) ?_
    exact hret _ _ _ _ _ (Option.some.inj h) rfl hS dX11_cut_23
  refine lv_aload_n hx hb dX11_cut_0 rfl (lv_at hl 0 rfl) ?_
  refine eg_RX11_29 hC hS h dX11_cut_1 (fun t_1 h => ?_)
  refine lv_iload_n hx hb dX11_cut_4 rfl (lv_at hl 1 rfl) ?_
  refine ez_cVpi (As := [.int x1]) (rest := []) h (fun _ q => c_X3_hasKey q) hC k_X3_hasKey ql_RX11_137 rfl (by decide) hS (fun _ q => ez_rcv q) rfl hl.1 rfl (Nat.le_of_ble_eq_true rfl) ⟨Nat.zero_le _, Nat.zero_le _⟩ dX11_cut_5 (fun t_5 H locs hS h => ?_)
  refine lv_if_eq (tgt := 22) hx hb dX11_cut_8 (by decide) (fun c_8 => ?_) (fun c_8 => ?_)
  · replace h := ez_ifp h c_8
    exact K_22   _ _ _ hS h (lv_sub hl [] rfl)
  · replace h := ez_ifn h c_8
    refine lv_aload_n hx hb dX11_cut_11 rfl (lv_at hl 0 rfl) ?_
    refine eg_RX11_37 hC hS h dX11_cut_12 (fun t_12 h => ?_)
    refine lv_iload_n hx hb dX11_cut_15 rfl (lv_at hl 2 rfl) ?_
    refine ez_cVpi (As := [.int x2]) (rest := []) h (fun _ q => c_X6_hasChamber q) hC k_X6_hasChamber ql_RX11_158 rfl (by decide) hS (fun _ q => ez_rcv q) rfl hl.1 rfl (Nat.le_of_ble_eq_true rfl) ⟨Nat.zero_le _, Nat.zero_le _⟩ dX11_cut_16 (fun t_16 H locs hS h => ?_)
    refine lv_if_ne (tgt := 24) hx hb dX11_cut_19 (by decide) (fun c_19 => ?_) (fun c_19 => ?_)
    · replace h := ez_ifn h c_19
      refine lv_aload_n hx hb dX11_cut_24 rfl (lv_at hl 0 rfl) ?_
      refine eg_RX11_37 hC hS h dX11_cut_25 (fun t_25 h => ?_)
      refine lv_aload_n hx hb dX11_cut_28 rfl (lv_at hl 0 rfl) ?_
      refine eg_RX11_41 hC hS h dX11_cut_29 (fun t_29 h => ?_)
      refine lv_iload_n hx hb dX11_cut_32 rfl (lv_at hl 1 rfl) ?_
      refine ez_cVpi (As := [.int x1]) (rest := [.ref (B + t_25)]) h (fun _ q => c_X7_bits q) hC k_X7_bits ql_RX11_140 rfl (by decide) hS (fun _ q => ez_rcv q) rfl hl.1 rfl (Nat.le_of_ble_eq_true rfl) ⟨Nat.zero_le _, Nat.zero_le _⟩ dX11_cut_33 (fun t_33 H locs hS h => ?_)
      refine lv_iload_n hx hb dX11_cut_36 rfl (lv_at hl 2 rfl) ?_
      refine ez_cVpi (As := [.int t_33, .int x2]) (rest := []) h (fun _ q => c_X6_depthAt q) hC k_X6_depthAt ql_RX11_161 rfl (by decide) hS (fun _ q => ez_rcv q) rfl hl.1 rfl (Nat.le_of_ble_eq_true rfl) ⟨Nat.zero_le _, Nat.zero_le _⟩ dX11_cut_37 (fun t_37 H locs hS h => ?_)
      exact hret _ _ _ _ _ (Option.some.inj h) rfl hS dX11_cut_40
    · replace h := ez_ifp h c_19
      exact K_22   _ _ _ hS h (lv_sub hl [] rfl)
set_option maxHeartbeats 4000000 in
set_option maxRecDepth 100000 in
theorem c_X11_cutFor {l : Launch} {X : ez_X} {B : Nat} {σ : ez_H} {h0 : Nat} {x1 : Int32} {x2 : Int32} {z : Int32 × ez_H} (h : z_X11_cutFor σ h0 x1 x2 = some z) : ez_M l X B σ yX11_cutFor cX11_cutFor 3 (some .int) 4 [.ref (B + h0), .int x1, .int x2] (some (.int z.1)) z.2 := by
  refine ez_starti (z := z) (by decide) (Nat.le_of_ble_eq_true rfl) (fun p e R s m args below meth c Q hC hret hS ls hl => ?_)
  have hC : ez_C p R s m args c X B RX11 cX11_cutFor 3 4 := hC
  have hx := hC.1.1
  have hb := hC.1.2.1
  have hown := hC.1.2.2.2.1
  have hts := hC.1.2.2.2.2
  have hl : lv_has ls 3 [(0, .ref (B + h0)), (1, .int x1), (2, .int x2)] := hl
  obtain ⟨σ0, eσ⟩ : ∃ σ0 : ez_H, σ0 = σ := ⟨_, rfl⟩
  rw [← eσ] at hret
  have hS : ez_S X B s.heap σ0.length σ s.heap [] := eσ ▸ hS
  obtain ⟨-, h⟩ := ez_in h
  have K_22 : ∀ (σ : ez_H) (H : Heap) (locs : List Loc) (ls : Array Slot), ez_S X B s.heap (σ0.length) σ H locs → z_X11_cutFor_22 σ = some z → lv_has ls 3 [] → W p l e R s m args below meth c H locs 0 0 Q (F0 m 22 ls []) := by
    intro σ H locs ls hS h hl
    refine lv_iconst (v := -1) hx hb dX11_cutFor_22 (by decide) ?_
    exact hret _ _ _ _ _ _ (Option.some.inj h) rfl hS dX11_cutFor_23
  refine lv_aload_n hx hb dX11_cutFor_0 rfl (lv_at hl 0 rfl) ?_
  refine eg_RX11_29 hC hS h dX11_cutFor_1 (fun t_1 h => ?_)
  refine lv_iload_n hx hb dX11_cutFor_4 rfl (lv_at hl 1 rfl) ?_
  refine ez_cVpi (As := [.int x1]) (rest := []) h (fun _ q => c_X3_hasLocks q) hC k_X3_hasLocks ql_RX11_322 rfl (by decide) hS (fun _ q => ez_rcv q) rfl hl.1 rfl (Nat.le_of_ble_eq_true rfl) ⟨Nat.zero_le _, Nat.zero_le _⟩ dX11_cutFor_5 (fun t_5 H locs hS h => ?_)
  refine lv_if_eq (tgt := 22) hx hb dX11_cutFor_8 (by decide) (fun c_8 => ?_) (fun c_8 => ?_)
  · replace h := ez_ifp h c_8
    exact K_22  σ _ _ _ hS h (lv_sub hl [] rfl)
  · replace h := ez_ifn h c_8
    refine lv_aload_n hx hb dX11_cutFor_11 rfl (lv_at hl 0 rfl) ?_
    refine eg_RX11_29 hC hS h dX11_cutFor_12 (fun t_12 h => ?_)
    refine lv_iload_n hx hb dX11_cutFor_15 rfl (lv_at hl 2 rfl) ?_
    refine ez_cVpi (As := [.int x2]) (rest := []) h (fun _ q => c_X3_hasLocks q) hC k_X3_hasLocks ql_RX11_322 rfl (by decide) hS (fun _ q => ez_rcv q) rfl hl.1 rfl (Nat.le_of_ble_eq_true rfl) ⟨Nat.zero_le _, Nat.zero_le _⟩ dX11_cutFor_16 (fun t_16 H locs hS h => ?_)
    refine lv_if_ne (tgt := 24) hx hb dX11_cutFor_19 (by decide) (fun c_19 => ?_) (fun c_19 => ?_)
    · replace h := ez_ifn h c_19
      refine lv_aload_n hx hb dX11_cutFor_24 rfl (lv_at hl 0 rfl) ?_
      refine eg_RX11_67 hC hS h dX11_cutFor_25 (fun t_25 h => ?_)
      refine lv_aload_n hx hb dX11_cutFor_28 rfl (lv_at hl 0 rfl) ?_
      refine eg_RX11_41 hC hS h dX11_cutFor_29 (fun t_29 h => ?_)
      refine ez_cVv (As := [.ref (B + t_29)]) (rest := []) h (fun _ q => c_X8_take q) hC k_X8_take ql_RX11_325 rfl (by decide) hS (fun _ q => ez_rcv q) rfl hl.1 rfl (Nat.le_of_ble_eq_true rfl) ⟨Nat.zero_le _, Nat.zero_le _⟩ dX11_cutFor_32 (fun _ σ H locs hS h => ?_)
      refine lv_aload_n hx hb dX11_cutFor_35 rfl (lv_at hl 0 rfl) ?_
      refine eg_RX11_67 hC hS h dX11_cutFor_36 (fun t_36 h => ?_)
      refine lv_iload_n hx hb dX11_cutFor_39 rfl (lv_at hl 1 rfl) ?_
      refine lv_iload_n hx hb dX11_cutFor_40 rfl (lv_at hl 2 rfl) ?_
      refine ez_cVpi (As := [.int x1, .int x2]) (rest := []) h (fun _ q => c_X8_leastNumber q) hC k_X8_leastNumber ql_RX11_331 rfl (by decide) hS (fun _ q => ez_rcv q) rfl hl.1 rfl (Nat.le_of_ble_eq_true rfl) ⟨Nat.zero_le _, Nat.zero_le _⟩ dX11_cutFor_41 (fun t_41 H locs hS h => ?_)
      exact hret _ _ _ _ _ _ (Option.some.inj h) rfl hS dX11_cutFor_44
    · replace h := ez_ifp h c_19
      exact K_22  σ _ _ _ hS h (lv_sub hl [] rfl)
set_option maxHeartbeats 4000000 in
set_option maxRecDepth 100000 in
theorem c_X3_hasDoor {l : Launch} {X : ez_X} {B : Nat} {σ : ez_H} {h0 : Nat} {x1 : Int32} {z : Int32} (h : z_X3_hasDoor σ h0 x1 = some z) : ez_M l X B σ yX3_hasDoor cX3_hasDoor 2 (some .boolean) 0 [.ref (B + h0), .int x1] (some (.int z)) σ := by
  refine ez_startip (z := z) (by decide) (Nat.le_of_ble_eq_true rfl) (fun p e R s m args below meth c Q hC hret hS ls hl => ?_)
  have hC : ez_C p R s m args c X B RX3 cX3_hasDoor 2 0 := hC
  have hx := hC.1.1
  have hb := hC.1.2.1
  have hown := hC.1.2.2.2.1
  have hts := hC.1.2.2.2.2
  have hl : lv_has ls 2 [(0, .ref (B + h0)), (1, .int x1)] := hl
  obtain ⟨n0, e0⟩ : ∃ n0 : Nat, n0 = σ.length := ⟨_, rfl⟩
  rw [← e0] at hret hS
  obtain ⟨-, h⟩ := ez_in h
  have K_17 : ∀ (y0 : Int32) (H : Heap) (locs : List Loc) (ls : Array Slot), ez_S X B s.heap (n0) σ H locs → z_X3_hasDoor_17 σ y0 = some z → lv_has ls 2 [] → W p l e R s m args below meth c H locs 0 0 Q (F0 m 17 ls [.int y0]) := by
    intro y0 H locs ls hS h hl
    obtain ⟨hn, h⟩ := ez_nr_sp rfl h
    exact hret _ _ _ _ _ (Option.some.inj h) hn hS dX3_hasDoor_17
  have K_16 : ∀ (H : Heap) (locs : List Loc) (ls : Array Slot), ez_S X B s.heap (n0) σ H locs → z_X3_hasDoor_16 σ = some z → lv_has ls 2 [] → W p l e R s m args below meth c H locs 0 0 Q (F0 m 16 ls []) := by
    intro  H locs ls hS h hl
    refine lv_iconst (v := 0) hx hb dX3_hasDoor_16 (by decide) ?_
    exact K_17  (0 : Int32) _ _ _ hS h (lv_sub hl [] rfl)
  refine lv_iload_n hx hb dX3_hasDoor_0 rfl (lv_at hl 1 rfl) ?_
  refine lv_if_lt (tgt := 16) hx hb dX3_hasDoor_1 (by decide) (fun c_1 => ?_) (fun c_1 => ?_)
  · replace h := ez_ifp h c_1
    exact K_16   _ _ _ hS h (lv_sub hl [] rfl)
  · replace h := ez_ifn h c_1
    refine lv_iload_n hx hb dX3_hasDoor_4 rfl (lv_at hl 1 rfl) ?_
    refine lv_aload_n hx hb dX3_hasDoor_5 rfl (lv_at hl 0 rfl) ?_
    refine eg_RX3_65 hC hS h dX3_hasDoor_6 (fun t_6 h => ?_)
    refine lv_icmp_ge (tgt := 16) hx hb dX3_hasDoor_9 (by decide) (fun c_9 => ?_) (fun c_9 => ?_)
    · replace h := ez_ifp h c_9
      exact K_16   _ _ _ hS h (lv_sub hl [] rfl)
    · replace h := ez_ifn h c_9
      refine lv_iconst (v := 1) hx hb dX3_hasDoor_12 (by decide) ?_
      refine lv_goto (tgt := 17) hx hb dX3_hasDoor_13 (by decide) ?_
      exact K_17  (1 : Int32) _ _ _ hS h (lv_sub hl [] rfl)
