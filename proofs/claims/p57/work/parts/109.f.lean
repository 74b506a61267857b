set_option maxHeartbeats 4000000 in
set_option maxRecDepth 100000 in
theorem c_X11_lock {l : Launch} {X : ez_X} {B : Nat} {σ : ez_H} {h0 : Nat} {x1 : Int32} {x2 : Int32} {z : Int32} (h : z_X11_lock σ h0 x1 x2 = some z) : ez_M l X B σ yX11_lock cX11_lock 3 (some .int) 3 [.ref (B + h0), .int x1, .int x2] (some (.int z)) σ := by
  refine ez_startip (z := z) (by decide) (Nat.le_of_ble_eq_true rfl) (fun p e R s m args below meth c Q hC hret hS ls hl => ?_)
  have hC : ez_C p R s m args c X B RX11 cX11_lock 3 3 := hC
  have hx := hC.1.1
  have hb := hC.1.2.1
  have hown := hC.1.2.2.2.1
  have hts := hC.1.2.2.2.2
  have hl : lv_has ls 3 [(0, .ref (B + h0)), (1, .int x1), (2, .int x2)] := hl
  obtain ⟨n0, e0⟩ : ∃ n0 : Nat, n0 = σ.length := ⟨_, rfl⟩
  rw [← e0] at hret hS
  obtain ⟨-, h⟩ := ez_in h
  refine lv_aload_n hx hb dX11_lock_0 rfl (lv_at hl 0 rfl) ?_
  refine eg_RX11_29 hC hS h dX11_lock_1 (fun t_1 h => ?_)
  refine lv_iload_n hx hb dX11_lock_4 rfl (lv_at hl 1 rfl) ?_
  refine ez_cVpi (As := [.int x1]) (rest := []) h (fun _ q => c_X3_hasLock q) hC k_X3_hasLock ql_RX11_165 rfl (by decide) hS (fun _ q => ez_rcv q) rfl hl.1 rfl (Nat.le_of_ble_eq_true rfl) ⟨Nat.zero_le _, Nat.zero_le _⟩ dX11_lock_5 (fun t_5 H locs hS h => ?_)
  refine lv_if_ne (tgt := 13) hx hb dX11_lock_8 (by decide) (fun c_8 => ?_) (fun c_8 => ?_)
  · replace h := ez_ifn h c_8
    refine lv_iload_n hx hb dX11_lock_13 rfl (lv_at hl 2 rfl) ?_
    by_cases s_14_0 : x2 = 0
    · replace h := ez_ifp h s_14_0
      refine lv_tableIn (tgt := 44) hx hb dX11_lock_14 (by rw [s_14_0]; decide) (by rw [s_14_0]; decide) (by first | (rw [s_14_0]; done) | (rw [s_14_0]; rfl)) (by decide) ?_
      refine lv_aload_n hx hb dX11_lock_44 rfl (lv_at hl 0 rfl) ?_
      refine eg_RX11_41 hC hS h dX11_lock_45 (fun t_45 h => ?_)
      refine lv_iload_n hx hb dX11_lock_48 rfl (lv_at hl 1 rfl) ?_
      refine ez_cVpi (As := [.int x1]) (rest := []) h (fun _ q => c_X7_pins q) hC k_X7_pins ql_RX11_168 rfl (by decide) hS (fun _ q => ez_rcv q) rfl hl.1 rfl (Nat.le_of_ble_eq_true rfl) ⟨Nat.zero_le _, Nat.zero_le _⟩ dX11_lock_49 (fun t_49 H locs hS h => ?_)
      refine ez_cSpi (As := [.int t_49]) (rest := []) h (fun _ q => c_J6_bitCount_0f7a4 q) hC k_J6_bitCount_0f7a4 ql_RX11_171 rfl (by decide) hS hl.1 rfl (Nat.le_of_ble_eq_true rfl) ⟨Nat.zero_le _, Nat.zero_le _⟩ dX11_lock_52 (fun t_52 H locs hS h => ?_)
      exact hret _ _ _ _ _ (Option.some.inj h) rfl hS dX11_lock_55
    replace h := ez_ifn h s_14_0
    by_cases s_14_1 : x2 = 1
    · replace h := ez_ifp h s_14_1
      refine lv_tableIn (tgt := 56) hx hb dX11_lock_14 (by rw [s_14_1]; decide) (by rw [s_14_1]; decide) (by first | (rw [s_14_1]; done) | (rw [s_14_1]; rfl)) (by decide) ?_
      refine lv_aload_n hx hb dX11_lock_56 rfl (lv_at hl 0 rfl) ?_
      refine eg_RX11_79 hC hS h dX11_lock_57 (fun t_57 h => ?_)
      refine lv_iload_n hx hb dX11_lock_60 rfl (lv_at hl 1 rfl) ?_
      refine ez_cVpi (As := [.int x1]) (rest := []) h (fun _ q => c_X2_keysFor q) hC k_X2_keysFor ql_RX11_176 rfl (by decide) hS (fun _ q => ez_rcv q) rfl hl.1 rfl (Nat.le_of_ble_eq_true rfl) ⟨Nat.zero_le _, Nat.zero_le _⟩ dX11_lock_61 (fun t_61 H locs hS h => ?_)
      exact hret _ _ _ _ _ (Option.some.inj h) rfl hS dX11_lock_64
    replace h := ez_ifn h s_14_1
    by_cases s_14_2 : x2 = 2
    · replace h := ez_ifp h s_14_2
      refine lv_tableIn (tgt := 65) hx hb dX11_lock_14 (by rw [s_14_2]; decide) (by rw [s_14_2]; decide) (by first | (rw [s_14_2]; done) | (rw [s_14_2]; rfl)) (by decide) ?_
      refine lv_aload_n hx hb dX11_lock_65 rfl (lv_at hl 0 rfl) ?_
      refine eg_RX11_29 hC hS h dX11_lock_66 (fun t_66 h => ?_)
      refine lv_iload_n hx hb dX11_lock_69 rfl (lv_at hl 1 rfl) ?_
      refine ez_cVpi (As := [.int x1]) (rest := []) h (fun _ q => c_X3_mustOf q) hC k_X3_mustOf ql_RX11_179 rfl (by decide) hS (fun _ q => ez_rcv q) rfl hl.1 rfl (Nat.le_of_ble_eq_true rfl) ⟨Nat.zero_le _, Nat.zero_le _⟩ dX11_lock_70 (fun t_70 H locs hS h => ?_)
      exact hret _ _ _ _ _ (Option.some.inj h) rfl hS dX11_lock_73
    replace h := ez_ifn h s_14_2
    by_cases s_14_3 : x2 = 3
    · replace h := ez_ifp h s_14_3
      refine lv_tableIn (tgt := 74) hx hb dX11_lock_14 (by rw [s_14_3]; decide) (by rw [s_14_3]; decide) (by first | (rw [s_14_3]; done) | (rw [s_14_3]; rfl)) (by decide) ?_
      refine lv_aload_n hx hb dX11_lock_74 rfl (lv_at hl 0 rfl) ?_
      refine eg_RX11_29 hC hS h dX11_lock_75 (fun t_75 h => ?_)
      refine lv_iload_n hx hb dX11_lock_78 rfl (lv_at hl 1 rfl) ?_
      refine ez_cVpi (As := [.int x1]) (rest := []) h (fun _ q => c_X3_neverOf q) hC k_X3_neverOf ql_RX11_182 rfl (by decide) hS (fun _ q => ez_rcv q) rfl hl.1 rfl (Nat.le_of_ble_eq_true rfl) ⟨Nat.zero_le _, Nat.zero_le _⟩ dX11_lock_79 (fun t_79 H locs hS h => ?_)
      exact hret _ _ _ _ _ (Option.some.inj h) rfl hS dX11_lock_82
    replace h := ez_ifn h s_14_3
    have w_14 : Int32.toInt x2 < 0 ∨ 3 < Int32.toInt x2 := by
      have q_0 := ez_toNe (k := 0) s_14_0 (by decide)
      have q_1 := ez_toNe (k := 1) s_14_1 (by decide)
      have q_2 := ez_toNe (k := 2) s_14_2 (by decide)
      have q_3 := ez_toNe (k := 3) s_14_3 (by decide)
      omega
    refine lv_tableOut (tgt := 83) hx hb dX11_lock_14 w_14 (by decide) ?_
    refine lv_iconst (v := -1) hx hb dX11_lock_83 (by decide) ?_
    exact hret _ _ _ _ _ (Option.some.inj h) rfl hS dX11_lock_84
  · replace h := ez_ifp h c_8
    refine lv_iconst (v := -1) hx hb dX11_lock_11 (by decide) ?_
    exact hret _ _ _ _ _ (Option.some.inj h) rfl hS dX11_lock_12
set_option maxHeartbeats 4000000 in
set_option maxRecDepth 100000 in
theorem c_X11_lose {l : Launch} {X : ez_X} {B : Nat} {σ : ez_H} {h0 : Nat} {x1 : Int32} {z : Int32 × ez_H} (h : z_X11_lose σ h0 x1 = some z) : ez_M l X B σ yX11_lose cX11_lose 2 (some .int) 4 [.ref (B + h0), .int x1] (some (.int z.1)) z.2 := by
  refine ez_starti (z := z) (by decide) (Nat.le_of_ble_eq_true rfl) (fun p e R s m args below meth c Q hC hret hS ls hl => ?_)
  have hC : ez_C p R s m args c X B RX11 cX11_lose 2 4 := hC
  have hx := hC.1.1
  have hb := hC.1.2.1
  have hown := hC.1.2.2.2.1
  have hts := hC.1.2.2.2.2
  have hl : lv_has ls 2 [(0, .ref (B + h0)), (1, .int x1)] := hl
  obtain ⟨σ0, eσ⟩ : ∃ σ0 : ez_H, σ0 = σ := ⟨_, rfl⟩
  rw [← eσ] at hret
  have hS : ez_S X B s.heap σ0.length σ s.heap [] := eσ ▸ hS
  obtain ⟨-, h⟩ := ez_in h
  have K_24 : ∀ (σ : ez_H) (H : Heap) (locs : List Loc) (ls : Array Slot), ez_S X B s.heap (σ0.length) σ H locs → z_X11_lose_24 σ = some z → lv_has ls 2 [] → W p l e R s m args below meth c H locs 0 0 Q (F0 m 24 ls []) := by
    intro σ H locs ls hS h hl
    refine lv_bipush (v := -3) hx hb dX11_lose_24 (by decide) ?_
    exact hret _ _ _ _ _ _ (Option.some.inj h) rfl hS dX11_lose_26
  refine lv_aload_n hx hb dX11_lose_0 rfl (lv_at hl 0 rfl) ?_
  refine eg_RX11_29 hC hS h dX11_lose_1 (fun t_1 h => ?_)
  refine lv_iload_n hx hb dX11_lose_4 rfl (lv_at hl 1 rfl) ?_
  refine ez_cVpi (As := [.int x1]) (rest := []) h (fun _ q => c_X3_hasKey q) hC k_X3_hasKey ql_RX11_137 rfl (by decide) hS (fun _ q => ez_rcv q) rfl hl.1 rfl (Nat.le_of_ble_eq_true rfl) ⟨Nat.zero_le _, Nat.zero_le _⟩ dX11_lose_5 (fun t_5 H locs hS h => ?_)
  refine lv_if_eq (tgt := 24) hx hb dX11_lose_8 (by decide) (fun c_8 => ?_) (fun c_8 => ?_)
  · replace h := ez_ifp h c_8
    exact K_24  σ _ _ _ hS h (lv_sub hl [] rfl)
  · replace h := ez_ifn h c_8
    refine lv_aload_n hx hb dX11_lose_11 rfl (lv_at hl 0 rfl) ?_
    refine eg_RX11_41 hC hS h dX11_lose_12 (fun t_12 h => ?_)
    refine lv_iload_n hx hb dX11_lose_15 rfl (lv_at hl 1 rfl) ?_
    refine ez_cVpi (As := [.int x1]) (rest := []) h (fun _ q => c_X7_holder q) hC k_X7_holder ql_RX11_152 rfl (by decide) hS (fun _ q => ez_rcv q) rfl hl.1 rfl (Nat.le_of_ble_eq_true rfl) ⟨Nat.zero_le _, Nat.zero_le _⟩ dX11_lose_16 (fun t_16 H locs hS h => ?_)
    refine lv_bipush (v := -2) hx hb dX11_lose_19 (by decide) ?_
    refine lv_icmp_ne (tgt := 27) hx hb dX11_lose_21 (by decide) (fun c_21 => ?_) (fun c_21 => ?_)
    · replace h := ez_ifn h c_21
      refine lv_aload_n hx hb dX11_lose_27 rfl (lv_at hl 0 rfl) ?_
      refine lv_iload_n hx hb dX11_lose_28 rfl (lv_at hl 1 rfl) ?_
      refine lv_bipush (v := -2) hx hb dX11_lose_29 (by decide) ?_
      refine ez_cVi (As := [.int x1, .int (-2)]) (rest := []) h (fun _ q => c_X11_handOver q) hC k_X11_handOver ql_RX11_273 rfl (by decide) hS (fun _ q => ez_rcv q) rfl hl.1 rfl (Nat.le_of_ble_eq_true rfl) ⟨Nat.zero_le _, Nat.zero_le _⟩ dX11_lose_31 (fun t_31 σ H locs hS h => ?_)
      exact hret _ _ _ _ _ _ (Option.some.inj h) rfl hS dX11_lose_34
    · replace h := ez_ifp h c_21
      exact K_24  σ _ _ _ hS h (lv_sub hl [] rfl)
set_option maxHeartbeats 4000000 in
set_option maxRecDepth 100000 in
theorem c_X8_isBetter {l : Launch} {X : ez_X} {B : Nat} {σ : ez_H} {h0 : Nat} {x1 : Int32} {x2 : Int32} {z : Int32} (h : z_X8_isBetter σ h0 x1 x2 = some z) : ez_M l X B σ yX8_isBetter cX8_isBetter 4 (some .boolean) 1 [.ref (B + h0), .int x1, .int x2] (some (.int z)) σ := by
  refine ez_startip (z := z) (by decide) (Nat.le_of_ble_eq_true rfl) (fun p e R s m args below meth c Q hC hret hS ls hl => ?_)
  have hC : ez_C p R s m args c X B RX8 cX8_isBetter 4 1 := hC
  have hx := hC.1.1
  have hb := hC.1.2.1
  have hown := hC.1.2.2.2.1
  have hts := hC.1.2.2.2.2
  have hl : lv_has ls 4 [(0, .ref (B + h0)), (1, .int x1), (2, .int x2)] := hl
  obtain ⟨n0, e0⟩ : ∃ n0 : Nat, n0 = σ.length := ⟨_, rfl⟩
  rw [← e0] at hret hS
  obtain ⟨-, h⟩ := ez_in h
  have K_38 : ∀ (y0 : Int32) (H : Heap) (locs : List Loc) (ls : Array Slot), ez_S X B s.heap (n0) σ H locs → z_X8_isBetter_38 σ y0 = some z → lv_has ls 4 [] → W p l e R s m args below meth c H locs 0 0 Q (F0 m 38 ls [.int y0]) := by
    intro y0 H locs ls hS h hl
    obtain ⟨hn, h⟩ := ez_nr_sp rfl h
    exact hret _ _ _ _ _ (Option.some.inj h) hn hS dX8_isBetter_38
  have K_33 : ∀ (H : Heap) (locs : List Loc) (ls : Array Slot), ez_S X B s.heap (n0) σ H locs → z_X8_isBetter_33 σ = some z → lv_has ls 4 [] → W p l e R s m args below meth c H locs 0 0 Q (F0 m 33 ls []) := by
    intro  H locs ls hS h hl
    refine lv_iconst (v := 1) hx hb dX8_isBetter_33 (by decide) ?_
    refine lv_goto (tgt := 38) hx hb dX8_isBetter_34 (by decide) ?_
    exact K_38  (1 : Int32) _ _ _ hS h (lv_sub hl [] rfl)
  have K_37 : ∀ (H : Heap) (locs : List Loc) (ls : Array Slot), ez_S X B s.heap (n0) σ H locs → z_X8_isBetter_37 σ = some z → lv_has ls 4 [] → W p l e R s m args below meth c H locs 0 0 Q (F0 m 37 ls []) := by
    intro  H locs ls hS h hl
    refine lv_iconst (v := 0) hx hb dX8_isBetter_37 (by decide) ?_
    exact K_38  (0 : Int32) _ _ _ hS h (lv_sub hl [] rfl)
  refine lv_iload_n hx hb dX8_isBetter_0 rfl (lv_at hl 1 rfl) ?_
  refine ez_cSpi (As := [.int x1]) (rest := []) h (fun _ q => c_J6_bitCount_0f7a4 q) hC k_J6_bitCount_0f7a4 ql_RX8_130 rfl (by decide) hS hl.1 rfl (Nat.le_of_ble_eq_true rfl) ⟨Nat.zero_le _, Nat.zero_le _⟩ dX8_isBetter_1 (fun t_1 H locs hS h => ?_)
  refine lv_iload_n hx hb dX8_isBetter_4 rfl (lv_at hl 2 rfl) ?_
  refine ez_cSpi (As := [.int x2]) (rest := [.int t_1]) h (fun _ q => c_J6_bitCount_0f7a4 q) hC k_J6_bitCount_0f7a4 ql_RX8_130 rfl (by decide) hS hl.1 rfl (Nat.le_of_ble_eq_true rfl) ⟨Nat.zero_le _, Nat.zero_le _⟩ dX8_isBetter_5 (fun t_5 H locs hS h => ?_)
  refine lv_isub hx hb dX8_isBetter_8 ?_
  refine ez_top h (fun t_8 h => ?_)
  refine lv_istore_n (lv' := [(3, .int t_8), (0, .ref (B + h0)), (1, .int x1), (2, .int x2)]) hx hb dX8_isBetter_9 rfl hl (by decide) rfl (fun ls hl => ?_)
  refine lv_iload_n hx hb dX8_isBetter_10 rfl (lv_at hl 0 rfl) ?_
  refine lv_if_gt (tgt := 33) hx hb dX8_isBetter_11 (by decide) (fun c_11 => ?_) (fun c_11 => ?_)
  · replace h := ez_ifp h c_11
    exact K_33   _ _ _ hS h (lv_sub hl [] rfl)
  · replace h := ez_ifn h c_11
    refine lv_iload_n hx hb dX8_isBetter_14 rfl (lv_at hl 0 rfl) ?_
    refine lv_if_ne (tgt := 37) hx hb dX8_isBetter_15 (by decide) (fun c_15 => ?_) (fun c_15 => ?_)
    · replace h := ez_ifn h c_15
      exact K_37   _ _ _ hS h (lv_sub hl [] rfl)
    · replace h := ez_ifp h c_15
      refine lv_aload_n hx hb dX8_isBetter_18 rfl (lv_at hl 1 rfl) ?_
      refine eg_RX8_50 hC hS h dX8_isBetter_19 (fun t_19 h => ?_)
      refine lv_iload_n hx hb dX8_isBetter_22 rfl (lv_at hl 2 rfl) ?_
      refine ez_ial hC hS h dX8_isBetter_23 (fun t_23 h => ?_)
      refine lv_aload_n hx hb dX8_isBetter_24 rfl (lv_at hl 1 rfl) ?_
      refine eg_RX8_50 hC hS h dX8_isBetter_25 (fun t_25 h => ?_)
      refine lv_iload_n hx hb dX8_isBetter_28 rfl (lv_at hl 3 rfl) ?_
      refine ez_ial hC hS h dX8_isBetter_29 (fun t_29 h => ?_)
      refine lv_icmp_ge (tgt := 37) hx hb dX8_isBetter_30 (by decide) (fun c_30 => ?_) (fun c_30 => ?_)
      · replace h := ez_ifp h c_30
        exact K_37   _ _ _ hS h (lv_sub hl [] rfl)
      · replace h := ez_ifn h c_30
        exact K_33   _ _ _ hS h (lv_sub hl [] rfl)
set_option maxHeartbeats 4000000 in
set_option maxRecDepth 100000 in
theorem c_X8_masterLocks {l : Launch} {X : ez_X} {B : Nat} {σ : ez_H} {h0 : Nat} {z : Int32} (h : z_X8_masterLocks σ h0 = some z) : ez_M l X B σ yX8_masterLocks cX8_masterLocks 3 (some .int) 2 [.ref (B + h0)] (some (.int z)) σ := by
  refine ez_startip (z := z) (by decide) (Nat.le_of_ble_eq_true rfl) (fun p e R s m args below meth c Q hC hret hS ls hl => ?_)
  have hC : ez_C p R s m args c X B RX8 cX8_masterLocks 3 2 := hC
  have hx := hC.1.1
  have hb := hC.1.2.1
  have hown := hC.1.2.2.2.1
  have hts := hC.1.2.2.2.2
  have hl : lv_has ls 3 [(0, .ref (B + h0))] := hl
  obtain ⟨n0, e0⟩ : ∃ n0 : Nat, n0 = σ.length := ⟨_, rfl⟩
  rw [← e0] at hret hS
  obtain ⟨-, h⟩ := ez_in h
  have K_36 : ∀ (k_4 : Nat → Int32 → Int32 → Option (Int32)) (hk_4 : ∀ (h0 : Nat) (x1 : Int32) (x2 : Int32) (H : Heap) (locs : List Loc) (ls : Array Slot), ez_S X B s.heap (n0) σ H locs → k_4 h0 x1 x2 = some z → lv_has ls 3 [(0, .ref (B + h0)), (1, .int x1), (2, .int x2)] → W p l e R s m args below meth c H locs 0 0 Q (F0 m 4 ls [])), ∀ (h0 : Nat) (x1 : Int32) (x2 : Int32) (H : Heap) (locs : List Loc) (ls : Array Slot), ez_S X B s.heap (n0) σ H locs → z_X8_masterLocks_36 σ k_4 h0 x1 x2 = some z → lv_has ls 3 [(0, .ref (B + h0)), (1, .int x1), (2, .int x2)] → W p l e R s m args below meth c H locs 0 0 Q (F0 m 36 ls []) := by
    intro k_4 hk_4 h0 x1 x2 H locs ls hS h hl
    obtain ⟨t_36, e_36, h⟩ := ez_let_sp h
    refine lv_iinc (v := t_36) (lv' := [(2, .int t_36), (0, .ref (B + h0)), (1, .int x1)]) hx hb dX8_masterLocks_36 hl (k := 2) rfl (by rw [e_36]; rfl) (by decide) rfl (fun ls hl => ?_)
    refine lv_goto (tgt := 4) hx hb dX8_masterLocks_39 (by decide) ?_
    exact hk_4 h0 x1 t_36 _ _ _ hS h (lv_sub hl [1, 2, 0] rfl)
  have K_34 : ∀ (k_4 : Nat → Int32 → Int32 → Option (Int32)) (hk_4 : ∀ (h0 : Nat) (x1 : Int32) (x2 : Int32) (H : Heap) (locs : List Loc) (ls : Array Slot), ez_S X B s.heap (n0) σ H locs → k_4 h0 x1 x2 = some z → lv_has ls 3 [(0, .ref (B + h0)), (1, .int x1), (2, .int x2)] → W p l e R s m args below meth c H locs 0 0 Q (F0 m 4 ls [])), ∀ (h0 : Nat) (x2 : Int32) (H : Heap) (locs : List Loc) (ls : Array Slot), ez_S X B s.heap (n0) σ H locs → z_X8_masterLocks_34 σ k_4 h0 x2 = some z → lv_has ls 3 [(0, .ref (B + h0)), (2, .int x2)] → W p l e R s m args below meth c H locs 0 0 Q (F0 m 34 ls []) := by
    intro k_4 hk_4 h0 x2 H locs ls hS h hl
    refine lv_iload_n hx hb dX8_masterLocks_34 rfl (lv_at hl 1 rfl) ?_
    refine lv_istore_n (lv' := [(1, .int x2), (0, .ref (B + h0)), (2, .int x2)]) hx hb dX8_masterLocks_35 rfl hl (by decide) rfl (fun ls hl => ?_)
    exact K_36 k_4 hk_4 h0 x2 x2 _ _ _ hS h (lv_sub hl [1, 0, 2] rfl)
  have K_4 : ∀ (k_4 : Nat → Int32 → Int32 → Option (Int32)) (hk_4 : ∀ (h0 : Nat) (x1 : Int32) (x2 : Int32) (H : Heap) (locs : List Loc) (ls : Array Slot), ez_S X B s.heap (n0) σ H locs → k_4 h0 x1 x2 = some z → lv_has ls 3 [(0, .ref (B + h0)), (1, .int x1), (2, .int x2)] → W p l e R s m args below meth c H locs 0 0 Q (F0 m 4 ls [])), ∀ (h0 : Nat) (x1 : Int32) (x2 : Int32) (H : Heap) (locs : List Loc) (ls : Array Slot), ez_S X B s.heap (n0) σ H locs → z_X8_masterLocks_4 σ k_4 h0 x1 x2 = some z → lv_has ls 3 [(0, .ref (B + h0)), (1, .int x1), (2, .int x2)] → W p l e R s m args below meth c H locs 0 0 Q (F0 m 4 ls []) := by
    intro k_4 hk_4 h0 x1 x2 H locs ls hS h hl
    refine lv_iload_n hx hb dX8_masterLocks_4 rfl (lv_at hl 2 rfl) ?_
    refine lv_bipush (v := 64) hx hb dX8_masterLocks_5 (by decide) ?_
    refine lv_icmp_ge (tgt := 42) hx hb dX8_masterLocks_7 (by decide) (fun c_7 => ?_) (fun c_7 => ?_)
    · replace h := ez_ifp h c_7
      refine lv_iconst (v := 0) hx hb dX8_masterLocks_42 (by decide) ?_
      refine lv_iload_n hx hb dX8_masterLocks_43 rfl (lv_at hl 1 rfl) ?_
      refine va_mmax hx hb (hC.1.2.2.1.trans hl.1.symm) hown (hts _ ql_RX8_127) (hts _ qm_max_s) (hts _ qm_i) (hts _ qm_max_c) (Nat.le_trans (by decide) hC.2.2.1) (Nat.le_trans (Nat.le_of_ble_eq_true rfl) hC.2.2.2.1) (Nat.zero_le _) (Nat.zero_le _) dX8_masterLocks_44 ?_
      refine ez_top h (fun t_44 h => ?_)
      exact hret _ _ _ _ _ (Option.some.inj h) rfl hS dX8_masterLocks_47
    · replace h := ez_ifn h c_7
      refine lv_aload_n hx hb dX8_masterLocks_10 rfl (lv_at hl 0 rfl) ?_
      refine lv_iload_n hx hb dX8_masterLocks_11 rfl (lv_at hl 2 rfl) ?_
      refine lv_iconst (v := 0) hx hb dX8_masterLocks_12 (by decide) ?_
      refine lv_iconst (v := 0) hx hb dX8_masterLocks_13 (by decide) ?_
      refine ez_cVpi (As := [.int x2, .int 0, .int 0]) (rest := []) h (fun _ q => c_X8_isSuch q) hC k_X8_isSuch ql_RX8_120 rfl (by decide) hS (fun _ q => ez_rcv q) rfl hl.1 rfl (Nat.le_of_ble_eq_true rfl) ⟨Nat.zero_le _, Nat.zero_le _⟩ dX8_masterLocks_14 (fun t_14 H locs hS h => ?_)
      refine lv_if_eq (tgt := 36) hx hb dX8_masterLocks_17 (by decide) (fun c_17 => ?_) (fun c_17 => ?_)
      · replace h := ez_ifp h c_17
        exact K_36 k_4 hk_4 h0 x1 x2 _ _ _ hS h (lv_sub hl [0, 1, 2] rfl)
      · replace h := ez_ifn h c_17
        refine lv_iload_n hx hb dX8_masterLocks_20 rfl (lv_at hl 1 rfl) ?_
        refine lv_iconst (v := -1) hx hb dX8_masterLocks_21 (by decide) ?_
        refine lv_icmp_eq (tgt := 34) hx hb dX8_masterLocks_22 (by decide) (fun c_22 => ?_) (fun c_22 => ?_)
        · replace h := ez_ifp h c_22
          exact K_34 k_4 hk_4 h0 x2 _ _ _ hS h (lv_sub hl [0, 2] rfl)
        · replace h := ez_ifn h c_22
          refine lv_aload_n hx hb dX8_masterLocks_25 rfl (lv_at hl 0 rfl) ?_
          refine lv_iload_n hx hb dX8_masterLocks_26 rfl (lv_at hl 2 rfl) ?_
          refine lv_iload_n hx hb dX8_masterLocks_27 rfl (lv_at hl 1 rfl) ?_
          refine ez_cVpi (As := [.int x2, .int x1]) (rest := []) h (fun _ q => c_X8_isBetter q) hC k_X8_isBetter ql_RX8_124 rfl (by decide) hS (fun _ q => ez_rcv q) rfl hl.1 rfl (Nat.le_of_ble_eq_true rfl) ⟨Nat.zero_le _, Nat.zero_le _⟩ dX8_masterLocks_28 (fun t_28 H locs hS h => ?_)
          refine lv_if_eq (tgt := 36) hx hb dX8_masterLocks_31 (by decide) (fun c_31 => ?_) (fun c_31 => ?_)
          · replace h := ez_ifp h c_31
            exact K_36 k_4 hk_4 h0 x1 x2 _ _ _ hS h (lv_sub hl [0, 1, 2] rfl)
          · replace h := ez_ifn h c_31
            exact K_34 k_4 hk_4 h0 x2 _ _ _ hS h (lv_sub hl [0, 2] rfl)
  have E_4 : ∀ (h0 : Nat) (x1 : Int32) (x2 : Int32) (H : Heap) (locs : List Loc) (ls : Array Slot), ez_S X B s.heap (n0) σ H locs → (ez_fix (fun _ _ _ => none) (z_X8_masterLocks_4 σ) ez_N) h0 x1 x2 = some z → lv_has ls 3 [(0, .ref (B + h0)), (1, .int x1), (2, .int x2)] → W p l e R s m args below meth c H locs 0 0 Q (F0 m 4 ls []) := ez_fix_ind (fun k_4 : Nat → Int32 → Int32 → Option (Int32) => ∀ (h0 : Nat) (x1 : Int32) (x2 : Int32) (H : Heap) (locs : List Loc) (ls : Array Slot), ez_S X B s.heap (n0) σ H locs → k_4 h0 x1 x2 = some z → lv_has ls 3 [(0, .ref (B + h0)), (1, .int x1), (2, .int x2)] → W p l e R s m args below meth c H locs 0 0 Q (F0 m 4 ls [])) (fun _ _ _ _ _ _ _ h _ => by cases h) (fun k_4 hk_4 => K_4 k_4 hk_4) ez_N
  refine lv_iconst (v := -1) hx hb dX8_masterLocks_0 (by decide) ?_
  refine lv_istore_n (lv' := [(1, .int (-1)), (0, .ref (B + h0))]) hx hb dX8_masterLocks_1 rfl hl (by decide) rfl (fun ls hl => ?_)
  refine lv_iconst (v := 0) hx hb dX8_masterLocks_2 (by decide) ?_
  refine lv_istore_n (lv' := [(2, .int 0), (1, .int (-1)), (0, .ref (B + h0))]) hx hb dX8_masterLocks_3 rfl hl (by decide) rfl (fun ls hl => ?_)
  exact E_4  h0 (-1 : Int32) (0 : Int32) _ _ _ hS h (lv_sub hl [2, 1, 0] rfl)
set_option maxHeartbeats 4000000 in
set_option maxRecDepth 100000 in
theorem c_X11_master {l : Launch} {X : ez_X} {B : Nat} {σ : ez_H} {h0 : Nat} {x1 : Int32} {z : Int32 × ez_H} (h : z_X11_master σ h0 x1 = some z) : ez_M l X B σ yX11_master cX11_master 3 (some .int) 4 [.ref (B + h0), .int x1] (some (.int z.1)) z.2 := by
  refine ez_starti (z := z) (by decide) (Nat.le_of_ble_eq_true rfl) (fun p e R s m args below meth c Q hC hret hS ls hl => ?_)
  have hC : ez_C p R s m args c X B RX11 cX11_master 3 4 := hC
  have hx := hC.1.1
  have hb := hC.1.2.1
  have hown := hC.1.2.2.2.1
  have hts := hC.1.2.2.2.2
  have hl : lv_has ls 3 [(0, .ref (B + h0)), (1, .int x1)] := hl
  obtain ⟨σ0, eσ⟩ : ∃ σ0 : ez_H, σ0 = σ := ⟨_, rfl⟩
  rw [← eσ] at hret
  have hS : ez_S X B s.heap σ0.length σ s.heap [] := eσ ▸ hS
  obtain ⟨-, h⟩ := ez_in h
  refine lv_aload_n hx hb dX11_master_0 rfl (lv_at hl 0 rfl) ?_
  refine eg_RX11_67 hC hS h dX11_master_1 (fun t_1 h => ?_)
  refine lv_aload_n hx hb dX11_master_4 rfl (lv_at hl 0 rfl) ?_
  refine eg_RX11_41 hC hS h dX11_master_5 (fun t_5 h => ?_)
  refine ez_cVv (As := [.ref (B + t_5)]) (rest := []) h (fun _ q => c_X8_take q) hC k_X8_take ql_RX11_325 rfl (by decide) hS (fun _ q => ez_rcv q) rfl hl.1 rfl (Nat.le_of_ble_eq_true rfl) ⟨Nat.zero_le _, Nat.zero_le _⟩ dX11_master_8 (fun _ σ H locs hS h => ?_)
  refine lv_aload_n hx hb dX11_master_11 rfl (lv_at hl 0 rfl) ?_
  refine eg_RX11_67 hC hS h dX11_master_12 (fun t_12 h => ?_)
  refine ez_cVpi (As := []) (rest := []) h (fun _ q => c_X8_masterLocks q) hC k_X8_masterLocks ql_RX11_334 rfl (by decide) hS (fun _ q => ez_rcv q) rfl hl.1 rfl (Nat.le_of_ble_eq_true rfl) ⟨Nat.zero_le _, Nat.zero_le _⟩ dX11_master_15 (fun t_15 H locs hS h => ?_)
  refine lv_istore_n (lv' := [(2, .int t_15), (0, .ref (B + h0)), (1, .int x1)]) hx hb dX11_master_18 rfl hl (by decide) rfl (fun ls hl => ?_)
  refine lv_iload_n hx hb dX11_master_19 rfl (lv_at hl 2 rfl) ?_
  by_cases s_20_0 : x1 = 0
  · replace h := ez_ifp h s_20_0
    refine lv_tableIn (tgt := 48) hx hb dX11_master_20 (by rw [s_20_0]; decide) (by rw [s_20_0]; decide) (by first | (rw [s_20_0]; done) | (rw [s_20_0]; rfl)) (by decide) ?_
    refine lv_aload_n hx hb dX11_master_48 rfl (lv_at hl 1 rfl) ?_
    refine eg_RX11_67 hC hS h dX11_master_49 (fun t_49 h => ?_)
    refine lv_iload_n hx hb dX11_master_52 rfl (lv_at hl 0 rfl) ?_
    refine lv_iconst (v := 0) hx hb dX11_master_53 (by decide) ?_
    refine ez_cVpi (As := [.int t_15, .int 0]) (rest := []) h (fun _ q => c_X8_leastNumber q) hC k_X8_leastNumber ql_RX11_331 rfl (by decide) hS (fun _ q => ez_rcv q) rfl hl.1 rfl (Nat.le_of_ble_eq_true rfl) ⟨Nat.zero_le _, Nat.zero_le _⟩ dX11_master_54 (fun t_54 H locs hS h => ?_)
    exact hret _ _ _ _ _ _ (Option.some.inj h) rfl hS dX11_master_57
  replace h := ez_ifn h s_20_0
  by_cases s_20_1 : x1 = 1
  · replace h := ez_ifp h s_20_1
    refine lv_tableIn (tgt := 58) hx hb dX11_master_20 (by rw [s_20_1]; decide) (by rw [s_20_1]; decide) (by first | (rw [s_20_1]; done) | (rw [s_20_1]; rfl)) (by decide) ?_
    refine lv_iload_n hx hb dX11_master_58 rfl (lv_at hl 0 rfl) ?_
    refine ez_cSpi (As := [.int t_15]) (rest := []) h (fun _ q => c_J6_bitCount_0f7a4 q) hC k_J6_bitCount_0f7a4 ql_RX11_171 rfl (by decide) hS hl.1 rfl (Nat.le_of_ble_eq_true rfl) ⟨Nat.zero_le _, Nat.zero_le _⟩ dX11_master_59 (fun t_59 H locs hS h => ?_)
    exact hret _ _ _ _ _ _ (Option.some.inj h) rfl hS dX11_master_62
  replace h := ez_ifn h s_20_1
  by_cases s_20_2 : x1 = 2
  · replace h := ez_ifp h s_20_2
    refine lv_tableIn (tgt := 63) hx hb dX11_master_20 (by rw [s_20_2]; decide) (by rw [s_20_2]; decide) (by first | (rw [s_20_2]; done) | (rw [s_20_2]; rfl)) (by decide) ?_
    refine lv_iload_n hx hb dX11_master_63 rfl (lv_at hl 0 rfl) ?_
    exact hret _ _ _ _ _ _ (Option.some.inj h) rfl hS dX11_master_64
  replace h := ez_ifn h s_20_2
  have w_20 : Int32.toInt x1 < 0 ∨ 2 < Int32.toInt x1 := by
    have q_0 := ez_toNe (k := 0) s_20_0 (by decide)
    have q_1 := ez_toNe (k := 1) s_20_1 (by decide)
    have q_2 := ez_toNe (k := 2) s_20_2 (by decide)
    omega
  refine lv_tableOut (tgt := 65) hx hb dX11_master_20 w_20 (by decide) ?_
  refine lv_iconst (v := -1) hx hb dX11_master_65 (by decide) ?_
  exact hret _ _ _ _ _ _ (Option.some.inj h) rfl hS dX11_master_66
set_option maxHeartbeats 4000000 in
set_option maxRecDepth 100000 in
theorem c_X11_commonDivisor {l : Launch} {X : ez_X} {B : Nat} {σ : ez_H} {x0 : Int32} {x1 : Int32} {z : Int32} (h : z_X11_commonDivisor σ x0 x1 = some z) : ez_M l X B σ yX11_commonDivisor cX11_commonDivisor 6 (some .int) 0 [.int x0, .int x1] (some (.int z)) σ := by
  refine ez_startip (z := z) (by decide) (Nat.le_of_ble_eq_true rfl) (fun p e R s m args below meth c Q hC hret hS ls hl => ?_)
  have hC : ez_C p R s m args c X B RX11 cX11_commonDivisor 6 0 := hC
  have hx := hC.1.1
  have hb := hC.1.2.1
  have hown := hC.1.2.2.2.1
  have hts := hC.1.2.2.2.2
  have hl : lv_has ls 6 [(0, .int x0), (1, .int x1)] := hl
  obtain ⟨n0, e0⟩ : ∃ n0 : Nat, n0 = σ.length := ⟨_, rfl⟩
  rw [← e0] at hret hS
  have K_34 : ∀ (x2 : Int32) (H : Heap) (locs : List Loc) (ls : Array Slot), ez_S X B s.heap (n0) σ H locs → z_X11_commonDivisor_34 σ x2 = some z → lv_has ls 6 [(2, .int x2)] → W p l e R s m args below meth c H locs 0 0 Q (F0 m 34 ls []) := by
    intro x2 H locs ls hS h hl
    refine lv_iload_n hx hb dX11_commonDivisor_34 rfl (lv_at hl 0 rfl) ?_
    exact hret _ _ _ _ _ (Option.some.inj h) rfl hS dX11_commonDivisor_35
  have K_7 : ∀ (k_7 : Int32 → Int32 → Int32 → Option (Int32)) (hk_7 : ∀ (x2 : Int32) (x3 : Int32) (x4 : Int32) (H : Heap) (locs : List Loc) (ls : Array Slot), ez_S X B s.heap (n0) σ H locs → k_7 x2 x3 x4 = some z → lv_has ls 6 [(2, .int x2), (3, .int x3), (4, .int x4)] → W p l e R s m args below meth c H locs 0 0 Q (F0 m 7 ls [])), ∀ (x2 : Int32) (x3 : Int32) (x4 : Int32) (H : Heap) (locs : List Loc) (ls : Array Slot), ez_S X B s.heap (n0) σ H locs → z_X11_commonDivisor_7 σ k_7 x2 x3 x4 = some z → lv_has ls 6 [(2, .int x2), (3, .int x3), (4, .int x4)] → W p l e R s m args below meth c H locs 0 0 Q (F0 m 7 ls []) := by
    intro k_7 hk_7 x2 x3 x4 H locs ls hS h hl
    refine lv_iload hx hb dX11_commonDivisor_7 (lv_at hl 2 rfl) ?_
    refine lv_bipush (v := 64) hx hb dX11_commonDivisor_9 (by decide) ?_
    refine lv_icmp_ge (tgt := 34) hx hb dX11_commonDivisor_11 (by decide) (fun c_11 => ?_) (fun c_11 => ?_)
    · replace h := ez_ifp h c_11
      exact K_34  x2 _ _ _ hS h (lv_sub hl [0] rfl)
    · replace h := ez_ifn h c_11
      refine lv_iload_n hx hb dX11_commonDivisor_14 rfl (lv_at hl 1 rfl) ?_
      refine lv_if_eq (tgt := 34) hx hb dX11_commonDivisor_15 (by decide) (fun c_15 => ?_) (fun c_15 => ?_)
      · replace h := ez_ifp h c_15
        exact K_34  x2 _ _ _ hS h (lv_sub hl [0] rfl)
      · replace h := ez_ifn h c_15
        refine lv_iload_n hx hb dX11_commonDivisor_18 rfl (lv_at hl 0 rfl) ?_
        refine lv_iload_n hx hb dX11_commonDivisor_19 rfl (lv_at hl 1 rfl) ?_
        obtain ⟨nz_20, h⟩ := ez_nz_sp h
        refine lv_irem hx hb dX11_commonDivisor_20 nz_20 ?_
        refine ez_top h (fun t_20 h => ?_)
        refine lv_istore (lv' := [(5, .int t_20), (2, .int x2), (3, .int x3), (4, .int x4)]) hx hb dX11_commonDivisor_21 hl (by decide) rfl (fun ls hl => ?_)
        refine lv_iload_n hx hb dX11_commonDivisor_23 rfl (lv_at hl 2 rfl) ?_
        refine lv_istore_n (lv' := [(2, .int x3), (5, .int t_20), (3, .int x3), (4, .int x4)]) hx hb dX11_commonDivisor_24 rfl hl (by decide) rfl (fun ls hl => ?_)
        refine lv_iload hx hb dX11_commonDivisor_25 (lv_at hl 1 rfl) ?_
        refine lv_istore_n (lv' := [(3, .int t_20), (2, .int x3), (5, .int t_20), (4, .int x4)]) hx hb dX11_commonDivisor_27 rfl hl (by decide) rfl (fun ls hl => ?_)
        obtain ⟨t_28, e_28, h⟩ := ez_let_sp h
        refine lv_iinc (v := t_28) (lv' := [(4, .int t_28), (3, .int t_20), (2, .int x3), (5, .int t_20)]) hx hb dX11_commonDivisor_28 hl (k := 3) rfl (by rw [e_28]; rfl) (by decide) rfl (fun ls hl => ?_)
        refine lv_goto (tgt := 7) hx hb dX11_commonDivisor_31 (by decide) ?_
        exact hk_7 x3 t_20 t_28 _ _ _ hS h (lv_sub hl [2, 1, 0] rfl)
  have E_7 : ∀ (x2 : Int32) (x3 : Int32) (x4 : Int32) (H : Heap) (locs : List Loc) (ls : Array Slot), ez_S X B s.heap (n0) σ H locs → (ez_fix (fun _ _ _ => none) (z_X11_commonDivisor_7 σ) ez_N) x2 x3 x4 = some z → lv_has ls 6 [(2, .int x2), (3, .int x3), (4, .int x4)] → W p l e R s m args below meth c H locs 0 0 Q (F0 m 7 ls []) := ez_fix_ind (fun k_7 : Int32 → Int32 → Int32 → Option (Int32) => ∀ (x2 : Int32) (x3 : Int32) (x4 : Int32) (H : Heap) (locs : List Loc) (ls : Array Slot), ez_S X B s.heap (n0) σ H locs → k_7 x2 x3 x4 = some z → lv_has ls 6 [(2, .int x2), (3, .int x3), (4, .int x4)] → W p l e R s m args below meth c H locs 0 0 Q (F0 m 7 ls [])) (fun _ _ _ _ _ _ _ h _ => by cases h) (fun k_7 hk_7 => K_7 k_7 hk_7) ez_N
  refine lv_iload_n hx hb dX11_commonDivisor_0 rfl (lv_at hl 0 rfl) ?_
  refine lv_istore_n (lv' := [(2, .int x0), (0, .int x0), (1, .int x1)]) hx hb dX11_commonDivisor_1 rfl hl (by decide) rfl (fun ls hl => ?_)
  refine lv_iload_n hx hb dX11_commonDivisor_2 rfl (lv_at hl 2 rfl) ?_
  refine lv_istore_n (lv' := [(3, .int x1), (2, .int x0), (0, .int x0), (1, .int x1)]) hx hb dX11_commonDivisor_3 rfl hl (by decide) rfl (fun ls hl => ?_)
  refine lv_iconst (v := 0) hx hb dX11_commonDivisor_4 (by decide) ?_
  refine lv_istore (lv' := [(4, .int 0), (3, .int x1), (2, .int x0), (0, .int x0), (1, .int x1)]) hx hb dX11_commonDivisor_5 hl (by decide) rfl (fun ls hl => ?_)
  exact E_7  x0 x1 (0 : Int32) _ _ _ hS h (lv_sub hl [2, 1, 0] rfl)
set_option maxHeartbeats 4000000 in
set_option maxRecDepth 100000 in
theorem c_X11_odds {l : Launch} {X : ez_X} {B : Nat} {σ : ez_H} {h0 : Nat} {x1 : Int32} {x2 : Int32} {z : Int32 × ez_H} (h : z_X11_odds σ h0 x1 x2 = some z) : ez_M l X B σ yX11_odds cX11_odds 6 (some .int) 3 [.ref (B + h0), .int x1, .int x2] (some (.int z.1)) z.2 := by
  refine ez_starti (z := z) (by decide) (Nat.le_of_ble_eq_true rfl) (fun p e R s m args below meth c Q hC hret hS ls hl => ?_)
  have hC : ez_C p R s m args c X B RX11 cX11_odds 6 3 := hC
  have hx := hC.1.1
  have hb := hC.1.2.1
  have hown := hC.1.2.2.2.1
  have hts := hC.1.2.2.2.2
  have hl : lv_has ls 6 [(0, .ref (B + h0)), (1, .int x1), (2, .int x2)] := hl
  obtain ⟨σ0, eσ⟩ : ∃ σ0 : ez_H, σ0 = σ := ⟨_, rfl⟩
  rw [← eσ] at hret
  have hS : ez_S X B s.heap σ0.length σ s.heap [] := eσ ▸ hS
  obtain ⟨-, h⟩ := ez_in h
  have K_20 : ∀ (σ : ez_H) (H : Heap) (locs : List Loc) (ls : Array Slot), ez_S X B s.heap (σ0.length) σ H locs → z_X11_odds_20 σ = some z → lv_has ls 6 [] → W p l e R s m args below meth c H locs 0 0 Q (F0 m 20 ls []) := by
    intro σ H locs ls hS h hl
    refine lv_iconst (v := -1) hx hb dX11_odds_20 (by decide) ?_
    exact hret _ _ _ _ _ _ (Option.some.inj h) rfl hS dX11_odds_21
  have K_90 : ∀ (σ : ez_H) (x5 : Int32) (y0 : Int32) (H : Heap) (locs : List Loc) (ls : Array Slot), ez_S X B s.heap (σ0.length) σ H locs → z_X11_odds_90 σ x5 y0 = some z → lv_has ls 6 [(5, .int x5)] → W p l e R s m args below meth c H locs 0 0 Q (F0 m 90 ls [.int y0]) := by
    intro σ x5 y0 H locs ls hS h hl
    refine lv_iload hx hb dX11_odds_90 (lv_at hl 0 rfl) ?_
    obtain ⟨nz_92, h⟩ := ez_nz_sp h
    refine lv_idiv hx hb dX11_odds_92 nz_92 ?_
    refine ez_top h (fun t_92 h => ?_)
    exact hret _ _ _ _ _ _ (Option.some.inj h) rfl hS dX11_odds_93
  refine lv_aload_n hx hb dX11_odds_0 rfl (lv_at hl 0 rfl) ?_
  refine eg_RX11_29 hC hS h dX11_odds_1 (fun t_1 h => ?_)
  refine lv_iload_n hx hb dX11_odds_4 rfl (lv_at hl 1 rfl) ?_
  refine ez_cVpi (As := [.int x1]) (rest := []) h (fun _ q => c_X3_hasLock q) hC k_X3_hasLock ql_RX11_165 rfl (by decide) hS (fun _ q => ez_rcv q) rfl hl.1 rfl (Nat.le_of_ble_eq_true rfl) ⟨Nat.zero_le _, Nat.zero_le _⟩ dX11_odds_5 (fun t_5 H locs hS h => ?_)
  refine lv_if_eq (tgt := 20) hx hb dX11_odds_8 (by decide) (fun c_8 => ?_) (fun c_8 => ?_)
  · replace h := ez_ifp h c_8
    exact K_20  σ _ _ _ hS h (lv_sub hl [] rfl)
  · replace h := ez_ifn h c_8
    refine lv_iload_n hx hb dX11_odds_11 rfl (lv_at hl 2 rfl) ?_
    refine lv_if_lt (tgt := 20) hx hb dX11_odds_12 (by decide) (fun c_12 => ?_) (fun c_12 => ?_)
    · replace h := ez_ifp h c_12
      exact K_20  σ _ _ _ hS h (lv_sub hl [] rfl)
    · replace h := ez_ifn h c_12
      refine lv_iload_n hx hb dX11_odds_15 rfl (lv_at hl 2 rfl) ?_
      refine lv_iconst (v := 1) hx hb dX11_odds_16 (by decide) ?_
      refine lv_icmp_le (tgt := 22) hx hb dX11_odds_17 (by decide) (fun c_17 => ?_) (fun c_17 => ?_)
      · replace h := ez_ifp h c_17
        refine lv_aload_n hx hb dX11_odds_22 rfl (lv_at hl 0 rfl) ?_
        refine eg_RX11_37 hC hS h dX11_odds_23 (fun t_23 h => ?_)
        refine lv_aload_n hx hb dX11_odds_26 rfl (lv_at hl 0 rfl) ?_
        refine eg_RX11_41 hC hS h dX11_odds_27 (fun t_27 h => ?_)
        refine lv_iload_n hx hb dX11_odds_30 rfl (lv_at hl 1 rfl) ?_
        refine ez_cVpi (As := [.int x1]) (rest := [.ref (B + t_23)]) h (fun _ q => c_X7_pins q) hC k_X7_pins ql_RX11_168 rfl (by decide) hS (fun _ q => ez_rcv q) rfl hl.1 rfl (Nat.le_of_ble_eq_true rfl) ⟨Nat.zero_le _, Nat.zero_le _⟩ dX11_odds_31 (fun t_31 H locs hS h => ?_)
        refine lv_aload_n hx hb dX11_odds_34 rfl (lv_at hl 0 rfl) ?_
        refine eg_RX11_37 hC hS h dX11_odds_35 (fun t_35 h => ?_)
        refine eg_RX11_304 hC hS h dX11_odds_38 (fun t_38 h => ?_)
        refine ez_cVi (As := [.int t_31, .int t_38]) (rest := []) h (fun _ q => c_X6_howMany q) hC k_X6_howMany ql_RX11_307 rfl (by decide) hS (fun _ q => ez_rcv q) rfl hl.1 rfl (Nat.le_of_ble_eq_true rfl) ⟨Nat.zero_le _, Nat.zero_le _⟩ dX11_odds_41 (fun t_41 σ H locs hS h => ?_)
        refine lv_istore_n (lv' := [(3, .int t_41), (0, .ref (B + h0)), (1, .int x1), (2, .int x2)]) hx hb dX11_odds_44 rfl hl (by decide) rfl (fun ls hl => ?_)
        refine lv_aload_n hx hb dX11_odds_45 rfl (lv_at hl 1 rfl) ?_
        refine eg_RX11_37 hC hS h dX11_odds_46 (fun t_46 h => ?_)
        refine lv_aload_n hx hb dX11_odds_49 rfl (lv_at hl 1 rfl) ?_
        refine eg_RX11_37 hC hS h dX11_odds_50 (fun t_50 h => ?_)
        refine ez_cVpi (As := []) (rest := [.ref (B + t_46)]) h (fun _ q => c_X6_everything q) hC k_X6_everything ql_RX11_301 rfl (by decide) hS (fun _ q => ez_rcv q) rfl hl.1 rfl (Nat.le_of_ble_eq_true rfl) ⟨Nat.zero_le _, Nat.zero_le _⟩ dX11_odds_53 (fun t_53 H locs hS h => ?_)
        refine lv_aload_n hx hb dX11_odds_56 rfl (lv_at hl 1 rfl) ?_
        refine eg_RX11_37 hC hS h dX11_odds_57 (fun t_57 h => ?_)
        refine eg_RX11_304 hC hS h dX11_odds_60 (fun t_60 h => ?_)
        refine ez_cVi (As := [.int t_53, .int t_60]) (rest := []) h (fun _ q => c_X6_howMany q) hC k_X6_howMany ql_RX11_307 rfl (by decide) hS (fun _ q => ez_rcv q) rfl hl.1 rfl (Nat.le_of_ble_eq_true rfl) ⟨Nat.zero_le _, Nat.zero_le _⟩ dX11_odds_63 (fun t_63 σ H locs hS h => ?_)
        refine lv_istore (lv' := [(4, .int t_63), (3, .int t_41), (0, .ref (B + h0)), (1, .int x1), (2, .int x2)]) hx hb dX11_odds_66 hl (by decide) rfl (fun ls hl => ?_)
        refine lv_iconst (v := 1) hx hb dX11_odds_68 (by decide) ?_
        refine lv_iload_n hx hb dX11_odds_69 rfl (lv_at hl 1 rfl) ?_
        refine lv_iload hx hb dX11_odds_70 (lv_at hl 0 rfl) ?_
        refine ez_cSpi (As := [.int t_41, .int t_63]) (rest := [.int 1]) h (fun _ q => c_X11_commonDivisor q) hC k_X11_commonDivisor ql_RX11_398 rfl (by decide) hS hl.1 rfl (Nat.le_of_ble_eq_true rfl) ⟨Nat.zero_le _, Nat.zero_le _⟩ dX11_odds_72 (fun t_72 H locs hS h => ?_)
        refine va_mmax hx hb (hC.1.2.2.1.trans hl.1.symm) hown (hts _ ql_RX11_246) (hts _ qm_max_s) (hts _ qm_i) (hts _ qm_max_c) (Nat.le_trans (by decide) hC.2.2.1) (Nat.le_trans (Nat.le_of_ble_eq_true rfl) hC.2.2.2.1) (Nat.zero_le _) (Nat.zero_le _) dX11_odds_75 ?_
        refine ez_top h (fun t_75 h => ?_)
        refine lv_istore (lv' := [(5, .int t_75), (4, .int t_63), (3, .int t_41), (0, .ref (B + h0)), (1, .int x1), (2, .int x2)]) hx hb dX11_odds_78 hl (by decide) rfl (fun ls hl => ?_)
        refine lv_iload_n hx hb dX11_odds_80 rfl (lv_at hl 5 rfl) ?_
        refine lv_if_ne (tgt := 88) hx hb dX11_odds_81 (by decide) (fun c_81 => ?_) (fun c_81 => ?_)
        · replace h := ez_ifn h c_81
          refine lv_iload hx hb dX11_odds_88 (lv_at hl 1 rfl) ?_
          exact K_90  σ t_75 t_63 _ _ _ hS h (lv_sub hl [0] rfl)
        · replace h := ez_ifp h c_81
          refine lv_iload_n hx hb dX11_odds_84 rfl (lv_at hl 2 rfl) ?_
          refine lv_goto (tgt := 90) hx hb dX11_odds_85 (by decide) ?_
          exact K_90  σ t_75 t_41 _ _ _ hS h (lv_sub hl [0] rfl)
      · replace h := ez_ifn h c_17
        exact K_20  σ _ _ _ hS h (lv_sub hl [] rfl)
set_option maxHeartbeats 4000000 in
set_option maxRecDepth 100000 in
theorem c_X6_bitsOf {l : Launch} {X : ez_X} {B : Nat} {σ : ez_H} {h0 : Nat} {x1 : Int32} {z : Int32} (h : z_X6_bitsOf σ h0 x1 = some z) : ez_M l X B σ yX6_bitsOf cX6_bitsOf 6 (some .int) 3 [.ref (B + h0), .int x1] (some (.int z)) σ := by
  refine ez_startip (z := z) (by decide) (Nat.le_of_ble_eq_true rfl) (fun p e R s m args below meth c Q hC hret hS ls hl => ?_)
  have hC : ez_C p R s m args c X B RX6 cX6_bitsOf 6 3 := hC
  have hx := hC.1.1
  have hb := hC.1.2.1
  have hown := hC.1.2.2.2.1
  have hts := hC.1.2.2.2.2
  have hl : lv_has ls 6 [(0, .ref (B + h0)), (1, .int x1)] := hl
  obtain ⟨n0, e0⟩ : ∃ n0 : Nat, n0 = σ.length := ⟨_, rfl⟩
  rw [← e0] at hret hS
  obtain ⟨-, h⟩ := ez_in h
  have K_75 : ∀ (y0 : Int32) (H : Heap) (locs : List Loc) (ls : Array Slot), ez_S X B s.heap (n0) σ H locs → z_X6_bitsOf_75 σ y0 = some z → lv_has ls 6 [] → W p l e R s m args below meth c H locs 0 0 Q (F0 m 75 ls [.int y0]) := by
    intro y0 H locs ls hS h hl
    exact hret _ _ _ _ _ (Option.some.inj h) rfl hS dX6_bitsOf_75
  have K_74 : ∀ (H : Heap) (locs : List Loc) (ls : Array Slot), ez_S X B s.heap (n0) σ H locs → z_X6_bitsOf_74 σ = some z → lv_has ls 6 [] → W p l e R s m args below meth c H locs 0 0 Q (F0 m 74 ls []) := by
    intro  H locs ls hS h hl
    refine lv_iconst (v := 0) hx hb dX6_bitsOf_74 (by decide) ?_
    exact K_75  (0 : Int32) _ _ _ hS h (lv_sub hl [] rfl)
  have K_22 : ∀ (k_22 : Nat → Int32 → Int32 → Int32 → Int32 → Int32 → Option (Int32)) (hk_22 : ∀ (h0 : Nat) (x1 : Int32) (x2 : Int32) (x3 : Int32) (x4 : Int32) (x5 : Int32) (H : Heap) (locs : List Loc) (ls : Array Slot), ez_S X B s.heap (n0) σ H locs → k_22 h0 x1 x2 x3 x4 x5 = some z → lv_has ls 6 [(0, .ref (B + h0)), (1, .int x1), (2, .int x2), (3, .int x3), (4, .int x4), (5, .int x5)] → W p l e R s m args below meth c H locs 0 0 Q (F0 m 22 ls [])), ∀ (h0 : Nat) (x1 : Int32) (x2 : Int32) (x3 : Int32) (x4 : Int32) (x5 : Int32) (H : Heap) (locs : List Loc) (ls : Array Slot), ez_S X B s.heap (n0) σ H locs → z_X6_bitsOf_22 σ k_22 h0 x1 x2 x3 x4 x5 = some z → lv_has ls 6 [(0, .ref (B + h0)), (1, .int x1), (2, .int x2), (3, .int x3), (4, .int x4), (5, .int x5)] → W p l e R s m args below meth c H locs 0 0 Q (F0 m 22 ls []) := by
    intro k_22 hk_22 h0 x1 x2 x3 x4 x5 H locs ls hS h hl
    refine lv_iload hx hb dX6_bitsOf_22 (lv_at hl 5 rfl) ?_
    refine lv_if_lt (tgt := 54) hx hb dX6_bitsOf_24 (by decide) (fun c_24 => ?_) (fun c_24 => ?_)
    · replace h := ez_ifp h c_24
      refine lv_iload_n hx hb dX6_bitsOf_54 rfl (lv_at hl 1 rfl) ?_
      refine lv_if_lt (tgt := 74) hx hb dX6_bitsOf_55 (by decide) (fun c_55 => ?_) (fun c_55 => ?_)
      · replace h := ez_ifp h c_55
        exact K_74   _ _ _ hS h (lv_sub hl [] rfl)
      · replace h := ez_ifn h c_55
        refine lv_iload_n hx hb dX6_bitsOf_58 rfl (lv_at hl 2 rfl) ?_
        refine lv_if_ne (tgt := 74) hx hb dX6_bitsOf_59 (by decide) (fun c_59 => ?_) (fun c_59 => ?_)
        · replace h := ez_ifn h c_59
          exact K_74   _ _ _ hS h (lv_sub hl [] rfl)
        · replace h := ez_ifp h c_59
          refine lv_aload_n hx hb dX6_bitsOf_62 rfl (lv_at hl 0 rfl) ?_
          refine lv_iload_n hx hb dX6_bitsOf_63 rfl (lv_at hl 3 rfl) ?_
          refine ez_cVpi (As := [.int x3]) (rest := []) h (fun _ q => c_X6_isLegal q) hC k_X6_isLegal ql_RX6_55 rfl (by decide) hS (fun _ q => ez_rcv q) rfl hl.1 rfl (Nat.le_of_ble_eq_true rfl) ⟨Nat.zero_le _, Nat.zero_le _⟩ dX6_bitsOf_64 (fun t_64 H locs hS h => ?_)
          refine lv_if_eq (tgt := 74) hx hb dX6_bitsOf_67 (by decide) (fun c_67 => ?_) (fun c_67 => ?_)
          · replace h := ez_ifp h c_67
            exact K_74   _ _ _ hS h (lv_sub hl [] rfl)
          · replace h := ez_ifn h c_67
            refine lv_iload_n hx hb dX6_bitsOf_70 rfl (lv_at hl 3 rfl) ?_
            refine lv_goto (tgt := 75) hx hb dX6_bitsOf_71 (by decide) ?_
            exact K_75  x3 _ _ _ hS h (lv_sub hl [] rfl)
    · replace h := ez_ifn h c_24
      refine lv_iload_n hx hb dX6_bitsOf_27 rfl (lv_at hl 3 rfl) ?_
      refine lv_iload hx hb dX6_bitsOf_28 (lv_at hl 5 rfl) ?_
      refine lv_iconst (v := 0) hx hb dX6_bitsOf_30 (by decide) ?_
      refine lv_iload_n hx hb dX6_bitsOf_31 rfl (lv_at hl 2 rfl) ?_
      refine lv_iload hx hb dX6_bitsOf_32 (lv_at hl 4 rfl) ?_
      obtain ⟨nz_34, h⟩ := ez_nz_sp h
      refine lv_irem hx hb dX6_bitsOf_34 nz_34 ?_
      refine ez_top h (fun t_34 h => ?_)
      refine va_mmax hx hb (hC.1.2.2.1.trans hl.1.symm) hown (hts _ ql_RX6_47) (hts _ qm_max_s) (hts _ qm_i) (hts _ qm_max_c) (Nat.le_trans (by decide) hC.2.2.1) (Nat.le_trans (Nat.le_of_ble_eq_true rfl) hC.2.2.2.1) (Nat.zero_le _) (Nat.zero_le _) dX6_bitsOf_35 ?_
      refine ez_top h (fun t_35 h => ?_)
      refine ez_cSpi (As := [.int x5, .int t_35]) (rest := [.int x3]) h (fun _ q => c_X6_notch q) hC k_X6_notch ql_RX6_44 rfl (by decide) hS hl.1 rfl (Nat.le_of_ble_eq_true rfl) ⟨Nat.zero_le _, Nat.zero_le _⟩ dX6_bitsOf_38 (fun t_38 H locs hS h => ?_)
      refine lv_ior hx hb dX6_bitsOf_41 ?_
      refine ez_top h (fun t_41 h => ?_)
      refine lv_istore_n (lv' := [(3, .int t_41), (0, .ref (B + h0)), (1, .int x1), (2, .int x2), (4, .int x4), (5, .int x5)]) hx hb dX6_bitsOf_42 rfl hl (by decide) rfl (fun ls hl => ?_)
      refine lv_iload_n hx hb dX6_bitsOf_43 rfl (lv_at hl 3 rfl) ?_
      refine lv_iload hx hb dX6_bitsOf_44 (lv_at hl 4 rfl) ?_
      obtain ⟨nz_46, h⟩ := ez_nz_sp h
      refine lv_idiv hx hb dX6_bitsOf_46 nz_46 ?_
      refine ez_top h (fun t_46 h => ?_)
      refine lv_istore_n (lv' := [(2, .int t_46), (3, .int t_41), (0, .ref (B + h0)), (1, .int x1), (4, .int x4), (5, .int x5)]) hx hb dX6_bitsOf_47 rfl hl (by decide) rfl (fun ls hl => ?_)
      obtain ⟨t_48, e_48, h⟩ := ez_let_sp h
      refine lv_iinc (v := t_48) (lv' := [(5, .int t_48), (2, .int t_46), (3, .int t_41), (0, .ref (B + h0)), (1, .int x1), (4, .int x4)]) hx hb dX6_bitsOf_48 hl (k := 5) rfl (by rw [e_48]; rfl) (by decide) rfl (fun ls hl => ?_)
      refine lv_goto (tgt := 22) hx hb dX6_bitsOf_51 (by decide) ?_
      exact hk_22 h0 x1 t_46 t_41 x4 t_48 _ _ _ hS h (lv_sub hl [3, 4, 1, 2, 5, 0] rfl)
  have E_22 : ∀ (h0 : Nat) (x1 : Int32) (x2 : Int32) (x3 : Int32) (x4 : Int32) (x5 : Int32) (H : Heap) (locs : List Loc) (ls : Array Slot), ez_S X B s.heap (n0) σ H locs → (ez_fix (fun _ _ _ _ _ _ => none) (z_X6_bitsOf_22 σ) ez_N) h0 x1 x2 x3 x4 x5 = some z → lv_has ls 6 [(0, .ref (B + h0)), (1, .int x1), (2, .int x2), (3, .int x3), (4, .int x4), (5, .int x5)] → W p l e R s m args below meth c H locs 0 0 Q (F0 m 22 ls []) := ez_fix_ind (fun k_22 : Nat → Int32 → Int32 → Int32 → Int32 → Int32 → Option (Int32) => ∀ (h0 : Nat) (x1 : Int32) (x2 : Int32) (x3 : Int32) (x4 : Int32) (x5 : Int32) (H : Heap) (locs : List Loc) (ls : Array Slot), ez_S X B s.heap (n0) σ H locs → k_22 h0 x1 x2 x3 x4 x5 = some z → lv_has ls 6 [(0, .ref (B + h0)), (1, .int x1), (2, .int x2), (3, .int x3), (4, .int x4), (5, .int x5)] → W p l e R s m args below meth c H locs 0 0 Q (F0 m 22 ls [])) (fun _ _ _ _ _ _ _ _ _ _ h _ => by cases h) (fun k_22 hk_22 => K_22 k_22 hk_22) ez_N
  refine lv_iload_n hx hb dX6_bitsOf_0 rfl (lv_at hl 1 rfl) ?_
  refine lv_istore_n (lv' := [(2, .int x1), (0, .ref (B + h0)), (1, .int x1)]) hx hb dX6_bitsOf_1 rfl hl (by decide) rfl (fun ls hl => ?_)
  refine lv_iconst (v := 0) hx hb dX6_bitsOf_2 (by decide) ?_
  refine lv_istore_n (lv' := [(3, .int 0), (2, .int x1), (0, .ref (B + h0)), (1, .int x1)]) hx hb dX6_bitsOf_3 rfl hl (by decide) rfl (fun ls hl => ?_)
  refine lv_iconst (v := 1) hx hb dX6_bitsOf_4 (by decide) ?_
  refine lv_aload_n hx hb dX6_bitsOf_5 rfl (lv_at hl 2 rfl) ?_
  refine eg_RX6_22 hC hS h dX6_bitsOf_6 (fun t_6 h => ?_)
  refine va_mmax hx hb (hC.1.2.2.1.trans hl.1.symm) hown (hts _ ql_RX6_47) (hts _ qm_max_s) (hts _ qm_i) (hts _ qm_max_c) (Nat.le_trans (by decide) hC.2.2.1) (Nat.le_trans (Nat.le_of_ble_eq_true rfl) hC.2.2.2.1) (Nat.zero_le _) (Nat.zero_le _) dX6_bitsOf_9 ?_
  refine ez_top h (fun t_9 h => ?_)
  refine lv_istore (lv' := [(4, .int t_9), (3, .int 0), (2, .int x1), (0, .ref (B + h0)), (1, .int x1)]) hx hb dX6_bitsOf_12 hl (by decide) rfl (fun ls hl => ?_)
  refine lv_aload_n hx hb dX6_bitsOf_14 rfl (lv_at hl 3 rfl) ?_
  refine eg_RX6_18 hC hS h dX6_bitsOf_15 (fun t_15 h => ?_)
  refine lv_iconst (v := 1) hx hb dX6_bitsOf_18 (by decide) ?_
  refine lv_isub hx hb dX6_bitsOf_19 ?_
  refine ez_top h (fun t_19 h => ?_)
  refine lv_istore (lv' := [(5, .int t_19), (4, .int t_9), (3, .int 0), (2, .int x1), (0, .ref (B + h0)), (1, .int x1)]) hx hb dX6_bitsOf_20 hl (by decide) rfl (fun ls hl => ?_)
  exact E_22  h0 x1 x1 (0 : Int32) t_9 t_19 _ _ _ hS h (lv_sub hl [4, 5, 3, 2, 1, 0] rfl)
set_option maxHeartbeats 4000000 in
set_option maxRecDepth 100000 in
theorem c_X11_opens {l : Launch} {X : ez_X} {B : Nat} {σ : ez_H} {h0 : Nat} {x1 : Int32} {x2 : Int32} {z : Int32} (h : z_X11_opens σ h0 x1 x2 = some z) : ez_M l X B σ yX11_opens cX11_opens 4 (some .int) 4 [.ref (B + h0), .int x1, .int x2] (some (.int z)) σ := by
  refine ez_startip (z := z) (by decide) (Nat.le_of_ble_eq_true rfl) (fun p e R s m args below meth c Q hC hret hS ls hl => ?_)
  have hC : ez_C p R s m args c X B RX11 cX11_opens 4 4 := hC
  have hx := hC.1.1
  have hb := hC.1.2.1
  have hown := hC.1.2.2.2.1
  have hts := hC.1.2.2.2.2
  have hl : lv_has ls 4 [(0, .ref (B + h0)), (1, .int x1), (2, .int x2)] := hl
  obtain ⟨n0, e0⟩ : ∃ n0 : Nat, n0 = σ.length := ⟨_, rfl⟩
  rw [← e0] at hret hS
  obtain ⟨-, h⟩ := ez_in h
  have K_24 : ∀ (H : Heap) (locs : List Loc) (ls : Array Slot), ez_S X B s.heap (n0) σ H locs → z_X11_opens_24 σ = some z → lv_has ls 4 [] → W p l e R s m args below meth c H locs 0 0 Q (F0 m 24 ls []) := by
    intro  H locs ls hS h hl
    refine lv_iconst (v := -1) hx hb dX11_opens_24 (by decide) ?_
    exact hret _ _ _ _ _ (Option.some.inj h) rfl hS dX11_opens_25
  have K_46 : ∀ (y0 : Int32) (H : Heap) (locs : List Loc) (ls : Array Slot), ez_S X B s.heap (n0) σ H locs → z_X11_opens_46 σ y0 = some z → lv_has ls 4 [] → W p l e R s m args below meth c H locs 0 0 Q (F0 m 46 ls [.int y0]) := by
    intro y0 H locs ls hS h hl
    exact hret _ _ _ _ _ (Option.some.inj h) rfl hS dX11_opens_46
  refine lv_aload_n hx hb dX11_opens_0 rfl (lv_at hl 0 rfl) ?_
  refine eg_RX11_37 hC hS h dX11_opens_1 (fun t_1 h => ?_)
  refine lv_iload_n hx hb dX11_opens_4 rfl (lv_at hl 1 rfl) ?_
  refine ez_cVpi (As := [.int x1]) (rest := []) h (fun _ q => c_X6_bitsOf q) hC k_X6_bitsOf ql_RX11_212 rfl (by decide) hS (fun _ q => ez_rcv q) rfl hl.1 rfl (Nat.le_of_ble_eq_true rfl) ⟨Nat.zero_le _, Nat.zero_le _⟩ dX11_opens_5 (fun t_5 H locs hS h => ?_)
  refine lv_istore_n (lv' := [(3, .int t_5), (0, .ref (B + h0)), (1, .int x1), (2, .int x2)]) hx hb dX11_opens_8 rfl hl (by decide) rfl (fun ls hl => ?_)
  refine lv_iload_n hx hb dX11_opens_9 rfl (lv_at hl 0 rfl) ?_
  refine lv_if_eq (tgt := 24) hx hb dX11_opens_10 (by decide) (fun c_10 => ?_) (fun c_10 => ?_)
  · replace h := ez_ifp h c_10
    exact K_24   _ _ _ hS h (lv_sub hl [] rfl)
  · replace h := ez_ifn h c_10
    refine lv_aload_n hx hb dX11_opens_13 rfl (lv_at hl 1 rfl) ?_
    refine eg_RX11_29 hC hS h dX11_opens_14 (fun t_14 h => ?_)
    refine lv_iload_n hx hb dX11_opens_17 rfl (lv_at hl 3 rfl) ?_
    refine ez_cVpi (As := [.int x2]) (rest := []) h (fun _ q => c_X3_hasLock q) hC k_X3_hasLock ql_RX11_165 rfl (by decide) hS (fun _ q => ez_rcv q) rfl hl.1 rfl (Nat.le_of_ble_eq_true rfl) ⟨Nat.zero_le _, Nat.zero_le _⟩ dX11_opens_18 (fun t_18 H locs hS h => ?_)
    refine lv_if_ne (tgt := 26) hx hb dX11_opens_21 (by decide) (fun c_21 => ?_) (fun c_21 => ?_)
    · replace h := ez_ifn h c_21
      refine lv_iload_n hx hb dX11_opens_26 rfl (lv_at hl 0 rfl) ?_
      refine lv_aload_n hx hb dX11_opens_27 rfl (lv_at hl 1 rfl) ?_
      refine eg_RX11_41 hC hS h dX11_opens_28 (fun t_28 h => ?_)
      refine lv_iload_n hx hb dX11_opens_31 rfl (lv_at hl 3 rfl) ?_
      refine ez_cVpi (As := [.int x2]) (rest := [.int t_5]) h (fun _ q => c_X7_pins q) hC k_X7_pins ql_RX11_168 rfl (by decide) hS (fun _ q => ez_rcv q) rfl hl.1 rfl (Nat.le_of_ble_eq_true rfl) ⟨Nat.zero_le _, Nat.zero_le _⟩ dX11_opens_32 (fun t_32 H locs hS h => ?_)
      refine ez_cSpi (As := [.int t_5, .int t_32]) (rest := []) h (fun _ q => c_X6_fitsIn q) hC k_X6_fitsIn ql_RX11_215 rfl (by decide) hS hl.1 rfl (Nat.le_of_ble_eq_true rfl) ⟨Nat.zero_le _, Nat.zero_le _⟩ dX11_opens_35 (fun t_35 H locs hS h => ?_)
      refine lv_if_eq (tgt := 45) hx hb dX11_opens_38 (by decide) (fun c_38 => ?_) (fun c_38 => ?_)
      · replace h := ez_ifp h c_38
        refine lv_iconst (v := 0) hx hb dX11_opens_45 (by decide) ?_
        exact K_46  (0 : Int32) _ _ _ hS h (lv_sub hl [] rfl)
      · replace h := ez_ifn h c_38
        refine lv_iconst (v := 1) hx hb dX11_opens_41 (by decide) ?_
        refine lv_goto (tgt := 46) hx hb dX11_opens_42 (by decide) ?_
        exact K_46  (1 : Int32) _ _ _ hS h (lv_sub hl [] rfl)
    · replace h := ez_ifp h c_21
      exact K_24   _ _ _ hS h (lv_sub hl [] rfl)
set_option maxHeartbeats 4000000 in
set_option maxRecDepth 100000 in
theorem c_X6_hasDepth {l : Launch} {X : ez_X} {B : Nat} {σ : ez_H} {h0 : Nat} {x1 : Int32} {z : Int32} (h : z_X6_hasDepth σ h0 x1 = some z) : ez_M l X B σ yX6_hasDepth cX6_hasDepth 2 (some .boolean) 0 [.ref (B + h0), .int x1] (some (.int z)) σ := by
  refine ez_startip (z := z) (by decide) (Nat.le_of_ble_eq_true rfl) (fun p e R s m args below meth c Q hC hret hS ls hl => ?_)
  have hC : ez_C p R s m args c X B RX6 cX6_hasDepth 2 0 := hC
  have hx := hC.1.1
  have hb := hC.1.2.1
  have hown := hC.1.2.2.2.1
  have hts := hC.1.2.2.2.2
  have hl : lv_has ls 2 [(0, .ref (B + h0)), (1, .int x1)] := hl
  obtain ⟨n0, e0⟩ : ∃ n0 : Nat, n0 = σ.length := ⟨_, rfl⟩
  rw [← e0] at hret hS
  obtain ⟨-, h⟩ := ez_in h
  have K_17 : ∀ (y0 : Int32) (H : Heap) (locs : List Loc) (ls : Array Slot), ez_S X B s.heap (n0) σ H locs → z_X6_hasDepth_17 σ y0 = some z → lv_has ls 2 [] → W p l e R s m args below meth c H locs 0 0 Q (F0 m 17 ls [.int y0]) := by
    intro y0 H locs ls hS h hl
    obtain ⟨hn, h⟩ := ez_nr_sp rfl h
    exact hret _ _ _ _ _ (Option.some.inj h) hn hS dX6_hasDepth_17
  have K_16 : ∀ (H : Heap) (locs : List Loc) (ls : Array Slot), ez_S X B s.heap (n0) σ H locs → z_X6_hasDepth_16 σ = some z → lv_has ls 2 [] → W p l e R s m args below meth c H locs 0 0 Q (F0 m 16 ls []) := by
    intro  H locs ls hS h hl
    refine lv_iconst (v := 0) hx hb dX6_hasDepth_16 (by decide) ?_
    exact K_17  (0 : Int32) _ _ _ hS h (lv_sub hl [] rfl)
  refine lv_iload_n hx hb dX6_hasDepth_0 rfl (lv_at hl 1 rfl) ?_
  refine lv_if_lt (tgt := 16) hx hb dX6_hasDepth_1 (by decide) (fun c_1 => ?_) (fun c_1 => ?_)
  · replace h := ez_ifp h c_1
    exact K_16   _ _ _ hS h (lv_sub hl [] rfl)
  · replace h := ez_ifn h c_1
    refine lv_iload_n hx hb dX6_hasDepth_4 rfl (lv_at hl 1 rfl) ?_
    refine lv_aload_n hx hb dX6_hasDepth_5 rfl (lv_at hl 0 rfl) ?_
    refine eg_RX6_22 hC hS h dX6_hasDepth_6 (fun t_6 h => ?_)
    refine lv_icmp_ge (tgt := 16) hx hb dX6_hasDepth_9 (by decide) (fun c_9 => ?_) (fun c_9 => ?_)
    · replace h := ez_ifp h c_9
      exact K_16   _ _ _ hS h (lv_sub hl [] rfl)
    · replace h := ez_ifn h c_9
      refine lv_iconst (v := 1) hx hb dX6_hasDepth_12 (by decide) ?_
      refine lv_goto (tgt := 17) hx hb dX6_hasDepth_13 (by decide) ?_
      exact K_17  (1 : Int32) _ _ _ hS h (lv_sub hl [] rfl)
set_option maxHeartbeats 4000000 in
set_option maxRecDepth 100000 in
theorem c_X7_putPins {l : Launch} {X : ez_X} {B : Nat} {σ : ez_H} {h0 : Nat} {x1 : Int32} {x2 : Int32} {z : Unit × ez_H} (h : z_X7_putPins σ h0 x1 x2 = some z) : ez_M l X B σ yX7_putPins cX7_putPins 3 (none) 1 [.ref (B + h0), .int x1, .int x2] (none) z.2 := by
  refine ez_startv (z := z) (by decide) (Nat.le_of_ble_eq_true rfl) (fun p e R s m args below meth c Q hC hret hS ls hl => ?_)
  have hC : ez_C p R s m args c X B RX7 cX7_putPins 3 1 := hC
  have hx := hC.1.1
  have hb := hC.1.2.1
  have hown := hC.1.2.2.2.1
  have hts := hC.1.2.2.2.2
  have hl : lv_has ls 3 [(0, .ref (B + h0)), (1, .int x1), (2, .int x2)] := hl
  obtain ⟨σ0, eσ⟩ : ∃ σ0 : ez_H, σ0 = σ := ⟨_, rfl⟩
  rw [← eσ] at hret
  have hS : ez_S X B s.heap σ0.length σ s.heap [] := eσ ▸ hS
  obtain ⟨-, h⟩ := ez_in h
  refine lv_aload_n hx hb dX7_putPins_0 rfl (lv_at hl 0 rfl) ?_
  refine lv_bipush (v := 24) hx hb dX7_putPins_1 (by decide) ?_
  refine lv_iload_n hx hb dX7_putPins_3 rfl (lv_at hl 1 rfl) ?_
  refine lv_iadd hx hb dX7_putPins_4 ?_
  refine ez_top h (fun t_4 h => ?_)
  refine lv_iload_n hx hb dX7_putPins_5 rfl (lv_at hl 2 rfl) ?_
  refine ez_cVv (As := [.int t_4, .int x2]) (rest := []) h (fun _ q => c_X7_put q) hC k_X7_put ql_RX7_31 rfl (by decide) hS (fun _ q => ez_rcv q) rfl hl.1 rfl (Nat.le_of_ble_eq_true rfl) ⟨Nat.zero_le _, Nat.zero_le _⟩ dX7_putPins_6 (fun _ σ H locs hS h => ?_)
  exact hret _ _ _ _ _ _ (Option.some.inj h) hS dX7_putPins_9
set_option maxHeartbeats 4000000 in
set_option maxRecDepth 100000 in
theorem c_X11_part {l : Launch} {X : ez_X} {B : Nat} {σ : ez_H} {h0 : Nat} {x1 : Int32} {x2 : Int32} {x3 : Int32} {z : Int32 × ez_H} (h : z_X11_part σ h0 x1 x2 x3 = some z) : ez_M l X B σ yX11_part cX11_part 6 (some .int) 3 [.ref (B + h0), .int x1, .int x2, .int x3] (some (.int z.1)) z.2 := by
  refine ez_starti (z := z) (by decide) (Nat.le_of_ble_eq_true rfl) (fun p e R s m args below meth c Q hC hret hS ls hl => ?_)
  have hC : ez_C p R s m args c X B RX11 cX11_part 6 3 := hC
  have hx := hC.1.1
  have hb := hC.1.2.1
  have hown := hC.1.2.2.2.1
  have hts := hC.1.2.2.2.2
  have hl : lv_has ls 6 [(0, .ref (B + h0)), (1, .int x1), (2, .int x2), (3, .int x3)] := hl
  obtain ⟨σ0, eσ⟩ : ∃ σ0 : ez_H, σ0 = σ := ⟨_, rfl⟩
  rw [← eσ] at hret
  have hS : ez_S X B s.heap σ0.length σ s.heap [] := eσ ▸ hS
  obtain ⟨-, h⟩ := ez_in h
  have K_33 : ∀ (σ : ez_H) (H : Heap) (locs : List Loc) (ls : Array Slot), ez_S X B s.heap (σ0.length) σ H locs → z_X11_part_33 σ = some z → lv_has ls 6 [] → W p l e R s m args below meth c H locs 0 0 Q (F0 m 33 ls []) := by
    intro σ H locs ls hS h hl
    refine lv_iconst (v := -1) hx hb dX11_part_33 (by decide) ?_
    exact hret _ _ _ _ _ _ (Option.some.inj h) rfl hS dX11_part_34
  refine lv_aload_n hx hb dX11_part_0 rfl (lv_at hl 0 rfl) ?_
  refine eg_RX11_29 hC hS h dX11_part_1 (fun t_1 h => ?_)
  refine lv_iload_n hx hb dX11_part_4 rfl (lv_at hl 1 rfl) ?_
  refine ez_cVpi (As := [.int x1]) (rest := []) h (fun _ q => c_X3_hasLock q) hC k_X3_hasLock ql_RX11_165 rfl (by decide) hS (fun _ q => ez_rcv q) rfl hl.1 rfl (Nat.le_of_ble_eq_true rfl) ⟨Nat.zero_le _, Nat.zero_le _⟩ dX11_part_5 (fun t_5 H locs hS h => ?_)
  refine lv_if_eq (tgt := 33) hx hb dX11_part_8 (by decide) (fun c_8 => ?_) (fun c_8 => ?_)
  · replace h := ez_ifp h c_8
    exact K_33  σ _ _ _ hS h (lv_sub hl [] rfl)
  · replace h := ez_ifn h c_8
    refine lv_aload_n hx hb dX11_part_11 rfl (lv_at hl 0 rfl) ?_
    refine eg_RX11_37 hC hS h dX11_part_12 (fun t_12 h => ?_)
    refine lv_iload_n hx hb dX11_part_15 rfl (lv_at hl 2 rfl) ?_
    refine ez_cVpi (As := [.int x2]) (rest := []) h (fun _ q => c_X6_hasChamber q) hC k_X6_hasChamber ql_RX11_158 rfl (by decide) hS (fun _ q => ez_rcv q) rfl hl.1 rfl (Nat.le_of_ble_eq_true rfl) ⟨Nat.zero_le _, Nat.zero_le _⟩ dX11_part_16 (fun t_16 H locs hS h => ?_)
    refine lv_if_eq (tgt := 33) hx hb dX11_part_19 (by decide) (fun c_19 => ?_) (fun c_19 => ?_)
    · replace h := ez_ifp h c_19
      exact K_33  σ _ _ _ hS h (lv_sub hl [] rfl)
    · replace h := ez_ifn h c_19
      refine lv_aload_n hx hb dX11_part_22 rfl (lv_at hl 0 rfl) ?_
      refine eg_RX11_37 hC hS h dX11_part_23 (fun t_23 h => ?_)
      refine lv_iload_n hx hb dX11_part_26 rfl (lv_at hl 3 rfl) ?_
      refine ez_cVpi (As := [.int x3]) (rest := []) h (fun _ q => c_X6_hasDepth q) hC k_X6_hasDepth ql_RX11_288 rfl (by decide) hS (fun _ q => ez_rcv q) rfl hl.1 rfl (Nat.le_of_ble_eq_true rfl) ⟨Nat.zero_le _, Nat.zero_le _⟩ dX11_part_27 (fun t_27 H locs hS h => ?_)
      refine lv_if_ne (tgt := 35) hx hb dX11_part_30 (by decide) (fun c_30 => ?_) (fun c_30 => ?_)
      · replace h := ez_ifn h c_30
        refine lv_aload_n hx hb dX11_part_35 rfl (lv_at hl 0 rfl) ?_
        refine eg_RX11_41 hC hS h dX11_part_36 (fun t_36 h => ?_)
        refine lv_iload_n hx hb dX11_part_39 rfl (lv_at hl 1 rfl) ?_
        refine ez_cVpi (As := [.int x1]) (rest := []) h (fun _ q => c_X7_pins q) hC k_X7_pins ql_RX11_168 rfl (by decide) hS (fun _ q => ez_rcv q) rfl hl.1 rfl (Nat.le_of_ble_eq_true rfl) ⟨Nat.zero_le _, Nat.zero_le _⟩ dX11_part_40 (fun t_40 H locs hS h => ?_)
        refine lv_iload_n hx hb dX11_part_43 rfl (lv_at hl 2 rfl) ?_
        refine lv_iload_n hx hb dX11_part_44 rfl (lv_at hl 3 rfl) ?_
        refine ez_cSpi (As := [.int x2, .int x3]) (rest := [.int t_40]) h (fun _ q => c_X6_notch q) hC k_X6_notch ql_RX11_291 rfl (by decide) hS hl.1 rfl (Nat.le_of_ble_eq_true rfl) ⟨Nat.zero_le _, Nat.zero_le _⟩ dX11_part_45 (fun t_45 H locs hS h => ?_)
        refine lv_ixor hx hb dX11_part_48 ?_
        refine ez_top h (fun t_48 h => ?_)
        refine lv_istore (lv' := [(4, .int t_48), (0, .ref (B + h0)), (1, .int x1), (2, .int x2), (3, .int x3)]) hx hb dX11_part_49 hl (by decide) rfl (fun ls hl => ?_)
        refine lv_iload hx hb dX11_part_51 (lv_at hl 0 rfl) ?_
        refine lv_iload_n hx hb dX11_part_53 rfl (lv_at hl 3 rfl) ?_
        refine ez_cSpi (As := [.int t_48, .int x2]) (rest := []) h (fun _ q => c_X6_depthsAt q) hC k_X6_depthsAt ql_RX11_185 rfl (by decide) hS hl.1 rfl (Nat.le_of_ble_eq_true rfl) ⟨Nat.zero_le _, Nat.zero_le _⟩ dX11_part_54 (fun t_54 H locs hS h => ?_)
        refine lv_istore (lv' := [(5, .int t_54), (4, .int t_48), (0, .ref (B + h0)), (1, .int x1), (2, .int x2), (3, .int x3)]) hx hb dX11_part_57 hl (by decide) rfl (fun ls hl => ?_)
        refine lv_iload hx hb dX11_part_59 (lv_at hl 0 rfl) ?_
        refine lv_if_ne (tgt := 66) hx hb dX11_part_61 (by decide) (fun c_61 => ?_) (fun c_61 => ?_)
        · replace h := ez_ifn h c_61
          refine lv_aload_n hx hb dX11_part_66 rfl (lv_at hl 2 rfl) ?_
          refine eg_RX11_51 hC hS h dX11_part_67 (fun t_67 h => ?_)
          refine lv_aload_n hx hb dX11_part_70 rfl (lv_at hl 2 rfl) ?_
          refine eg_RX11_41 hC hS h dX11_part_71 (fun t_71 h => ?_)
          refine ez_cVv (As := [.ref (B + t_71)]) (rest := []) h (fun _ q => c_X1_keep q) hC k_X1_keep ql_RX11_222 rfl (by decide) hS (fun _ q => ez_rcv q) rfl hl.1 rfl (Nat.le_of_ble_eq_true rfl) ⟨Nat.zero_le _, Nat.zero_le _⟩ dX11_part_74 (fun _ σ H locs hS h => ?_)
          refine lv_aload_n hx hb dX11_part_77 rfl (lv_at hl 2 rfl) ?_
          refine eg_RX11_41 hC hS h dX11_part_78 (fun t_78 h => ?_)
          refine lv_iload_n hx hb dX11_part_81 rfl (lv_at hl 3 rfl) ?_
          refine lv_iload hx hb dX11_part_82 (lv_at hl 1 rfl) ?_
          refine ez_cVv (As := [.int x1, .int t_48]) (rest := []) h (fun _ q => c_X7_putPins q) hC k_X7_putPins ql_RX11_285 rfl (by decide) hS (fun _ q => ez_rcv q) rfl hl.1 rfl (Nat.le_of_ble_eq_true rfl) ⟨Nat.zero_le _, Nat.zero_le _⟩ dX11_part_84 (fun _ σ H locs hS h => ?_)
          refine lv_iload hx hb dX11_part_87 (lv_at hl 0 rfl) ?_
          exact hret _ _ _ _ _ _ (Option.some.inj h) rfl hS dX11_part_89
        · replace h := ez_ifp h c_61
          refine lv_iconst (v := -1) hx hb dX11_part_64 (by decide) ?_
          exact hret _ _ _ _ _ _ (Option.some.inj h) rfl hS dX11_part_65
      · replace h := ez_ifp h c_30
        exact K_33  σ _ _ _ hS h (lv_sub hl [] rfl)
set_option maxHeartbeats 4000000 in
set_option maxRecDepth 100000 in
theorem c_X11_parts {l : Launch} {X : ez_X} {B : Nat} {σ : ez_H} {h0 : Nat} {x1 : Int32} {x2 : Int32} {z : Int32} (h : z_X11_parts σ h0 x1 x2 = some z) : ez_M l X B σ yX11_parts cX11_parts 3 (some .int) 2 [.ref (B + h0), .int x1, .int x2] (some (.int z)) σ := by
  refine ez_startip (z := z) (by decide) (Nat.le_of_ble_eq_true rfl) (fun p e R s m args below meth c Q hC hret hS ls hl => ?_)
  have hC : ez_C p R s m args c X B RX11 cX11_parts 3 2 := hC
  have hx := hC.1.1
  have hb := hC.1.2.1
  have hown := hC.1.2.2.2.1
  have hts := hC.1.2.2.2.2
  have hl : lv_has ls 3 [(0, .ref (B + h0)), (1, .int x1), (2, .int x2)] := hl
  obtain ⟨n0, e0⟩ : ∃ n0 : Nat, n0 = σ.length := ⟨_, rfl⟩
  rw [← e0] at hret hS
  obtain ⟨-, h⟩ := ez_in h
  have K_22 : ∀ (H : Heap) (locs : List Loc) (ls : Array Slot), ez_S X B s.heap (n0) σ H locs → z_X11_parts_22 σ = some z → lv_has ls 3 [] → W p l e R s m args below meth c H locs 0 0 Q (F0 m 22 ls []) := by
    intro  H locs ls hS h hl
    refine lv_iconst (v := -1) hx hb dX11_parts_22 (by decide) ?_
    exact hret _ _ _ _ _ (Option.some.inj h) rfl hS dX11_parts_23
  refine lv_aload_n hx hb dX11_parts_0 rfl (lv_at hl 0 rfl) ?_
  refine eg_RX11_29 hC hS h dX11_parts_1 (fun t_1 h => ?_)
  refine lv_iload_n hx hb dX11_parts_4 rfl (lv_at hl 1 rfl) ?_
  refine ez_cVpi (As := [.int x1]) (rest := []) h (fun _ q => c_X3_hasLock q) hC k_X3_hasLock ql_RX11_165 rfl (by decide) hS (fun _ q => ez_rcv q) rfl hl.1 rfl (Nat.le_of_ble_eq_true rfl) ⟨Nat.zero_le _, Nat.zero_le _⟩ dX11_parts_5 (fun t_5 H locs hS h => ?_)
  refine lv_if_eq (tgt := 22) hx hb dX11_parts_8 (by decide) (fun c_8 => ?_) (fun c_8 => ?_)
  · replace h := ez_ifp h c_8
    exact K_22   _ _ _ hS h (lv_sub hl [] rfl)
  · replace h := ez_ifn h c_8
    refine lv_aload_n hx hb dX11_parts_11 rfl (lv_at hl 0 rfl) ?_
    refine eg_RX11_37 hC hS h dX11_parts_12 (fun t_12 h => ?_)
    refine lv_iload_n hx hb dX11_parts_15 rfl (lv_at hl 2 rfl) ?_
    refine ez_cVpi (As := [.int x2]) (rest := []) h (fun _ q => c_X6_hasChamber q) hC k_X6_hasChamber ql_RX11_158 rfl (by decide) hS (fun _ q => ez_rcv q) rfl hl.1 rfl (Nat.le_of_ble_eq_true rfl) ⟨Nat.zero_le _, Nat.zero_le _⟩ dX11_parts_16 (fun t_16 H locs hS h => ?_)
    refine lv_if_ne (tgt := 24) hx hb dX11_parts_19 (by decide) (fun c_19 => ?_) (fun c_19 => ?_)
    · replace h := ez_ifn h c_19
      refine lv_aload_n hx hb dX11_parts_24 rfl (lv_at hl 0 rfl) ?_
      refine eg_RX11_41 hC hS h dX11_parts_25 (fun t_25 h => ?_)
      refine lv_iload_n hx hb dX11_parts_28 rfl (lv_at hl 1 rfl) ?_
      refine ez_cVpi (As := [.int x1]) (rest := []) h (fun _ q => c_X7_pins q) hC k_X7_pins ql_RX11_168 rfl (by decide) hS (fun _ q => ez_rcv q) rfl hl.1 rfl (Nat.le_of_ble_eq_true rfl) ⟨Nat.zero_le _, Nat.zero_le _⟩ dX11_parts_29 (fun t_29 H locs hS h => ?_)
      refine lv_iload_n hx hb dX11_parts_32 rfl (lv_at hl 2 rfl) ?_
      refine ez_cSpi (As := [.int t_29, .int x2]) (rest := []) h (fun _ q => c_X6_depthsAt q) hC k_X6_depthsAt ql_RX11_185 rfl (by decide) hS hl.1 rfl (Nat.le_of_ble_eq_true rfl) ⟨Nat.zero_le _, Nat.zero_le _⟩ dX11_parts_33 (fun t_33 H locs hS h => ?_)
      exact hret _ _ _ _ _ (Option.some.inj h) rfl hS dX11_parts_36
    · replace h := ez_ifp h c_19
      exact K_22   _ _ _ hS h (lv_sub hl [] rfl)
set_option maxHeartbeats 4000000 in
set_option maxRecDepth 100000 in
theorem c_X11_person {l : Launch} {X : ez_X} {B : Nat} {σ : ez_H} {h0 : Nat} {x1 : Int32} {x2 : Int32} {z : Int32} (h : z_X11_person σ h0 x1 x2 = some z) : ez_M l X B σ yX11_person cX11_person 3 (some .int) 5 [.ref (B + h0), .int x1, .int x2] (some (.int z)) σ := by
  refine ez_startip (z := z) (by decide) (Nat.le_of_ble_eq_true rfl) (fun p e R s m args below meth c Q hC hret hS ls hl => ?_)
  have hC : ez_C p R s m args c X B RX11 cX11_person 3 5 := hC
  have hx := hC.1.1
  have hb := hC.1.2.1
  have hown := hC.1.2.2.2.1
  have hts := hC.1.2.2.2.2
  have hl : lv_has ls 3 [(0, .ref (B + h0)), (1, .int x1), (2, .int x2)] := hl
  obtain ⟨n0, e0⟩ : ∃ n0 : Nat, n0 = σ.length := ⟨_, rfl⟩
  rw [← e0] at hret hS
  obtain ⟨-, h⟩ := ez_in h
  refine lv_aload_n hx hb dX11_person_0 rfl (lv_at hl 0 rfl) ?_
  refine eg_RX11_29 hC hS h dX11_person_1 (fun t_1 h => ?_)
  refine lv_iload_n hx hb dX11_person_4 rfl (lv_at hl 1 rfl) ?_
  refine ez_cVpi (As := [.int x1]) (rest := []) h (fun _ q => c_X3_hasPerson q) hC k_X3_hasPerson ql_RX11_200 rfl (by decide) hS (fun _ q => ez_rcv q) rfl hl.1 rfl (Nat.le_of_ble_eq_true rfl) ⟨Nat.zero_le _, Nat.zero_le _⟩ dX11_person_5 (fun t_5 H locs hS h => ?_)
  refine lv_if_ne (tgt := 13) hx hb dX11_person_8 (by decide) (fun c_8 => ?_) (fun c_8 => ?_)
  · replace h := ez_ifn h c_8
    refine lv_iload_n hx hb dX11_person_13 rfl (lv_at hl 2 rfl) ?_
    by_cases s_14_0 : x2 = 0
    · replace h := ez_ifp h s_14_0
      refine lv_tableIn (tgt := 40) hx hb dX11_person_14 (by rw [s_14_0]; decide) (by rw [s_14_0]; decide) (by first | (rw [s_14_0]; done) | (rw [s_14_0]; rfl)) (by decide) ?_
      refine lv_aload_n hx hb dX11_person_40 rfl (lv_at hl 0 rfl) ?_
      refine eg_RX11_41 hC hS h dX11_person_41 (fun t_41 h => ?_)
      refine lv_iload_n hx hb dX11_person_44 rfl (lv_at hl 1 rfl) ?_
      refine ez_cVpi (As := [.int x1]) (rest := []) h (fun _ q => c_X7_room q) hC k_X7_room ql_RX11_203 rfl (by decide) hS (fun _ q => ez_rcv q) rfl hl.1 rfl (Nat.le_of_ble_eq_true rfl) ⟨Nat.zero_le _, Nat.zero_le _⟩ dX11_person_45 (fun t_45 H locs hS h => ?_)
      exact hret _ _ _ _ _ (Option.some.inj h) rfl hS dX11_person_48
    replace h := ez_ifn h s_14_0
    by_cases s_14_1 : x2 = 1
    · replace h := ez_ifp h s_14_1
      refine lv_tableIn (tgt := 49) hx hb dX11_person_14 (by rw [s_14_1]; decide) (by rw [s_14_1]; decide) (by first | (rw [s_14_1]; done) | (rw [s_14_1]; rfl)) (by decide) ?_
      refine lv_aload_n hx hb dX11_person_49 rfl (lv_at hl 0 rfl) ?_
      refine eg_RX11_41 hC hS h dX11_person_50 (fun t_50 h => ?_)
      refine lv_iload_n hx hb dX11_person_53 rfl (lv_at hl 1 rfl) ?_
      refine lv_aload_n hx hb dX11_person_54 rfl (lv_at hl 0 rfl) ?_
      refine eg_RX11_29 hC hS h dX11_person_55 (fun t_55 h => ?_)
      refine eg_RX11_128 hC hS h dX11_person_58 (fun t_58 h => ?_)
      refine ez_cVpi (As := [.int x1, .int t_58]) (rest := []) h (fun _ q => c_X7_heldBy q) hC k_X7_heldBy ql_RX11_206 rfl (by decide) hS (fun _ q => ez_rcv q) rfl hl.1 rfl (Nat.le_of_ble_eq_true rfl) ⟨Nat.zero_le _, Nat.zero_le _⟩ dX11_person_61 (fun t_61 H locs hS h => ?_)
      exact hret _ _ _ _ _ (Option.some.inj h) rfl hS dX11_person_64
    replace h := ez_ifn h s_14_1
    by_cases s_14_2 : x2 = 2
    · replace h := ez_ifp h s_14_2
      refine lv_tableIn (tgt := 65) hx hb dX11_person_14 (by rw [s_14_2]; decide) (by rw [s_14_2]; decide) (by first | (rw [s_14_2]; done) | (rw [s_14_2]; rfl)) (by decide) ?_
      refine lv_aload_n hx hb dX11_person_65 rfl (lv_at hl 0 rfl) ?_
      refine eg_RX11_79 hC hS h dX11_person_66 (fun t_66 h => ?_)
      refine lv_iload_n hx hb dX11_person_69 rfl (lv_at hl 1 rfl) ?_
      refine ez_cVpi (As := [.int x1]) (rest := []) h (fun _ q => c_X2_reachOf q) hC k_X2_reachOf ql_RX11_209 rfl (by decide) hS (fun _ q => ez_rcv q) rfl hl.1 rfl (Nat.le_of_ble_eq_true rfl) ⟨Nat.zero_le _, Nat.zero_le _⟩ dX11_person_70 (fun t_70 H locs hS h => ?_)
      exact hret _ _ _ _ _ (Option.some.inj h) rfl hS dX11_person_73
    replace h := ez_ifn h s_14_2
    have w_14 : Int32.toInt x2 < 0 ∨ 2 < Int32.toInt x2 := by
      have q_0 := ez_toNe (k := 0) s_14_0 (by decide)
      have q_1 := ez_toNe (k := 1) s_14_1 (by decide)
      have q_2 := ez_toNe (k := 2) s_14_2 (by decide)
      omega
    refine lv_tableOut (tgt := 74) hx hb dX11_person_14 w_14 (by decide) ?_
    refine lv_iconst (v := -1) hx hb dX11_person_74 (by decide) ?_
    exact hret _ _ _ _ _ (Option.some.inj h) rfl hS dX11_person_75
  · replace h := ez_ifp h c_8
    refine lv_iconst (v := -1) hx hb dX11_person_11 (by decide) ?_
    exact hret _ _ _ _ _ (Option.some.inj h) rfl hS dX11_person_12
set_option maxHeartbeats 4000000 in
set_option maxRecDepth 100000 in
theorem c_X3_hasKeys {l : Launch} {X : ez_X} {B : Nat} {σ : ez_H} {h0 : Nat} {x1 : Int32} {z : Int32} (h : z_X3_hasKeys σ h0 x1 = some z) : ez_M l X B σ yX3_hasKeys cX3_hasKeys 2 (some .boolean) 1 [.ref (B + h0), .int x1] (some (.int z)) σ := by
  refine ez_startip (z := z) (by decide) (Nat.le_of_ble_eq_true rfl) (fun p e R s m args below meth c Q hC hret hS ls hl => ?_)
  have hC : ez_C p R s m args c X B RX3 cX3_hasKeys 2 1 := hC
  have hx := hC.1.1
  have hb := hC.1.2.1
  have hown := hC.1.2.2.2.1
  have hts := hC.1.2.2.2.2
  have hl : lv_has ls 2 [(0, .ref (B + h0)), (1, .int x1)] := hl
  obtain ⟨n0, e0⟩ : ∃ n0 : Nat, n0 = σ.length := ⟨_, rfl⟩
  rw [← e0] at hret hS
  obtain ⟨-, h⟩ := ez_in h
  have K_16 : ∀ (y0 : Int32) (H : Heap) (locs : List Loc) (ls : Array Slot), ez_S X B s.heap (n0) σ H locs → z_X3_hasKeys_16 σ y0 = some z → lv_has ls 2 [] → W p l e R s m args below meth c H locs 0 0 Q (F0 m 16 ls [.int y0]) := by
    intro y0 H locs ls hS h hl
    obtain ⟨hn, h⟩ := ez_nr_sp rfl h
    exact hret _ _ _ _ _ (Option.some.inj h) hn hS dX3_hasKeys_16
  refine lv_iload_n hx hb dX3_hasKeys_0 rfl (lv_at hl 1 rfl) ?_
  refine lv_aload_n hx hb dX3_hasKeys_1 rfl (lv_at hl 0 rfl) ?_
  refine ez_cVpi (As := []) (rest := [.int x1]) h (fun _ q => c_X3_allKeys q) hC k_X3_allKeys ql_RX3_93 rfl (by decide) hS (fun _ q => ez_rcv q) rfl hl.1 rfl (Nat.le_of_ble_eq_true rfl) ⟨Nat.zero_le _, Nat.zero_le _⟩ dX3_hasKeys_2 (fun t_2 H locs hS h => ?_)
  refine lv_iconst (v := -1) hx hb dX3_hasKeys_5 (by decide) ?_
  refine lv_ixor hx hb dX3_hasKeys_6 ?_
  refine ez_top h (fun t_6 h => ?_)
  refine lv_iand hx hb dX3_hasKeys_7 ?_
  refine ez_top h (fun t_7 h => ?_)
  refine lv_if_ne (tgt := 15) hx hb dX3_hasKeys_8 (by decide) (fun c_8 => ?_) (fun c_8 => ?_)
  · replace h := ez_ifn h c_8
    refine lv_iconst (v := 0) hx hb dX3_hasKeys_15 (by decide) ?_
    exact K_16  (0 : Int32) _ _ _ hS h (lv_sub hl [] rfl)
  · replace h := ez_ifp h c_8
    refine lv_iconst (v := 1) hx hb dX3_hasKeys_11 (by decide) ?_
    refine lv_goto (tgt := 16) hx hb dX3_hasKeys_12 (by decide) ?_
    exact K_16  (1 : Int32) _ _ _ hS h (lv_sub hl [] rfl)
set_option maxHeartbeats 4000000 in
set_option maxRecDepth 100000 in
theorem c_X11_pin {l : Launch} {X : ez_X} {B : Nat} {σ : ez_H} {h0 : Nat} {x1 : Int32} {x2 : Int32} {z : Int32 × ez_H} (h : z_X11_pin σ h0 x1 x2 = some z) : ez_M l X B σ yX11_pin cX11_pin 3 (some .int) 3 [.ref (B + h0), .int x1, .int x2] (some (.int z.1)) z.2 := by
  refine ez_starti (z := z) (by decide) (Nat.le_of_ble_eq_true rfl) (fun p e R s m args below meth c Q hC hret hS ls hl => ?_)
  have hC : ez_C p R s m args c X B RX11 cX11_pin 3 3 := hC
  have hx := hC.1.1
  have hb := hC.1.2.1
  have hown := hC.1.2.2.2.1
  have hts := hC.1.2.2.2.2
  have hl : lv_has ls 3 [(0, .ref (B + h0)), (1, .int x1), (2, .int x2)] := hl
  obtain ⟨σ0, eσ⟩ : ∃ σ0 : ez_H, σ0 = σ := ⟨_, rfl⟩
  rw [← eσ] at hret
  have hS : ez_S X B s.heap σ0.length σ s.heap [] := eσ ▸ hS
  obtain ⟨-, h⟩ := ez_in h
  have K_26 : ∀ (σ : ez_H) (H : Heap) (locs : List Loc) (ls : Array Slot), ez_S X B s.heap (σ0.length) σ H locs → z_X11_pin_26 σ = some z → lv_has ls 3 [] → W p l e R s m args below meth c H locs 0 0 Q (F0 m 26 ls []) := by
    intro σ H locs ls hS h hl
    refine lv_iconst (v := -1) hx hb dX11_pin_26 (by decide) ?_
    exact hret _ _ _ _ _ _ (Option.some.inj h) rfl hS dX11_pin_27
  refine lv_aload_n hx hb dX11_pin_0 rfl (lv_at hl 0 rfl) ?_
  refine eg_RX11_29 hC hS h dX11_pin_1 (fun t_1 h => ?_)
  refine lv_iload_n hx hb dX11_pin_4 rfl (lv_at hl 1 rfl) ?_
  refine ez_cVpi (As := [.int x1]) (rest := []) h (fun _ q => c_X3_hasLock q) hC k_X3_hasLock ql_RX11_165 rfl (by decide) hS (fun _ q => ez_rcv q) rfl hl.1 rfl (Nat.le_of_ble_eq_true rfl) ⟨Nat.zero_le _, Nat.zero_le _⟩ dX11_pin_5 (fun t_5 H locs hS h => ?_)
  refine lv_if_eq (tgt := 26) hx hb dX11_pin_8 (by decide) (fun c_8 => ?_) (fun c_8 => ?_)
  · replace h := ez_ifp h c_8
    exact K_26  σ _ _ _ hS h (lv_sub hl [] rfl)
  · replace h := ez_ifn h c_8
    refine lv_iload_n hx hb dX11_pin_11 rfl (lv_at hl 2 rfl) ?_
    refine lv_if_le (tgt := 26) hx hb dX11_pin_12 (by decide) (fun c_12 => ?_) (fun c_12 => ?_)
    · replace h := ez_ifp h c_12
      exact K_26  σ _ _ _ hS h (lv_sub hl [] rfl)
    · replace h := ez_ifn h c_12
      refine lv_aload_n hx hb dX11_pin_15 rfl (lv_at hl 0 rfl) ?_
      refine eg_RX11_29 hC hS h dX11_pin_16 (fun t_16 h => ?_)
      refine lv_iload_n hx hb dX11_pin_19 rfl (lv_at hl 2 rfl) ?_
      refine ez_cVpi (As := [.int x2]) (rest := []) h (fun _ q => c_X3_hasKeys q) hC k_X3_hasKeys ql_RX11_279 rfl (by decide) hS (fun _ q => ez_rcv q) rfl hl.1 rfl (Nat.le_of_ble_eq_true rfl) ⟨Nat.zero_le _, Nat.zero_le _⟩ dX11_pin_20 (fun t_20 H locs hS h => ?_)
      refine lv_if_ne (tgt := 28) hx hb dX11_pin_23 (by decide) (fun c_23 => ?_) (fun c_23 => ?_)
      · replace h := ez_ifn h c_23
        refine lv_aload_n hx hb dX11_pin_28 rfl (lv_at hl 0 rfl) ?_
        refine eg_RX11_51 hC hS h dX11_pin_29 (fun t_29 h => ?_)
        refine lv_aload_n hx hb dX11_pin_32 rfl (lv_at hl 0 rfl) ?_
        refine eg_RX11_41 hC hS h dX11_pin_33 (fun t_33 h => ?_)
        refine ez_cVv (As := [.ref (B + t_33)]) (rest := []) h (fun _ q => c_X1_keep q) hC k_X1_keep ql_RX11_222 rfl (by decide) hS (fun _ q => ez_rcv q) rfl hl.1 rfl (Nat.le_of_ble_eq_true rfl) ⟨Nat.zero_le _, Nat.zero_le _⟩ dX11_pin_36 (fun _ σ H locs hS h => ?_)
        refine lv_aload_n hx hb dX11_pin_39 rfl (lv_at hl 0 rfl) ?_
        refine eg_RX11_41 hC hS h dX11_pin_40 (fun t_40 h => ?_)
        refine lv_iload_n hx hb dX11_pin_43 rfl (lv_at hl 1 rfl) ?_
        refine lv_aload_n hx hb dX11_pin_44 rfl (lv_at hl 0 rfl) ?_
        refine eg_RX11_86 hC hS h dX11_pin_45 (fun t_45 h => ?_)
        refine lv_iload_n hx hb dX11_pin_48 rfl (lv_at hl 2 rfl) ?_
        refine ez_cVpi (As := [.int x2]) (rest := [.int x1, .ref (B + t_40)]) h (fun _ q => c_X5_pinsFor q) hC k_X5_pinsFor ql_RX11_282 rfl (by decide) hS (fun _ q => ez_rcv q) rfl hl.1 rfl (Nat.le_of_ble_eq_true rfl) ⟨Nat.zero_le _, Nat.zero_le _⟩ dX11_pin_49 (fun t_49 H locs hS h => ?_)
        refine ez_cVv (As := [.int x1, .int t_49]) (rest := []) h (fun _ q => c_X7_putPins q) hC k_X7_putPins ql_RX11_285 rfl (by decide) hS (fun _ q => ez_rcv q) rfl hl.1 rfl (Nat.le_of_ble_eq_true rfl) ⟨Nat.zero_le _, Nat.zero_le _⟩ dX11_pin_52 (fun _ σ H locs hS h => ?_)
        refine lv_aload_n hx hb dX11_pin_55 rfl (lv_at hl 0 rfl) ?_
        refine eg_RX11_41 hC hS h dX11_pin_56 (fun t_56 h => ?_)
        refine lv_iload_n hx hb dX11_pin_59 rfl (lv_at hl 1 rfl) ?_
        refine ez_cVpi (As := [.int x1]) (rest := []) h (fun _ q => c_X7_pins q) hC k_X7_pins ql_RX11_168 rfl (by decide) hS (fun _ q => ez_rcv q) rfl hl.1 rfl (Nat.le_of_ble_eq_true rfl) ⟨Nat.zero_le _, Nat.zero_le _⟩ dX11_pin_60 (fun t_60 H locs hS h => ?_)
        refine ez_cSpi (As := [.int t_60]) (rest := []) h (fun _ q => c_J6_bitCount_0f7a4 q) hC k_J6_bitCount_0f7a4 ql_RX11_171 rfl (by decide) hS hl.1 rfl (Nat.le_of_ble_eq_true rfl) ⟨Nat.zero_le _, Nat.zero_le _⟩ dX11_pin_63 (fun t_63 H locs hS h => ?_)
        exact hret _ _ _ _ _ _ (Option.some.inj h) rfl hS dX11_pin_66
      · replace h := ez_ifp h c_23
        exact K_26  σ _ _ _ hS h (lv_sub hl [] rfl)
set_option maxHeartbeats 4000000 in
set_option maxRecDepth 100000 in
theorem c_X0_clear {l : Launch} {X : ez_X} {B : Nat} {σ : ez_H} {h0 : Nat} {z : Unit × ez_H} (h : z_X0_clear σ h0 = some z) : ez_M l X B σ yX0_clear cX0_clear 1 (none) 0 [.ref (B + h0)] (none) z.2 := by
  refine ez_startv (z := z) (by decide) (Nat.le_of_ble_eq_true rfl) (fun p e R s m args below meth c Q hC hret hS ls hl => ?_)
  have hC : ez_C p R s m args c X B RX0 cX0_clear 1 0 := hC
  have hx := hC.1.1
  have hb := hC.1.2.1
  have hown := hC.1.2.2.2.1
  have hts := hC.1.2.2.2.2
  have hl : lv_has ls 1 [(0, .ref (B + h0))] := hl
  obtain ⟨σ0, eσ⟩ : ∃ σ0 : ez_H, σ0 = σ := ⟨_, rfl⟩
  rw [← eσ] at hret
  have hS : ez_S X B s.heap σ0.length σ s.heap [] := eσ ▸ hS
  obtain ⟨-, h⟩ := ez_in h
  refine lv_aload_n hx hb dX0_clear_0 rfl (lv_at hl 0 rfl) ?_
  refine lv_iconst (v := 0) hx hb dX0_clear_1 (by decide) ?_
  refine ep_RX0_9 hC hS h dX0_clear_2 (fun σ H locs hS h => ?_)
  refine lv_aload_n hx hb dX0_clear_5 rfl (lv_at hl 0 rfl) ?_
  refine lv_iconst (v := 0) hx hb dX0_clear_6 (by decide) ?_
  refine ep_RX0_13 hC hS h dX0_clear_7 (fun σ H locs hS h => ?_)
  exact hret _ _ _ _ _ _ (Option.some.inj h) hS dX0_clear_10
set_option maxHeartbeats 4000000 in
set_option maxRecDepth 100000 in
theorem c_X7_clear {l : Launch} {X : ez_X} {B : Nat} {σ : ez_H} {h0 : Nat} {z : Unit × ez_H} (h : z_X7_clear σ h0 = some z) : ez_M l X B σ yX7_clear cX7_clear 1 (none) 1 [.ref (B + h0)] (none) z.2 := by
  refine ez_startv (z := z) (by decide) (Nat.le_of_ble_eq_true rfl) (fun p e R s m args below meth c Q hC hret hS ls hl => ?_)
  have hC : ez_C p R s m args c X B RX7 cX7_clear 1 1 := hC
  have hx := hC.1.1
  have hb := hC.1.2.1
  have hown := hC.1.2.2.2.1
  have hts := hC.1.2.2.2.2
  have hl : lv_has ls 1 [(0, .ref (B + h0))] := hl
  obtain ⟨σ0, eσ⟩ : ∃ σ0 : ez_H, σ0 = σ := ⟨_, rfl⟩
  rw [← eσ] at hret
  have hS : ez_S X B s.heap σ0.length σ s.heap [] := eσ ▸ hS
  obtain ⟨-, h⟩ := ez_in h
  refine lv_aload_n hx hb dX7_clear_0 rfl (lv_at hl 0 rfl) ?_
  refine eg_RX7_11 hC hS h dX7_clear_1 (fun t_1 h => ?_)
  refine lv_iconst (v := 0) hx hb dX7_clear_4 (by decide) ?_
  refine ez_cSv (As := [.ref (B + t_1), .int 0]) (rest := []) h (fun _ q => c_J7_fill_53178 q) hC k_J7_fill_53178 ql_RX7_15 rfl (by decide) hS hl.1 rfl (Nat.le_of_ble_eq_true rfl) ⟨Nat.zero_le _, Nat.zero_le _⟩ dX7_clear_5 (fun _ σ H locs hS h => ?_)
  exact hret _ _ _ _ _ _ (Option.some.inj h) hS dX7_clear_8
set_option maxHeartbeats 4000000 in
set_option maxRecDepth 100000 in
theorem c_X3_clear {l : Launch} {X : ez_X} {B : Nat} {σ : ez_H} {h0 : Nat} {z : Unit × ez_H} (h : z_X3_clear σ h0 = some z) : ez_M l X B σ yX3_clear cX3_clear 1 (none) 2 [.ref (B + h0)] (none) z.2 := by
  refine ez_startv (z := z) (by decide) (Nat.le_of_ble_eq_true rfl) (fun p e R s m args below meth c Q hC hret hS ls hl => ?_)
  have hC : ez_C p R s m args c X B RX3 cX3_clear 1 2 := hC
  have hx := hC.1.1
  have hb := hC.1.2.1
  have hown := hC.1.2.2.2.1
  have hts := hC.1.2.2.2.2
  have hl : lv_has ls 1 [(0, .ref (B + h0))] := hl
  obtain ⟨σ0, eσ⟩ : ∃ σ0 : ez_H, σ0 = σ := ⟨_, rfl⟩
  rw [← eσ] at hret
  have hS : ez_S X B s.heap σ0.length σ s.heap [] := eσ ▸ hS
  obtain ⟨-, h⟩ := ez_in h
  refine lv_aload_n hx hb dX3_clear_0 rfl (lv_at hl 0 rfl) ?_
  refine eg_RX3_12 hC hS h dX3_clear_1 (fun t_1 h => ?_)
  refine ez_cVv (As := []) (rest := []) h (fun _ q => c_X6_reset q) hC k_X6_reset ql_RX3_48 rfl (by decide) hS (fun _ q => ez_rcv q) rfl hl.1 rfl (Nat.le_of_ble_eq_true rfl) ⟨Nat.zero_le _, Nat.zero_le _⟩ dX3_clear_4 (fun _ σ H locs hS h => ?_)
  refine lv_aload_n hx hb dX3_clear_7 rfl (lv_at hl 0 rfl) ?_
  refine eg_RX3_21 hC hS h dX3_clear_8 (fun t_8 h => ?_)
  refine ez_cVv (As := []) (rest := []) h (fun _ q => c_X0_clear q) hC k_X0_clear ql_RX3_51 rfl (by decide) hS (fun _ q => ez_rcv q) rfl hl.1 rfl (Nat.le_of_ble_eq_true rfl) ⟨Nat.zero_le _, Nat.zero_le _⟩ dX3_clear_11 (fun _ σ H locs hS h => ?_)
  refine lv_aload_n hx hb dX3_clear_14 rfl (lv_at hl 0 rfl) ?_
  refine eg_RX3_28 hC hS h dX3_clear_15 (fun t_15 h => ?_)
  refine ez_cVv (As := []) (rest := []) h (fun _ q => c_X7_clear q) hC k_X7_clear ql_RX3_54 rfl (by decide) hS (fun _ q => ez_rcv q) rfl hl.1 rfl (Nat.le_of_ble_eq_true rfl) ⟨Nat.zero_le _, Nat.zero_le _⟩ dX3_clear_18 (fun _ σ H locs hS h => ?_)
  refine lv_aload_n hx hb dX3_clear_21 rfl (lv_at hl 0 rfl) ?_
  refine lv_iconst (v := 0) hx hb dX3_clear_22 (by decide) ?_
  refine ep_RX3_55 hC hS h dX3_clear_23 (fun σ H locs hS h => ?_)
  refine lv_aload_n hx hb dX3_clear_26 rfl (lv_at hl 0 rfl) ?_
  refine lv_iconst (v := 0) hx hb dX3_clear_27 (by decide) ?_
  refine ep_RX3_59 hC hS h dX3_clear_28 (fun σ H locs hS h => ?_)
  refine lv_aload_n hx hb dX3_clear_31 rfl (lv_at hl 0 rfl) ?_
  refine lv_iconst (v := 0) hx hb dX3_clear_32 (by decide) ?_
  refine ep_RX3_62 hC hS h dX3_clear_33 (fun σ H locs hS h => ?_)
  refine lv_aload_n hx hb dX3_clear_36 rfl (lv_at hl 0 rfl) ?_
  refine lv_iconst (v := 0) hx hb dX3_clear_37 (by decide) ?_
  refine ep_RX3_65 hC hS h dX3_clear_38 (fun σ H locs hS h => ?_)
  refine lv_aload_n hx hb dX3_clear_41 rfl (lv_at hl 0 rfl) ?_
  refine lv_iconst (v := 0) hx hb dX3_clear_42 (by decide) ?_
  refine ep_RX3_68 hC hS h dX3_clear_43 (fun σ H locs hS h => ?_)
  refine lv_aload_n hx hb dX3_clear_46 rfl (lv_at hl 0 rfl) ?_
  refine eg_RX3_42 hC hS h dX3_clear_47 (fun t_47 h => ?_)
  refine lv_iconst (v := 0) hx hb dX3_clear_50 (by decide) ?_
  refine ez_cSv (As := [.ref (B + t_47), .int 0]) (rest := []) h (fun _ q => c_J7_fill_53178 q) hC k_J7_fill_53178 ql_RX3_71 rfl (by decide) hS hl.1 rfl (Nat.le_of_ble_eq_true rfl) ⟨Nat.zero_le _, Nat.zero_le _⟩ dX3_clear_51 (fun _ σ H locs hS h => ?_)
  refine lv_aload_n hx hb dX3_clear_54 rfl (lv_at hl 0 rfl) ?_
  refine eg_RX3_45 hC hS h dX3_clear_55 (fun t_55 h => ?_)
  refine lv_iconst (v := 0) hx hb dX3_clear_58 (by decide) ?_
  refine ez_cSv (As := [.ref (B + t_55), .int 0]) (rest := []) h (fun _ q => c_J7_fill_53178 q) hC k_J7_fill_53178 ql_RX3_71 rfl (by decide) hS hl.1 rfl (Nat.le_of_ble_eq_true rfl) ⟨Nat.zero_le _, Nat.zero_le _⟩ dX3_clear_59 (fun _ σ H locs hS h => ?_)
  exact hret _ _ _ _ _ _ (Option.some.inj h) hS dX3_clear_62
set_option maxHeartbeats 4000000 in
set_option maxRecDepth 100000 in
theorem c_X9_byteAt {l : Launch} {X : ez_X} {B : Nat} {σ : ez_H} {h0 : Nat} {x1 : Int32} {z : Int32} (h : z_X9_byteAt σ h0 x1 = some z) : ez_M l X B σ yX9_byteAt cX9_byteAt 2 (some .int) 0 [.ref (B + h0), .int x1] (some (.int z)) σ := by
  refine ez_startip (z := z) (by decide) (Nat.le_of_ble_eq_true rfl) (fun p e R s m args below meth c Q hC hret hS ls hl => ?_)
  have hC : ez_C p R s m args c X B RX9 cX9_byteAt 2 0 := hC
  have hx := hC.1.1
  have hb := hC.1.2.1
  have hown := hC.1.2.2.2.1
  have hts := hC.1.2.2.2.2
  have hl : lv_has ls 2 [(0, .ref (B + h0)), (1, .int x1)] := hl
  obtain ⟨n0, e0⟩ : ∃ n0 : Nat, n0 = σ.length := ⟨_, rfl⟩
  rw [← e0] at hret hS
  obtain ⟨-, h⟩ := ez_in h
  have K_35 : ∀ (y0 : Int32) (H : Heap) (locs : List Loc) (ls : Array Slot), ez_S X B s.heap (n0) σ H locs → z_X9_byteAt_35 σ y0 = some z → lv_has ls 2 [] → W p l e R s m args below meth c H locs 0 0 Q (F0 m 35 ls [.int y0]) := by
    intro y0 H locs ls hS h hl
    exact hret _ _ _ _ _ (Option.some.inj h) rfl hS dX9_byteAt_35
  have K_34 : ∀ (H : Heap) (locs : List Loc) (ls : Array Slot), ez_S X B s.heap (n0) σ H locs → z_X9_byteAt_34 σ = some z → lv_has ls 2 [] → W p l e R s m args below meth c H locs 0 0 Q (F0 m 34 ls []) := by
    intro  H locs ls hS h hl
    refine lv_iconst (v := -1) hx hb dX9_byteAt_34 (by decide) ?_
    exact K_35  (-1 : Int32) _ _ _ hS h (lv_sub hl [] rfl)
  refine lv_iload_n hx hb dX9_byteAt_0 rfl (lv_at hl 1 rfl) ?_
  refine lv_if_lt (tgt := 34) hx hb dX9_byteAt_1 (by decide) (fun c_1 => ?_) (fun c_1 => ?_)
  · replace h := ez_ifp h c_1
    exact K_34   _ _ _ hS h (lv_sub hl [] rfl)
  · replace h := ez_ifn h c_1
    refine lv_iload_n hx hb dX9_byteAt_4 rfl (lv_at hl 1 rfl) ?_
    refine lv_aload_n hx hb dX9_byteAt_5 rfl (lv_at hl 0 rfl) ?_
    refine eg_RX9_41 hC hS h dX9_byteAt_6 (fun t_6 h => ?_)
    refine lv_icmp_ge (tgt := 34) hx hb dX9_byteAt_9 (by decide) (fun c_9 => ?_) (fun c_9 => ?_)
    · replace h := ez_ifp h c_9
      exact K_34   _ _ _ hS h (lv_sub hl [] rfl)
    · replace h := ez_ifn h c_9
      refine lv_iload_n hx hb dX9_byteAt_12 rfl (lv_at hl 1 rfl) ?_
      refine lv_aload_n hx hb dX9_byteAt_13 rfl (lv_at hl 0 rfl) ?_
      refine eg_RX9_9 hC hS h dX9_byteAt_14 (fun t_14 h => ?_)
      refine ez_lnB hC hS h dX9_byteAt_17 (fun t_17 h => ?_)
      refine lv_icmp_ge (tgt := 34) hx hb dX9_byteAt_18 (by decide) (fun c_18 => ?_) (fun c_18 => ?_)
      · replace h := ez_ifp h c_18
        exact K_34   _ _ _ hS h (lv_sub hl [] rfl)
      · replace h := ez_ifn h c_18
        refine lv_aload_n hx hb dX9_byteAt_21 rfl (lv_at hl 0 rfl) ?_
        refine eg_RX9_9 hC hS h dX9_byteAt_22 (fun t_22 h => ?_)
        refine lv_iload_n hx hb dX9_byteAt_25 rfl (lv_at hl 1 rfl) ?_
        refine ez_bal hC hS h dX9_byteAt_26 (fun t_26 h => ?_)
        refine lv_sipush (v := 255) hx hb dX9_byteAt_27 (by decide) ?_
        refine lv_iand hx hb dX9_byteAt_30 ?_
        refine ez_top h (fun t_30 h => ?_)
        refine lv_goto (tgt := 35) hx hb dX9_byteAt_31 (by decide) ?_
        exact K_35  t_30 _ _ _ hS h (lv_sub hl [] rfl)
set_option maxHeartbeats 4000000 in
set_option maxRecDepth 100000 in
theorem c_X9_isLetter {l : Launch} {X : ez_X} {B : Nat} {σ : ez_H} {x0 : Int32} {z : Int32} (h : z_X9_isLetter σ x0 = some z) : ez_M l X B σ yX9_isLetter cX9_isLetter 1 (some .boolean) 0 [.int x0] (some (.int z)) σ := by
  refine ez_startip (z := z) (by decide) (Nat.le_of_ble_eq_true rfl) (fun p e R s m args below meth c Q hC hret hS ls hl => ?_)
  have hC : ez_C p R s m args c X B RX9 cX9_isLetter 1 0 := hC
  have hx := hC.1.1
  have hb := hC.1.2.1
  have hown := hC.1.2.2.2.1
  have hts := hC.1.2.2.2.2
  have hl : lv_has ls 1 [(0, .int x0)] := hl
  obtain ⟨n0, e0⟩ : ∃ n0 : Nat, n0 = σ.length := ⟨_, rfl⟩
  rw [← e0] at hret hS
  have K_17 : ∀ (y0 : Int32) (H : Heap) (locs : List Loc) (ls : Array Slot), ez_S X B s.heap (n0) σ H locs → z_X9_isLetter_17 σ y0 = some z → lv_has ls 1 [] → W p l e R s m args below meth c H locs 0 0 Q (F0 m 17 ls [.int y0]) := by
    intro y0 H locs ls hS h hl
    obtain ⟨hn, h⟩ := ez_nr_sp rfl h
    exact hret _ _ _ _ _ (Option.some.inj h) hn hS dX9_isLetter_17
  have K_16 : ∀ (H : Heap) (locs : List Loc) (ls : Array Slot), ez_S X B s.heap (n0) σ H locs → z_X9_isLetter_16 σ = some z → lv_has ls 1 [] → W p l e R s m args below meth c H locs 0 0 Q (F0 m 16 ls []) := by
    intro  H locs ls hS h hl
    refine lv_iconst (v := 0) hx hb dX9_isLetter_16 (by decide) ?_
    exact K_17  (0 : Int32) _ _ _ hS h (lv_sub hl [] rfl)
  refine lv_iload_n hx hb dX9_isLetter_0 rfl (lv_at hl 0 rfl) ?_
  refine lv_bipush (v := 97) hx hb dX9_isLetter_1 (by decide) ?_
  refine lv_icmp_lt (tgt := 16) hx hb dX9_isLetter_3 (by decide) (fun c_3 => ?_) (fun c_3 => ?_)
  · replace h := ez_ifp h c_3
    exact K_16   _ _ _ hS h (lv_sub hl [] rfl)
  · replace h := ez_ifn h c_3
    refine lv_iload_n hx hb dX9_isLetter_6 rfl (lv_at hl 0 rfl) ?_
    refine lv_bipush (v := 122) hx hb dX9_isLetter_7 (by decide) ?_
    refine lv_icmp_gt (tgt := 16) hx hb dX9_isLetter_9 (by decide) (fun c_9 => ?_) (fun c_9 => ?_)
    · replace h := ez_ifp h c_9
      exact K_16   _ _ _ hS h (lv_sub hl [] rfl)
    · replace h := ez_ifn h c_9
      refine lv_iconst (v := 1) hx hb dX9_isLetter_12 (by decide) ?_
      refine lv_goto (tgt := 17) hx hb dX9_isLetter_13 (by decide) ?_
      exact K_17  (1 : Int32) _ _ _ hS h (lv_sub hl [] rfl)
set_option maxHeartbeats 4000000 in
set_option maxRecDepth 100000 in
theorem c_X9_readWord {l : Launch} {X : ez_X} {B : Nat} {σ : ez_H} {h0 : Nat} {z : Unit × ez_H} (h : z_X9_readWord σ h0 = some z) : ez_M l X B σ yX9_readWord cX9_readWord 2 (none) 1 [.ref (B + h0)] (none) z.2 := by
  refine ez_startv (z := z) (by decide) (Nat.le_of_ble_eq_true rfl) (fun p e R s m args below meth c Q hC hret hS ls hl => ?_)
  have hC : ez_C p R s m args c X B RX9 cX9_readWord 2 1 := hC
  have hx := hC.1.1
  have hb := hC.1.2.1
  have hown := hC.1.2.2.2.1
  have hts := hC.1.2.2.2.2
  have hl : lv_has ls 2 [(0, .ref (B + h0))] := hl
  obtain ⟨σ0, eσ⟩ : ∃ σ0 : ez_H, σ0 = σ := ⟨_, rfl⟩
  rw [← eσ] at hret
  have hS : ez_S X B s.heap σ0.length σ s.heap [] := eσ ▸ hS
  obtain ⟨-, h⟩ := ez_in h
  have K_123 : ∀ (k_89 : ez_H → Nat → Int32 → Option (Unit × ez_H)) (hk_89 : ∀ (σ : ez_H) (h0 : Nat) (x1 : Int32) (H : Heap) (locs : List Loc) (ls : Array Slot), ez_S X B s.heap (σ0.length) σ H locs → k_89 σ h0 x1 = some z → lv_has ls 2 [(0, .ref (B + h0)), (1, .int x1)] → W p l e R s m args below meth c H locs 0 0 Q (F0 m 89 ls [])), ∀ (σ : ez_H) (h0 : Nat) (x1 : Int32) (H : Heap) (locs : List Loc) (ls : Array Slot), ez_S X B s.heap (σ0.length) σ H locs → z_X9_readWord_123 k_89 σ h0 x1 = some z → lv_has ls 2 [(0, .ref (B + h0)), (1, .int x1)] → W p l e R s m args below meth c H locs 0 0 Q (F0 m 123 ls []) := by
    intro k_89 hk_89 σ h0 x1 H locs ls hS h hl
    obtain ⟨t_123, e_123, h⟩ := ez_let_sp h
    refine lv_iinc (v := t_123) (lv' := [(1, .int t_123), (0, .ref (B + h0))]) hx hb dX9_readWord_123 hl (k := 1) rfl (by rw [e_123]; rfl) (by decide) rfl (fun ls hl => ?_)
    refine lv_goto (tgt := 89) hx hb dX9_readWord_126 (by decide) ?_
    exact hk_89 σ h0 t_123 _ _ _ hS h (lv_sub hl [1, 0] rfl)
  have K_89 : ∀ (k_89 : ez_H → Nat → Int32 → Option (Unit × ez_H)) (hk_89 : ∀ (σ : ez_H) (h0 : Nat) (x1 : Int32) (H : Heap) (locs : List Loc) (ls : Array Slot), ez_S X B s.heap (σ0.length) σ H locs → k_89 σ h0 x1 = some z → lv_has ls 2 [(0, .ref (B + h0)), (1, .int x1)] → W p l e R s m args below meth c H locs 0 0 Q (F0 m 89 ls [])), ∀ (σ : ez_H) (h0 : Nat) (x1 : Int32) (H : Heap) (locs : List Loc) (ls : Array Slot), ez_S X B s.heap (σ0.length) σ H locs → z_X9_readWord_89 k_89 σ h0 x1 = some z → lv_has ls 2 [(0, .ref (B + h0)), (1, .int x1)] → W p l e R s m args below meth c H locs 0 0 Q (F0 m 89 ls []) := by
    intro k_89 hk_89 σ h0 x1 H locs ls hS h hl
    refine lv_iload_n hx hb dX9_readWord_89 rfl (lv_at hl 1 rfl) ?_
    refine lv_bipush (v := 23) hx hb dX9_readWord_90 (by decide) ?_
    refine lv_icmp_ge (tgt := 129) hx hb dX9_readWord_92 (by decide) (fun c_92 => ?_) (fun c_92 => ?_)
    · replace h := ez_ifp h c_92
      exact hret _ _ _ _ _ _ (Option.some.inj h) hS dX9_readWord_129
    · replace h := ez_ifn h c_92
      refine lv_aload_n hx hb dX9_readWord_95 rfl (lv_at hl 0 rfl) ?_
      refine eg_RX9_59 hC hS h dX9_readWord_96 (fun t_96 h => ?_)
      refine lv_bipush (v := 23) hx hb dX9_readWord_99 (by decide) ?_
      refine lv_icmp_ne (tgt := 123) hx hb dX9_readWord_101 (by decide) (fun c_101 => ?_) (fun c_101 => ?_)
      · replace h := ez_ifn h c_101
        exact K_123 k_89 hk_89 σ h0 x1 _ _ _ hS h (lv_sub hl [0, 1] rfl)
      · replace h := ez_ifp h c_101
        refine lv_aload_n hx hb dX9_readWord_104 rfl (lv_at hl 0 rfl) ?_
        refine eg_RX9_15 hC hS h dX9_readWord_105 (fun t_105 h => ?_)
        refine lv_iload_n hx hb dX9_readWord_108 rfl (lv_at hl 1 rfl) ?_
        refine ez_lal hC hS h dX9_readWord_109 (fun t_109 h => ?_)
        refine lv_aload_n hx hb dX9_readWord_110 rfl (lv_at hl 0 rfl) ?_
        refine eg_RX9_80 hC hS h dX9_readWord_111 (fun t_111 h => ?_)
        refine W.lcmp hx hb dX9_readWord_114 ?_
        refine ez_top h (fun t_114 h => ?_)
        refine lv_if_ne (tgt := 123) hx hb dX9_readWord_115 (by decide) (fun c_115 => ?_) (fun c_115 => ?_)
        · replace h := ez_ifn h c_115
          exact K_123 k_89 hk_89 σ h0 x1 _ _ _ hS h (lv_sub hl [0, 1] rfl)
        · replace h := ez_ifp h c_115
          refine lv_aload_n hx hb dX9_readWord_118 rfl (lv_at hl 0 rfl) ?_
          refine lv_iload_n hx hb dX9_readWord_119 rfl (lv_at hl 1 rfl) ?_
          refine ep_RX9_59 hC hS h dX9_readWord_120 (fun σ H locs hS h => ?_)
          exact K_123 k_89 hk_89 σ h0 x1 _ _ _ hS h (lv_sub hl [0, 1] rfl)
  have E_89 : ∀ (σ : ez_H) (h0 : Nat) (x1 : Int32) (H : Heap) (locs : List Loc) (ls : Array Slot), ez_S X B s.heap (σ0.length) σ H locs → (ez_fix (fun _ _ _ => none) (z_X9_readWord_89) ez_N) σ h0 x1 = some z → lv_has ls 2 [(0, .ref (B + h0)), (1, .int x1)] → W p l e R s m args below meth c H locs 0 0 Q (F0 m 89 ls []) := ez_fix_ind (fun k_89 : ez_H → Nat → Int32 → Option (Unit × ez_H) => ∀ (σ : ez_H) (h0 : Nat) (x1 : Int32) (H : Heap) (locs : List Loc) (ls : Array Slot), ez_S X B s.heap (σ0.length) σ H locs → k_89 σ h0 x1 = some z → lv_has ls 2 [(0, .ref (B + h0)), (1, .int x1)] → W p l e R s m args below meth c H locs 0 0 Q (F0 m 89 ls [])) (fun _ _ _ _ _ _ _ h _ => by cases h) (fun k_89 hk_89 => K_89 k_89 hk_89) ez_N
  have K_84 : ∀ (σ : ez_H) (h0 : Nat) (y0 : Nat) (y1 : Int32) (H : Heap) (locs : List Loc) (ls : Array Slot), ez_S X B s.heap (σ0.length) σ H locs → z_X9_readWord_84 σ h0 y0 y1 = some z → lv_has ls 2 [(0, .ref (B + h0))] → W p l e R s m args below meth c H locs 0 0 Q (F0 m 84 ls [.int y1, .ref (B + y0)]) := by
    intro σ h0 y0 y1 H locs ls hS h hl
    refine ep_RX9_59 hC hS h dX9_readWord_84 (fun σ H locs hS h => ?_)
    refine lv_iconst (v := 0) hx hb dX9_readWord_87 (by decide) ?_
    refine lv_istore_n (lv' := [(1, .int 0), (0, .ref (B + h0))]) hx hb dX9_readWord_88 rfl hl (by decide) rfl (fun ls hl => ?_)
    exact E_89  σ h0 (0 : Int32) _ _ _ hS h (lv_sub hl [1, 0] rfl)
  have K_62 : ∀ (σ : ez_H) (h0 : Nat) (H : Heap) (locs : List Loc) (ls : Array Slot), ez_S X B s.heap (σ0.length) σ H locs → z_X9_readWord_62 σ h0 = some z → lv_has ls 2 [(0, .ref (B + h0))] → W p l e R s m args below meth c H locs 0 0 Q (F0 m 62 ls []) := by
    intro σ h0 H locs ls hS h hl
    refine lv_aload_n hx hb dX9_readWord_62 rfl (lv_at hl 0 rfl) ?_
    refine lv_aload_n hx hb dX9_readWord_63 rfl (lv_at hl 0 rfl) ?_
    refine eg_RX9_44 hC hS h dX9_readWord_64 (fun t_64 h => ?_)
    refine lv_aload_n hx hb dX9_readWord_67 rfl (lv_at hl 0 rfl) ?_
    refine eg_RX9_56 hC hS h dX9_readWord_68 (fun t_68 h => ?_)
    refine lv_isub hx hb dX9_readWord_71 ?_
    refine ez_top h (fun t_71 h => ?_)
    refine lv_bipush (v := 8) hx hb dX9_readWord_72 (by decide) ?_
    refine lv_icmp_le (tgt := 82) hx hb dX9_readWord_74 (by decide) (fun c_74 => ?_) (fun c_74 => ?_)
    · replace h := ez_ifp h c_74
      refine lv_bipush (v := 23) hx hb dX9_readWord_82 (by decide) ?_
      exact K_84  σ h0 h0 (23 : Int32) _ _ _ hS h (lv_sub hl [0] rfl)
    · replace h := ez_ifn h c_74
      refine lv_bipush (v := 25) hx hb dX9_readWord_77 (by decide) ?_
      refine lv_goto (tgt := 84) hx hb dX9_readWord_79 (by decide) ?_
      exact K_84  σ h0 h0 (25 : Int32) _ _ _ hS h (lv_sub hl [0] rfl)
  have K_5 : ∀ (k_5 : ez_H → Nat → Option (Unit × ez_H)) (hk_5 : ∀ (σ : ez_H) (h0 : Nat) (H : Heap) (locs : List Loc) (ls : Array Slot), ez_S X B s.heap (σ0.length) σ H locs → k_5 σ h0 = some z → lv_has ls 2 [(0, .ref (B + h0))] → W p l e R s m args below meth c H locs 0 0 Q (F0 m 5 ls [])), ∀ (σ : ez_H) (h0 : Nat) (H : Heap) (locs : List Loc) (ls : Array Slot), ez_S X B s.heap (σ0.length) σ H locs → z_X9_readWord_5 k_5 σ h0 = some z → lv_has ls 2 [(0, .ref (B + h0))] → W p l e R s m args below meth c H locs 0 0 Q (F0 m 5 ls []) := by
    intro k_5 hk_5 σ h0 H locs ls hS h hl
    refine lv_aload_n hx hb dX9_readWord_5 rfl (lv_at hl 0 rfl) ?_
    refine eg_RX9_44 hC hS h dX9_readWord_6 (fun t_6 h => ?_)
    refine lv_aload_n hx hb dX9_readWord_9 rfl (lv_at hl 0 rfl) ?_
    refine eg_RX9_41 hC hS h dX9_readWord_10 (fun t_10 h => ?_)
    refine lv_icmp_ge (tgt := 62) hx hb dX9_readWord_13 (by decide) (fun c_13 => ?_) (fun c_13 => ?_)
    · replace h := ez_ifp h c_13
      exact K_62  σ h0 _ _ _ hS h (lv_sub hl [0] rfl)
    · replace h := ez_ifn h c_13
      refine lv_aload_n hx hb dX9_readWord_16 rfl (lv_at hl 0 rfl) ?_
      refine lv_aload_n hx hb dX9_readWord_17 rfl (lv_at hl 0 rfl) ?_
      refine eg_RX9_44 hC hS h dX9_readWord_18 (fun t_18 h => ?_)
      refine ez_cVpi (As := [.int t_18]) (rest := []) h (fun _ q => c_X9_byteAt q) hC k_X9_byteAt ql_RX9_52 rfl (by decide) hS (fun _ q => ez_rcv q) rfl hl.1 rfl (Nat.le_of_ble_eq_true rfl) ⟨Nat.zero_le _, Nat.zero_le _⟩ dX9_readWord_21 (fun t_21 H locs hS h => ?_)
      refine ez_cSpi (As := [.int t_21]) (rest := []) h (fun _ q => c_X9_isLetter q) hC k_X9_isLetter ql_RX9_62 rfl (by decide) hS hl.1 rfl (Nat.le_of_ble_eq_true rfl) ⟨Nat.zero_le _, Nat.zero_le _⟩ dX9_readWord_24 (fun t_24 H locs hS h => ?_)
      refine lv_if_eq (tgt := 62) hx hb dX9_readWord_27 (by decide) (fun c_27 => ?_) (fun c_27 => ?_)
      · replace h := ez_ifp h c_27
        exact K_62  σ h0 _ _ _ hS h (lv_sub hl [0] rfl)
      · replace h := ez_ifn h c_27
        refine lv_aload_n hx hb dX9_readWord_30 rfl (lv_at hl 0 rfl) ?_
        refine lv_aload_n hx hb dX9_readWord_31 rfl (lv_at hl 0 rfl) ?_
        refine eg_RX9_80 hC hS h dX9_readWord_32 (fun t_32 h => ?_)
        refine lv_aload_n hx hb dX9_readWord_35 rfl (lv_at hl 0 rfl) ?_
        refine lv_aload_n hx hb dX9_readWord_36 rfl (lv_at hl 0 rfl) ?_
        refine eg_RX9_44 hC hS h dX9_readWord_37 (fun t_37 h => ?_)
        refine ez_cVpi (As := [.int t_37]) (rest := [.long t_32, .ref (B + h0)]) h (fun _ q => c_X9_byteAt q) hC k_X9_byteAt ql_RX9_52 rfl (by decide) hS (fun _ q => ez_rcv q) rfl hl.1 rfl (Nat.le_of_ble_eq_true rfl) ⟨Nat.zero_le _, Nat.zero_le _⟩ dX9_readWord_40 (fun t_40 H locs hS h => ?_)
        refine ez_cSpl (As := [.long t_32, .int t_40]) (rest := [.ref (B + h0)]) h (fun _ q => c_X9_withLetter q) hC k_X9_withLetter ql_RX9_31 rfl (by decide) hS hl.1 rfl (Nat.le_of_ble_eq_true rfl) ⟨Nat.zero_le _, Nat.zero_le _⟩ dX9_readWord_43 (fun t_43 H locs hS h => ?_)
        refine ep_RX9_80 hC hS h dX9_readWord_46 (fun σ H locs hS h => ?_)
        refine lv_aload_n hx hb dX9_readWord_49 rfl (lv_at hl 0 rfl) ?_
        refine lv_dup hx hb dX9_readWord_50 rfl ?_
        refine eg_RX9_44 hC hS h dX9_readWord_51 (fun t_51 h => ?_)
        refine lv_iconst (v := 1) hx hb dX9_readWord_54 (by decide) ?_
        refine lv_iadd hx hb dX9_readWord_55 ?_
        refine ez_top h (fun t_55 h => ?_)
        refine ep_RX9_44 hC hS h dX9_readWord_56 (fun σ H locs hS h => ?_)
        refine lv_goto (tgt := 5) hx hb dX9_readWord_59 (by decide) ?_
        exact hk_5 σ h0 _ _ _ hS h (lv_sub hl [0] rfl)
  have E_5 : ∀ (σ : ez_H) (h0 : Nat) (H : Heap) (locs : List Loc) (ls : Array Slot), ez_S X B s.heap (σ0.length) σ H locs → (ez_fix (fun _ _ => none) (z_X9_readWord_5) ez_N) σ h0 = some z → lv_has ls 2 [(0, .ref (B + h0))] → W p l e R s m args below meth c H locs 0 0 Q (F0 m 5 ls []) := ez_fix_ind (fun k_5 : ez_H → Nat → Option (Unit × ez_H) => ∀ (σ : ez_H) (h0 : Nat) (H : Heap) (locs : List Loc) (ls : Array Slot), ez_S X B s.heap (σ0.length) σ H locs → k_5 σ h0 = some z → lv_has ls 2 [(0, .ref (B + h0))] → W p l e R s m args below meth c H locs 0 0 Q (F0 m 5 ls [])) (fun _ _ _ _ _ _ h _ => by cases h) (fun k_5 hk_5 => K_5 k_5 hk_5) ez_N
  refine lv_aload_n hx hb dX9_readWord_0 rfl (lv_at hl 0 rfl) ?_
  refine lv_lconst (v := 0) hx hb dX9_readWord_1 (by decide) ?_
  refine ep_RX9_80 hC hS h dX9_readWord_2 (fun σ H locs hS h => ?_)
  exact E_5  σ h0 _ _ _ hS h (lv_sub hl [0] rfl)
set_option maxHeartbeats 4000000 in
set_option maxRecDepth 100000 in
theorem c_X9_isDigit {l : Launch} {X : ez_X} {B : Nat} {σ : ez_H} {x0 : Int32} {z : Int32} (h : z_X9_isDigit σ x0 = some z) : ez_M l X B σ yX9_isDigit cX9_isDigit 1 (some .boolean) 0 [.int x0] (some (.int z)) σ := by
  refine ez_startip (z := z) (by decide) (Nat.le_of_ble_eq_true rfl) (fun p e R s m args below meth c Q hC hret hS ls hl => ?_)
  have hC : ez_C p R s m args c X B RX9 cX9_isDigit 1 0 := hC
  have hx := hC.1.1
  have hb := hC.1.2.1
  have hown := hC.1.2.2.2.1
  have hts := hC.1.2.2.2.2
  have hl : lv_has ls 1 [(0, .int x0)] := hl
  obtain ⟨n0, e0⟩ : ∃ n0 : Nat, n0 = σ.length := ⟨_, rfl⟩
  rw [← e0] at hret hS
  have K_17 : ∀ (y0 : Int32) (H : Heap) (locs : List Loc) (ls : Array Slot), ez_S X B s.heap (n0) σ H locs → z_X9_isDigit_17 σ y0 = some z → lv_has ls 1 [] → W p l e R s m args below meth c H locs 0 0 Q (F0 m 17 ls [.int y0]) := by
    intro y0 H locs ls hS h hl
    obtain ⟨hn, h⟩ := ez_nr_sp rfl h
    exact hret _ _ _ _ _ (Option.some.inj h) hn hS dX9_isDigit_17
  have K_16 : ∀ (H : Heap) (locs : List Loc) (ls : Array Slot), ez_S X B s.heap (n0) σ H locs → z_X9_isDigit_16 σ = some z → lv_has ls 1 [] → W p l e R s m args below meth c H locs 0 0 Q (F0 m 16 ls []) := by
    intro  H locs ls hS h hl
    refine lv_iconst (v := 0) hx hb dX9_isDigit_16 (by decide) ?_
    exact K_17  (0 : Int32) _ _ _ hS h (lv_sub hl [] rfl)
  refine lv_iload_n hx hb dX9_isDigit_0 rfl (lv_at hl 0 rfl) ?_
  refine lv_bipush (v := 48) hx hb dX9_isDigit_1 (by decide) ?_
  refine lv_icmp_lt (tgt := 16) hx hb dX9_isDigit_3 (by decide) (fun c_3 => ?_) (fun c_3 => ?_)
  · replace h := ez_ifp h c_3
    exact K_16   _ _ _ hS h (lv_sub hl [] rfl)
  · replace h := ez_ifn h c_3
    refine lv_iload_n hx hb dX9_isDigit_6 rfl (lv_at hl 0 rfl) ?_
    refine lv_bipush (v := 57) hx hb dX9_isDigit_7 (by decide) ?_
    refine lv_icmp_gt (tgt := 16) hx hb dX9_isDigit_9 (by decide) (fun c_9 => ?_) (fun c_9 => ?_)
    · replace h := ez_ifp h c_9
      exact K_16   _ _ _ hS h (lv_sub hl [] rfl)
    · replace h := ez_ifn h c_9
      refine lv_iconst (v := 1) hx hb dX9_isDigit_12 (by decide) ?_
      refine lv_goto (tgt := 17) hx hb dX9_isDigit_13 (by decide) ?_
      exact K_17  (1 : Int32) _ _ _ hS h (lv_sub hl [] rfl)
