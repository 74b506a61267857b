set_option maxHeartbeats 4000000 in
set_option maxRecDepth 100000 in
theorem c_X7_used {l : Launch} {X : ez_X} {B : Nat} {σ : ez_H} {h0 : Nat} {x1 : Int32} {z : Int32} (h : z_X7_used σ h0 x1 = some z) : ez_M l X B σ yX7_used cX7_used 2 (some .int) 1 [.ref (B + h0), .int x1] (some (.int z)) σ := by
  refine ez_startip (z := z) (by decide) (Nat.le_of_ble_eq_true rfl) (fun p e R s m args below meth c Q hC hret hS ls hl => ?_)
  have hC : ez_C p R s m args c X B RX7 cX7_used 2 1 := hC
  have hx := hC.1.1
  have hb := hC.1.2.1
  have hown := hC.1.2.2.2.1
  have hts := hC.1.2.2.2.2
  have hl : lv_has ls 2 [(0, .ref (B + h0)), (1, .int x1)] := hl
  obtain ⟨n0, e0⟩ : ∃ n0 : Nat, n0 = σ.length := ⟨_, rfl⟩
  rw [← e0] at hret hS
  obtain ⟨-, h⟩ := ez_in h
  refine lv_aload_n hx hb dX7_used_0 rfl (lv_at hl 0 rfl) ?_
  refine lv_bipush (v := 8) hx hb dX7_used_1 (by decide) ?_
  refine lv_iload_n hx hb dX7_used_3 rfl (lv_at hl 1 rfl) ?_
  refine lv_iadd hx hb dX7_used_4 ?_
  refine ez_top h (fun t_4 h => ?_)
  refine ez_cVpi (As := [.int t_4]) (rest := []) h (fun _ q => c_X7_look q) hC k_X7_look ql_RX7_27 rfl (by decide) hS (fun _ q => ez_rcv q) rfl hl.1 rfl (Nat.le_of_ble_eq_true rfl) ⟨Nat.zero_le _, Nat.zero_le _⟩ dX7_used_5 (fun t_5 H locs hS h => ?_)
  exact hret _ _ _ _ _ (Option.some.inj h) rfl hS dX7_used_8
set_option maxHeartbeats 4000000 in
set_option maxRecDepth 100000 in
theorem c_X11_key {l : Launch} {X : ez_X} {B : Nat} {σ : ez_H} {h0 : Nat} {x1 : Int32} {x2 : Int32} {z : Int32} (h : z_X11_key σ h0 x1 x2 = some z) : ez_M l X B σ yX11_key cX11_key 3 (some .int) 3 [.ref (B + h0), .int x1, .int x2] (some (.int z)) σ := by
  refine ez_startip (z := z) (by decide) (Nat.le_of_ble_eq_true rfl) (fun p e R s m args below meth c Q hC hret hS ls hl => ?_)
  have hC : ez_C p R s m args c X B RX11 cX11_key 3 3 := hC
  have hx := hC.1.1
  have hb := hC.1.2.1
  have hown := hC.1.2.2.2.1
  have hts := hC.1.2.2.2.2
  have hl : lv_has ls 3 [(0, .ref (B + h0)), (1, .int x1), (2, .int x2)] := hl
  obtain ⟨n0, e0⟩ : ∃ n0 : Nat, n0 = σ.length := ⟨_, rfl⟩
  rw [← e0] at hret hS
  obtain ⟨-, h⟩ := ez_in h
  refine lv_aload_n hx hb dX11_key_0 rfl (lv_at hl 0 rfl) ?_
  refine eg_RX11_29 hC hS h dX11_key_1 (fun t_1 h => ?_)
  refine lv_iload_n hx hb dX11_key_4 rfl (lv_at hl 1 rfl) ?_
  refine ez_cVpi (As := [.int x1]) (rest := []) h (fun _ q => c_X3_hasKey q) hC k_X3_hasKey ql_RX11_137 rfl (by decide) hS (fun _ q => ez_rcv q) rfl hl.1 rfl (Nat.le_of_ble_eq_true rfl) ⟨Nat.zero_le _, Nat.zero_le _⟩ dX11_key_5 (fun t_5 H locs hS h => ?_)
  refine lv_if_ne (tgt := 14) hx hb dX11_key_8 (by decide) (fun c_8 => ?_) (fun c_8 => ?_)
  · replace h := ez_ifn h c_8
    refine lv_iload_n hx hb dX11_key_14 rfl (lv_at hl 2 rfl) ?_
    by_cases s_15_0 : x2 = 0
    · replace h := ez_ifp h s_15_0
      refine lv_tableIn (tgt := 44) hx hb dX11_key_15 (by rw [s_15_0]; decide) (by rw [s_15_0]; decide) (by first | (rw [s_15_0]; done) | (rw [s_15_0]; rfl)) (by decide) ?_
      refine lv_aload_n hx hb dX11_key_44 rfl (lv_at hl 0 rfl) ?_
      refine eg_RX11_37 hC hS h dX11_key_45 (fun t_45 h => ?_)
      refine lv_aload_n hx hb dX11_key_48 rfl (lv_at hl 0 rfl) ?_
      refine eg_RX11_41 hC hS h dX11_key_49 (fun t_49 h => ?_)
      refine lv_iload_n hx hb dX11_key_52 rfl (lv_at hl 1 rfl) ?_
      refine ez_cVpi (As := [.int x1]) (rest := [.ref (B + t_45)]) h (fun _ q => c_X7_bits q) hC k_X7_bits ql_RX11_140 rfl (by decide) hS (fun _ q => ez_rcv q) rfl hl.1 rfl (Nat.le_of_ble_eq_true rfl) ⟨Nat.zero_le _, Nat.zero_le _⟩ dX11_key_53 (fun t_53 H locs hS h => ?_)
      refine ez_cVpi (As := [.int t_53]) (rest := []) h (fun _ q => c_X6_numberOf q) hC k_X6_numberOf ql_RX11_144 rfl (by decide) hS (fun _ q => ez_rcv q) rfl hl.1 rfl (Nat.le_of_ble_eq_true rfl) ⟨Nat.zero_le _, Nat.zero_le _⟩ dX11_key_56 (fun t_56 H locs hS h => ?_)
      exact hret _ _ _ _ _ (Option.some.inj h) rfl hS dX11_key_59
    replace h := ez_ifn h s_15_0
    by_cases s_15_1 : x2 = 1
    · replace h := ez_ifp h s_15_1
      refine lv_tableIn (tgt := 60) hx hb dX11_key_15 (by rw [s_15_1]; decide) (by rw [s_15_1]; decide) (by first | (rw [s_15_1]; done) | (rw [s_15_1]; rfl)) (by decide) ?_
      refine lv_aload_n hx hb dX11_key_60 rfl (lv_at hl 0 rfl) ?_
      refine eg_RX11_41 hC hS h dX11_key_61 (fun t_61 h => ?_)
      refine lv_iload_n hx hb dX11_key_64 rfl (lv_at hl 1 rfl) ?_
      refine ez_cVpi (As := [.int x1]) (rest := []) h (fun _ q => c_X7_used q) hC k_X7_used ql_RX11_149 rfl (by decide) hS (fun _ q => ez_rcv q) rfl hl.1 rfl (Nat.le_of_ble_eq_true rfl) ⟨Nat.zero_le _, Nat.zero_le _⟩ dX11_key_65 (fun t_65 H locs hS h => ?_)
      exact hret _ _ _ _ _ (Option.some.inj h) rfl hS dX11_key_68
    replace h := ez_ifn h s_15_1
    by_cases s_15_2 : x2 = 2
    · replace h := ez_ifp h s_15_2
      refine lv_tableIn (tgt := 69) hx hb dX11_key_15 (by rw [s_15_2]; decide) (by rw [s_15_2]; decide) (by first | (rw [s_15_2]; done) | (rw [s_15_2]; rfl)) (by decide) ?_
      refine lv_aload_n hx hb dX11_key_69 rfl (lv_at hl 0 rfl) ?_
      refine eg_RX11_41 hC hS h dX11_key_70 (fun t_70 h => ?_)
      refine lv_iload_n hx hb dX11_key_73 rfl (lv_at hl 1 rfl) ?_
      refine ez_cVpi (As := [.int x1]) (rest := []) h (fun _ q => c_X7_holder q) hC k_X7_holder ql_RX11_152 rfl (by decide) hS (fun _ q => ez_rcv q) rfl hl.1 rfl (Nat.le_of_ble_eq_true rfl) ⟨Nat.zero_le _, Nat.zero_le _⟩ dX11_key_74 (fun t_74 H locs hS h => ?_)
      exact hret _ _ _ _ _ (Option.some.inj h) rfl hS dX11_key_77
    replace h := ez_ifn h s_15_2
    by_cases s_15_3 : x2 = 3
    · replace h := ez_ifp h s_15_3
      refine lv_tableIn (tgt := 78) hx hb dX11_key_15 (by rw [s_15_3]; decide) (by rw [s_15_3]; decide) (by first | (rw [s_15_3]; done) | (rw [s_15_3]; rfl)) (by decide) ?_
      refine lv_aload_n hx hb dX11_key_78 rfl (lv_at hl 0 rfl) ?_
      refine eg_RX11_79 hC hS h dX11_key_79 (fun t_79 h => ?_)
      refine lv_iconst (v := 1) hx hb dX11_key_82 (by decide) ?_
      refine lv_iload_n hx hb dX11_key_83 rfl (lv_at hl 1 rfl) ?_
      refine lv_ishl hx hb dX11_key_84 ?_
      refine ez_top h (fun t_84 h => ?_)
      refine ez_cVpi (As := [.int t_84]) (rest := []) h (fun _ q => c_X2_locksFor q) hC k_X2_locksFor ql_RX11_155 rfl (by decide) hS (fun _ q => ez_rcv q) rfl hl.1 rfl (Nat.le_of_ble_eq_true rfl) ⟨Nat.zero_le _, Nat.zero_le _⟩ dX11_key_85 (fun t_85 H locs hS h => ?_)
      exact hret _ _ _ _ _ (Option.some.inj h) rfl hS dX11_key_88
    replace h := ez_ifn h s_15_3
    have w_15 : Int32.toInt x2 < 0 ∨ 3 < Int32.toInt x2 := by
      have q_0 := ez_toNe (k := 0) s_15_0 (by decide)
      have q_1 := ez_toNe (k := 1) s_15_1 (by decide)
      have q_2 := ez_toNe (k := 2) s_15_2 (by decide)
      have q_3 := ez_toNe (k := 3) s_15_3 (by decide)
      omega
    refine lv_tableOut (tgt := 89) hx hb dX11_key_15 w_15 (by decide) ?_
    refine lv_bipush (v := -3) hx hb dX11_key_89 (by decide) ?_
    exact hret _ _ _ _ _ (Option.some.inj h) rfl hS dX11_key_91
  · replace h := ez_ifp h c_8
    refine lv_bipush (v := -3) hx hb dX11_key_11 (by decide) ?_
    exact hret _ _ _ _ _ (Option.some.inj h) rfl hS dX11_key_13
set_option maxHeartbeats 4000000 in
set_option maxRecDepth 100000 in
theorem c_X7_putSeed {l : Launch} {X : ez_X} {B : Nat} {σ : ez_H} {h0 : Nat} {x1 : Int32} {z : Unit × ez_H} (h : z_X7_putSeed σ h0 x1 = some z) : ez_M l X B σ yX7_putSeed cX7_putSeed 2 (none) 1 [.ref (B + h0), .int x1] (none) z.2 := by
  refine ez_startv (z := z) (by decide) (Nat.le_of_ble_eq_true rfl) (fun p e R s m args below meth c Q hC hret hS ls hl => ?_)
  have hC : ez_C p R s m args c X B RX7 cX7_putSeed 2 1 := hC
  have hx := hC.1.1
  have hb := hC.1.2.1
  have hown := hC.1.2.2.2.1
  have hts := hC.1.2.2.2.2
  have hl : lv_has ls 2 [(0, .ref (B + h0)), (1, .int x1)] := hl
  obtain ⟨σ0, eσ⟩ : ∃ σ0 : ez_H, σ0 = σ := ⟨_, rfl⟩
  rw [← eσ] at hret
  have hS : ez_S X B s.heap σ0.length σ s.heap [] := eσ ▸ hS
  obtain ⟨-, h⟩ := ez_in h
  refine lv_aload_n hx hb dX7_putSeed_0 rfl (lv_at hl 0 rfl) ?_
  refine lv_bipush (v := 34) hx hb dX7_putSeed_1 (by decide) ?_
  refine lv_iload_n hx hb dX7_putSeed_3 rfl (lv_at hl 1 rfl) ?_
  refine ez_cVv (As := [.int 34, .int x1]) (rest := []) h (fun _ q => c_X7_put q) hC k_X7_put ql_RX7_31 rfl (by decide) hS (fun _ q => ez_rcv q) rfl hl.1 rfl (Nat.le_of_ble_eq_true rfl) ⟨Nat.zero_le _, Nat.zero_le _⟩ dX7_putSeed_4 (fun _ σ H locs hS h => ?_)
  exact hret _ _ _ _ _ _ (Option.some.inj h) hS dX7_putSeed_7
set_option maxHeartbeats 4000000 in
set_option maxRecDepth 100000 in
theorem c_X6_besideOf {l : Launch} {X : ez_X} {B : Nat} {σ : ez_H} {h0 : Nat} {x1 : Int32} {x2 : Int32} {z : Int32} (h : z_X6_besideOf σ h0 x1 x2 = some z) : ez_M l X B σ yX6_besideOf cX6_besideOf 5 (some .int) 2 [.ref (B + h0), .int x1, .int x2] (some (.int z)) σ := by
  refine ez_startip (z := z) (by decide) (Nat.le_of_ble_eq_true rfl) (fun p e R s m args below meth c Q hC hret hS ls hl => ?_)
  have hC : ez_C p R s m args c X B RX6 cX6_besideOf 5 2 := hC
  have hx := hC.1.1
  have hb := hC.1.2.1
  have hown := hC.1.2.2.2.1
  have hts := hC.1.2.2.2.2
  have hl : lv_has ls 5 [(0, .ref (B + h0)), (1, .int x1), (2, .int x2)] := hl
  obtain ⟨n0, e0⟩ : ∃ n0 : Nat, n0 = σ.length := ⟨_, rfl⟩
  rw [← e0] at hret hS
  obtain ⟨-, h⟩ := ez_in h
  have K_39 : ∀ (x3 : Int32) (y0 : Int32) (H : Heap) (locs : List Loc) (ls : Array Slot), ez_S X B s.heap (n0) σ H locs → z_X6_besideOf_39 σ x3 y0 = some z → lv_has ls 5 [(3, .int x3)] → W p l e R s m args below meth c H locs 0 0 Q (F0 m 39 ls [.int y0]) := by
    intro x3 y0 H locs ls hS h hl
    refine lv_istore (lv' := [(4, .int y0), (3, .int x3)]) hx hb dX6_besideOf_39 hl (by decide) rfl (fun ls hl => ?_)
    refine lv_iload_n hx hb dX6_besideOf_41 rfl (lv_at hl 1 rfl) ?_
    refine lv_iload hx hb dX6_besideOf_42 (lv_at hl 0 rfl) ?_
    refine va_mmax hx hb (hC.1.2.2.1.trans hl.1.symm) hown (hts _ ql_RX6_47) (hts _ qm_max_s) (hts _ qm_i) (hts _ qm_max_c) (Nat.le_trans (by decide) hC.2.2.1) (Nat.le_trans (Nat.le_of_ble_eq_true rfl) hC.2.2.2.1) (Nat.zero_le _) (Nat.zero_le _) dX6_besideOf_44 ?_
    refine ez_top h (fun t_44 h => ?_)
    exact hret _ _ _ _ _ (Option.some.inj h) rfl hS dX6_besideOf_47
  have K_16 : ∀ (h0 : Nat) (x1 : Int32) (x2 : Int32) (y0 : Int32) (H : Heap) (locs : List Loc) (ls : Array Slot), ez_S X B s.heap (n0) σ H locs → z_X6_besideOf_16 σ h0 x1 x2 y0 = some z → lv_has ls 5 [(0, .ref (B + h0)), (1, .int x1), (2, .int x2)] → W p l e R s m args below meth c H locs 0 0 Q (F0 m 16 ls [.int y0]) := by
    intro h0 x1 x2 y0 H locs ls hS h hl
    refine lv_istore_n (lv' := [(3, .int y0), (0, .ref (B + h0)), (1, .int x1), (2, .int x2)]) hx hb dX6_besideOf_16 rfl hl (by decide) rfl (fun ls hl => ?_)
    refine lv_iload_n hx hb dX6_besideOf_17 rfl (lv_at hl 3 rfl) ?_
    refine lv_iconst (v := 1) hx hb dX6_besideOf_18 (by decide) ?_
    refine lv_iadd hx hb dX6_besideOf_19 ?_
    refine ez_top h (fun t_19 h => ?_)
    refine lv_aload_n hx hb dX6_besideOf_20 rfl (lv_at hl 1 rfl) ?_
    refine eg_RX6_18 hC hS h dX6_besideOf_21 (fun t_21 h => ?_)
    refine lv_icmp_ge (tgt := 38) hx hb dX6_besideOf_24 (by decide) (fun c_24 => ?_) (fun c_24 => ?_)
    · replace h := ez_ifp h c_24
      refine lv_iconst (v := 0) hx hb dX6_besideOf_38 (by decide) ?_
      exact K_39  y0 (0 : Int32) _ _ _ hS h (lv_sub hl [0] rfl)
    · replace h := ez_ifn h c_24
      refine lv_aload_n hx hb dX6_besideOf_27 rfl (lv_at hl 1 rfl) ?_
      refine lv_iload_n hx hb dX6_besideOf_28 rfl (lv_at hl 2 rfl) ?_
      refine lv_iload_n hx hb dX6_besideOf_29 rfl (lv_at hl 3 rfl) ?_
      refine lv_iconst (v := 1) hx hb dX6_besideOf_30 (by decide) ?_
      refine lv_iadd hx hb dX6_besideOf_31 ?_
      refine ez_top h (fun t_31 h => ?_)
      refine ez_cVpi (As := [.int x1, .int t_31]) (rest := []) h (fun _ q => c_X6_depthAt q) hC k_X6_depthAt ql_RX6_41 rfl (by decide) hS (fun _ q => ez_rcv q) rfl hl.1 rfl (Nat.le_of_ble_eq_true rfl) ⟨Nat.zero_le _, Nat.zero_le _⟩ dX6_besideOf_32 (fun t_32 H locs hS h => ?_)
      refine lv_goto (tgt := 39) hx hb dX6_besideOf_35 (by decide) ?_
      exact K_39  y0 t_32 _ _ _ hS h (lv_sub hl [0] rfl)
  refine lv_iload_n hx hb dX6_besideOf_0 rfl (lv_at hl 2 rfl) ?_
  refine lv_if_le (tgt := 15) hx hb dX6_besideOf_1 (by decide) (fun c_1 => ?_) (fun c_1 => ?_)
  · replace h := ez_ifp h c_1
    refine lv_iconst (v := 0) hx hb dX6_besideOf_15 (by decide) ?_
    exact K_16  h0 x1 x2 (0 : Int32) _ _ _ hS h (lv_sub hl [0, 1, 2] rfl)
  · replace h := ez_ifn h c_1
    refine lv_aload_n hx hb dX6_besideOf_4 rfl (lv_at hl 0 rfl) ?_
    refine lv_iload_n hx hb dX6_besideOf_5 rfl (lv_at hl 1 rfl) ?_
    refine lv_iload_n hx hb dX6_besideOf_6 rfl (lv_at hl 2 rfl) ?_
    refine lv_iconst (v := 1) hx hb dX6_besideOf_7 (by decide) ?_
    refine lv_isub hx hb dX6_besideOf_8 ?_
    refine ez_top h (fun t_8 h => ?_)
    refine ez_cVpi (As := [.int x1, .int t_8]) (rest := []) h (fun _ q => c_X6_depthAt q) hC k_X6_depthAt ql_RX6_41 rfl (by decide) hS (fun _ q => ez_rcv q) rfl hl.1 rfl (Nat.le_of_ble_eq_true rfl) ⟨Nat.zero_le _, Nat.zero_le _⟩ dX6_besideOf_9 (fun t_9 H locs hS h => ?_)
    refine lv_goto (tgt := 16) hx hb dX6_besideOf_12 (by decide) ?_
    exact K_16  h0 x1 x2 t_9 _ _ _ hS h (lv_sub hl [0, 1, 2] rfl)
set_option maxHeartbeats 4000000 in
set_option maxRecDepth 100000 in
theorem c_X0_truth {l : Launch} {X : ez_X} {B : Nat} {σ : ez_H} {x0 : Int32} {z : Int32} (h : z_X0_truth σ x0 = some z) : ez_M l X B σ yX0_truth cX0_truth 1 (some .int) 0 [.int x0] (some (.int z)) σ := by
  refine ez_startip (z := z) (by decide) (Nat.le_of_ble_eq_true rfl) (fun p e R s m args below meth c Q hC hret hS ls hl => ?_)
  have hC : ez_C p R s m args c X B RX0 cX0_truth 1 0 := hC
  have hx := hC.1.1
  have hb := hC.1.2.1
  have hown := hC.1.2.2.2.1
  have hts := hC.1.2.2.2.2
  have hl : lv_has ls 1 [(0, .int x0)] := hl
  obtain ⟨n0, e0⟩ : ∃ n0 : Nat, n0 = σ.length := ⟨_, rfl⟩
  rw [← e0] at hret hS
  have K_9 : ∀ (y0 : Int32) (H : Heap) (locs : List Loc) (ls : Array Slot), ez_S X B s.heap (n0) σ H locs → z_X0_truth_9 σ y0 = some z → lv_has ls 1 [] → W p l e R s m args below meth c H locs 0 0 Q (F0 m 9 ls [.int y0]) := by
    intro y0 H locs ls hS h hl
    exact hret _ _ _ _ _ (Option.some.inj h) rfl hS dX0_truth_9
  refine lv_iload_n hx hb dX0_truth_0 rfl (lv_at hl 0 rfl) ?_
  refine lv_if_eq (tgt := 8) hx hb dX0_truth_1 (by decide) (fun c_1 => ?_) (fun c_1 => ?_)
  · replace h := ez_ifp h c_1
    refine lv_iconst (v := 0) hx hb dX0_truth_8 (by decide) ?_
    exact K_9  (0 : Int32) _ _ _ hS h (lv_sub hl [] rfl)
  · replace h := ez_ifn h c_1
    refine lv_iconst (v := 1) hx hb dX0_truth_4 (by decide) ?_
    refine lv_goto (tgt := 9) hx hb dX0_truth_5 (by decide) ?_
    exact K_9  (1 : Int32) _ _ _ hS h (lv_sub hl [] rfl)
set_option maxHeartbeats 4000000 in
set_option maxRecDepth 100000 in
theorem c_X0_joined {l : Launch} {X : ez_X} {B : Nat} {σ : ez_H} {x0 : Int32} {x1 : Int32} {x2 : Int32} {z : Int32} (h : z_X0_joined σ x0 x1 x2 = some z) : ez_M l X B σ yX0_joined cX0_joined 3 (some .int) 1 [.int x0, .int x1, .int x2] (some (.int z)) σ := by
  refine ez_startip (z := z) (by decide) (Nat.le_of_ble_eq_true rfl) (fun p e R s m args below meth c Q hC hret hS ls hl => ?_)
  have hC : ez_C p R s m args c X B RX0 cX0_joined 3 1 := hC
  have hx := hC.1.1
  have hb := hC.1.2.1
  have hown := hC.1.2.2.2.1
  have hts := hC.1.2.2.2.2
  have hl : lv_has ls 3 [(0, .int x0), (1, .int x1), (2, .int x2)] := hl
  obtain ⟨n0, e0⟩ : ∃ n0 : Nat, n0 = σ.length := ⟨_, rfl⟩
  rw [← e0] at hret hS
  have K_69 : ∀ (y0 : Int32) (H : Heap) (locs : List Loc) (ls : Array Slot), ez_S X B s.heap (n0) σ H locs → z_X0_joined_69 σ y0 = some z → lv_has ls 3 [] → W p l e R s m args below meth c H locs 0 0 Q (F0 m 69 ls [.int y0]) := by
    intro y0 H locs ls hS h hl
    refine ez_cSpi (As := [.int y0]) (rest := []) h (fun _ q => c_X0_truth q) hC k_X0_truth ql_RX0_36 rfl (by decide) hS hl.1 rfl (Nat.le_of_ble_eq_true rfl) ⟨Nat.zero_le _, Nat.zero_le _⟩ dX0_joined_69 (fun t_69 H locs hS h => ?_)
    exact hret _ _ _ _ _ (Option.some.inj h) rfl hS dX0_joined_72
  have K_64 : ∀ (H : Heap) (locs : List Loc) (ls : Array Slot), ez_S X B s.heap (n0) σ H locs → z_X0_joined_64 σ = some z → lv_has ls 3 [] → W p l e R s m args below meth c H locs 0 0 Q (F0 m 64 ls []) := by
    intro  H locs ls hS h hl
    refine lv_iconst (v := 1) hx hb dX0_joined_64 (by decide) ?_
    refine lv_goto (tgt := 69) hx hb dX0_joined_65 (by decide) ?_
    exact K_69  (1 : Int32) _ _ _ hS h (lv_sub hl [] rfl)
  have K_86 : ∀ (y0 : Int32) (H : Heap) (locs : List Loc) (ls : Array Slot), ez_S X B s.heap (n0) σ H locs → z_X0_joined_86 σ y0 = some z → lv_has ls 3 [] → W p l e R s m args below meth c H locs 0 0 Q (F0 m 86 ls [.int y0]) := by
    intro y0 H locs ls hS h hl
    refine ez_cSpi (As := [.int y0]) (rest := []) h (fun _ q => c_X0_truth q) hC k_X0_truth ql_RX0_36 rfl (by decide) hS hl.1 rfl (Nat.le_of_ble_eq_true rfl) ⟨Nat.zero_le _, Nat.zero_le _⟩ dX0_joined_86 (fun t_86 H locs hS h => ?_)
    exact hret _ _ _ _ _ (Option.some.inj h) rfl hS dX0_joined_89
  have K_85 : ∀ (H : Heap) (locs : List Loc) (ls : Array Slot), ez_S X B s.heap (n0) σ H locs → z_X0_joined_85 σ = some z → lv_has ls 3 [] → W p l e R s m args below meth c H locs 0 0 Q (F0 m 85 ls []) := by
    intro  H locs ls hS h hl
    refine lv_iconst (v := 0) hx hb dX0_joined_85 (by decide) ?_
    exact K_86  (0 : Int32) _ _ _ hS h (lv_sub hl [] rfl)
  have K_100 : ∀ (y0 : Int32) (H : Heap) (locs : List Loc) (ls : Array Slot), ez_S X B s.heap (n0) σ H locs → z_X0_joined_100 σ y0 = some z → lv_has ls 3 [] → W p l e R s m args below meth c H locs 0 0 Q (F0 m 100 ls [.int y0]) := by
    intro y0 H locs ls hS h hl
    refine ez_cSpi (As := [.int y0]) (rest := []) h (fun _ q => c_X0_truth q) hC k_X0_truth ql_RX0_36 rfl (by decide) hS hl.1 rfl (Nat.le_of_ble_eq_true rfl) ⟨Nat.zero_le _, Nat.zero_le _⟩ dX0_joined_100 (fun t_100 H locs hS h => ?_)
    exact hret _ _ _ _ _ (Option.some.inj h) rfl hS dX0_joined_103
  have K_114 : ∀ (y0 : Int32) (H : Heap) (locs : List Loc) (ls : Array Slot), ez_S X B s.heap (n0) σ H locs → z_X0_joined_114 σ y0 = some z → lv_has ls 3 [] → W p l e R s m args below meth c H locs 0 0 Q (F0 m 114 ls [.int y0]) := by
    intro y0 H locs ls hS h hl
    refine ez_cSpi (As := [.int y0]) (rest := []) h (fun _ q => c_X0_truth q) hC k_X0_truth ql_RX0_36 rfl (by decide) hS hl.1 rfl (Nat.le_of_ble_eq_true rfl) ⟨Nat.zero_le _, Nat.zero_le _⟩ dX0_joined_114 (fun t_114 H locs hS h => ?_)
    exact hret _ _ _ _ _ (Option.some.inj h) rfl hS dX0_joined_117
  have K_128 : ∀ (y0 : Int32) (H : Heap) (locs : List Loc) (ls : Array Slot), ez_S X B s.heap (n0) σ H locs → z_X0_joined_128 σ y0 = some z → lv_has ls 3 [] → W p l e R s m args below meth c H locs 0 0 Q (F0 m 128 ls [.int y0]) := by
    intro y0 H locs ls hS h hl
    refine ez_cSpi (As := [.int y0]) (rest := []) h (fun _ q => c_X0_truth q) hC k_X0_truth ql_RX0_36 rfl (by decide) hS hl.1 rfl (Nat.le_of_ble_eq_true rfl) ⟨Nat.zero_le _, Nat.zero_le _⟩ dX0_joined_128 (fun t_128 H locs hS h => ?_)
    exact hret _ _ _ _ _ (Option.some.inj h) rfl hS dX0_joined_131
  have K_155 : ∀ (y0 : Int32) (H : Heap) (locs : List Loc) (ls : Array Slot), ez_S X B s.heap (n0) σ H locs → z_X0_joined_155 σ y0 = some z → lv_has ls 3 [] → W p l e R s m args below meth c H locs 0 0 Q (F0 m 155 ls [.int y0]) := by
    intro y0 H locs ls hS h hl
    exact hret _ _ _ _ _ (Option.some.inj h) rfl hS dX0_joined_155
  have K_167 : ∀ (y0 : Int32) (H : Heap) (locs : List Loc) (ls : Array Slot), ez_S X B s.heap (n0) σ H locs → z_X0_joined_167 σ y0 = some z → lv_has ls 3 [] → W p l e R s m args below meth c H locs 0 0 Q (F0 m 167 ls [.int y0]) := by
    intro y0 H locs ls hS h hl
    exact hret _ _ _ _ _ (Option.some.inj h) rfl hS dX0_joined_167
  refine lv_iload_n hx hb dX0_joined_0 rfl (lv_at hl 0 rfl) ?_
  by_cases s_1_0 : x0 = 6
  · replace h := ez_ifp h s_1_0
    refine lv_tableIn (tgt := 56) hx hb dX0_joined_1 (by rw [s_1_0]; decide) (by rw [s_1_0]; decide) (by first | (rw [s_1_0]; done) | (rw [s_1_0]; rfl)) (by decide) ?_
    refine lv_iload_n hx hb dX0_joined_56 rfl (lv_at hl 1 rfl) ?_
    refine lv_if_ne (tgt := 64) hx hb dX0_joined_57 (by decide) (fun c_57 => ?_) (fun c_57 => ?_)
    · replace h := ez_ifn h c_57
      exact K_64   _ _ _ hS h (lv_sub hl [] rfl)
    · replace h := ez_ifp h c_57
      refine lv_iload_n hx hb dX0_joined_60 rfl (lv_at hl 2 rfl) ?_
      refine lv_if_eq (tgt := 68) hx hb dX0_joined_61 (by decide) (fun c_61 => ?_) (fun c_61 => ?_)
      · replace h := ez_ifp h c_61
        refine lv_iconst (v := 0) hx hb dX0_joined_68 (by decide) ?_
        exact K_69  (0 : Int32) _ _ _ hS h (lv_sub hl [] rfl)
      · replace h := ez_ifn h c_61
        exact K_64   _ _ _ hS h (lv_sub hl [] rfl)
  replace h := ez_ifn h s_1_0
  by_cases s_1_1 : x0 = 7
  · replace h := ez_ifp h s_1_1
    refine lv_tableIn (tgt := 73) hx hb dX0_joined_1 (by rw [s_1_1]; decide) (by rw [s_1_1]; decide) (by first | (rw [s_1_1]; done) | (rw [s_1_1]; rfl)) (by decide) ?_
    refine lv_iload_n hx hb dX0_joined_73 rfl (lv_at hl 1 rfl) ?_
    refine lv_if_eq (tgt := 85) hx hb dX0_joined_74 (by decide) (fun c_74 => ?_) (fun c_74 => ?_)
    · replace h := ez_ifp h c_74
      exact K_85   _ _ _ hS h (lv_sub hl [] rfl)
    · replace h := ez_ifn h c_74
      refine lv_iload_n hx hb dX0_joined_77 rfl (lv_at hl 2 rfl) ?_
      refine lv_if_eq (tgt := 85) hx hb dX0_joined_78 (by decide) (fun c_78 => ?_) (fun c_78 => ?_)
      · replace h := ez_ifp h c_78
        exact K_85   _ _ _ hS h (lv_sub hl [] rfl)
      · replace h := ez_ifn h c_78
        refine lv_iconst (v := 1) hx hb dX0_joined_81 (by decide) ?_
        refine lv_goto (tgt := 86) hx hb dX0_joined_82 (by decide) ?_
        exact K_86  (1 : Int32) _ _ _ hS h (lv_sub hl [] rfl)
  replace h := ez_ifn h s_1_1
  by_cases s_1_2 : x0 = 8
  · replace h := ez_ifp h s_1_2
    refine lv_tableIn (tgt := 90) hx hb dX0_joined_1 (by rw [s_1_2]; decide) (by rw [s_1_2]; decide) (by first | (rw [s_1_2]; done) | (rw [s_1_2]; rfl)) (by decide) ?_
    refine lv_iload_n hx hb dX0_joined_90 rfl (lv_at hl 1 rfl) ?_
    refine lv_iload_n hx hb dX0_joined_91 rfl (lv_at hl 2 rfl) ?_
    refine lv_icmp_ge (tgt := 99) hx hb dX0_joined_92 (by decide) (fun c_92 => ?_) (fun c_92 => ?_)
    · replace h := ez_ifp h c_92
      refine lv_iconst (v := 0) hx hb dX0_joined_99 (by decide) ?_
      exact K_100  (0 : Int32) _ _ _ hS h (lv_sub hl [] rfl)
    · replace h := ez_ifn h c_92
      refine lv_iconst (v := 1) hx hb dX0_joined_95 (by decide) ?_
      refine lv_goto (tgt := 100) hx hb dX0_joined_96 (by decide) ?_
      exact K_100  (1 : Int32) _ _ _ hS h (lv_sub hl [] rfl)
  replace h := ez_ifn h s_1_2
  by_cases s_1_3 : x0 = 9
  · replace h := ez_ifp h s_1_3
    refine lv_tableIn (tgt := 104) hx hb dX0_joined_1 (by rw [s_1_3]; decide) (by rw [s_1_3]; decide) (by first | (rw [s_1_3]; done) | (rw [s_1_3]; rfl)) (by decide) ?_
    refine lv_iload_n hx hb dX0_joined_104 rfl (lv_at hl 1 rfl) ?_
    refine lv_iload_n hx hb dX0_joined_105 rfl (lv_at hl 2 rfl) ?_
    refine lv_icmp_le (tgt := 113) hx hb dX0_joined_106 (by decide) (fun c_106 => ?_) (fun c_106 => ?_)
    · replace h := ez_ifp h c_106
      refine lv_iconst (v := 0) hx hb dX0_joined_113 (by decide) ?_
      exact K_114  (0 : Int32) _ _ _ hS h (lv_sub hl [] rfl)
    · replace h := ez_ifn h c_106
      refine lv_iconst (v := 1) hx hb dX0_joined_109 (by decide) ?_
      refine lv_goto (tgt := 114) hx hb dX0_joined_110 (by decide) ?_
      exact K_114  (1 : Int32) _ _ _ hS h (lv_sub hl [] rfl)
  replace h := ez_ifn h s_1_3
  by_cases s_1_4 : x0 = 10
  · replace h := ez_ifp h s_1_4
    refine lv_tableIn (tgt := 118) hx hb dX0_joined_1 (by rw [s_1_4]; decide) (by rw [s_1_4]; decide) (by first | (rw [s_1_4]; done) | (rw [s_1_4]; rfl)) (by decide) ?_
    refine lv_iload_n hx hb dX0_joined_118 rfl (lv_at hl 1 rfl) ?_
    refine lv_iload_n hx hb dX0_joined_119 rfl (lv_at hl 2 rfl) ?_
    refine lv_icmp_ne (tgt := 127) hx hb dX0_joined_120 (by decide) (fun c_120 => ?_) (fun c_120 => ?_)
    · replace h := ez_ifn h c_120
      refine lv_iconst (v := 0) hx hb dX0_joined_127 (by decide) ?_
      exact K_128  (0 : Int32) _ _ _ hS h (lv_sub hl [] rfl)
    · replace h := ez_ifp h c_120
      refine lv_iconst (v := 1) hx hb dX0_joined_123 (by decide) ?_
      refine lv_goto (tgt := 128) hx hb dX0_joined_124 (by decide) ?_
      exact K_128  (1 : Int32) _ _ _ hS h (lv_sub hl [] rfl)
  replace h := ez_ifn h s_1_4
  by_cases s_1_5 : x0 = 11
  · replace h := ez_ifp h s_1_5
    refine lv_tableIn (tgt := 132) hx hb dX0_joined_1 (by rw [s_1_5]; decide) (by rw [s_1_5]; decide) (by first | (rw [s_1_5]; done) | (rw [s_1_5]; rfl)) (by decide) ?_
    refine lv_iload_n hx hb dX0_joined_132 rfl (lv_at hl 1 rfl) ?_
    refine lv_iload_n hx hb dX0_joined_133 rfl (lv_at hl 2 rfl) ?_
    refine lv_iadd hx hb dX0_joined_134 ?_
    refine ez_top h (fun t_134 h => ?_)
    exact hret _ _ _ _ _ (Option.some.inj h) rfl hS dX0_joined_135
  replace h := ez_ifn h s_1_5
  by_cases s_1_6 : x0 = 12
  · replace h := ez_ifp h s_1_6
    refine lv_tableIn (tgt := 136) hx hb dX0_joined_1 (by rw [s_1_6]; decide) (by rw [s_1_6]; decide) (by first | (rw [s_1_6]; done) | (rw [s_1_6]; rfl)) (by decide) ?_
    refine lv_iload_n hx hb dX0_joined_136 rfl (lv_at hl 1 rfl) ?_
    refine lv_iload_n hx hb dX0_joined_137 rfl (lv_at hl 2 rfl) ?_
    refine lv_isub hx hb dX0_joined_138 ?_
    refine ez_top h (fun t_138 h => ?_)
    exact hret _ _ _ _ _ (Option.some.inj h) rfl hS dX0_joined_139
  replace h := ez_ifn h s_1_6
  by_cases s_1_7 : x0 = 13
  · replace h := ez_ifp h s_1_7
    refine lv_tableIn (tgt := 140) hx hb dX0_joined_1 (by rw [s_1_7]; decide) (by rw [s_1_7]; decide) (by first | (rw [s_1_7]; done) | (rw [s_1_7]; rfl)) (by decide) ?_
    refine lv_iload_n hx hb dX0_joined_140 rfl (lv_at hl 1 rfl) ?_
    refine lv_iload_n hx hb dX0_joined_141 rfl (lv_at hl 2 rfl) ?_
    refine lv_imul hx hb dX0_joined_142 ?_
    refine ez_top h (fun t_142 h => ?_)
    exact hret _ _ _ _ _ (Option.some.inj h) rfl hS dX0_joined_143
  replace h := ez_ifn h s_1_7
  by_cases s_1_8 : x0 = 14
  · replace h := ez_ifp h s_1_8
    refine lv_tableIn (tgt := 144) hx hb dX0_joined_1 (by rw [s_1_8]; decide) (by rw [s_1_8]; decide) (by first | (rw [s_1_8]; done) | (rw [s_1_8]; rfl)) (by decide) ?_
    refine lv_iload_n hx hb dX0_joined_144 rfl (lv_at hl 2 rfl) ?_
    refine lv_if_ne (tgt := 152) hx hb dX0_joined_145 (by decide) (fun c_145 => ?_) (fun c_145 => ?_)
    · replace h := ez_ifn h c_145
      refine lv_iload_n hx hb dX0_joined_152 rfl (lv_at hl 1 rfl) ?_
      refine lv_iload_n hx hb dX0_joined_153 rfl (lv_at hl 2 rfl) ?_
      obtain ⟨nz_154, h⟩ := ez_nz_sp h
      refine lv_idiv hx hb dX0_joined_154 nz_154 ?_
      refine ez_top h (fun t_154 h => ?_)
      exact K_155  t_154 _ _ _ hS h (lv_sub hl [] rfl)
    · replace h := ez_ifp h c_145
      refine lv_iconst (v := 0) hx hb dX0_joined_148 (by decide) ?_
      refine lv_goto (tgt := 155) hx hb dX0_joined_149 (by decide) ?_
      exact K_155  (0 : Int32) _ _ _ hS h (lv_sub hl [] rfl)
  replace h := ez_ifn h s_1_8
  by_cases s_1_9 : x0 = 15
  · replace h := ez_ifp h s_1_9
    refine lv_tableIn (tgt := 156) hx hb dX0_joined_1 (by rw [s_1_9]; decide) (by rw [s_1_9]; decide) (by first | (rw [s_1_9]; done) | (rw [s_1_9]; rfl)) (by decide) ?_
    refine lv_iload_n hx hb dX0_joined_156 rfl (lv_at hl 2 rfl) ?_
    refine lv_if_ne (tgt := 164) hx hb dX0_joined_157 (by decide) (fun c_157 => ?_) (fun c_157 => ?_)
    · replace h := ez_ifn h c_157
      refine lv_iload_n hx hb dX0_joined_164 rfl (lv_at hl 1 rfl) ?_
      refine lv_iload_n hx hb dX0_joined_165 rfl (lv_at hl 2 rfl) ?_
      obtain ⟨nz_166, h⟩ := ez_nz_sp h
      refine lv_irem hx hb dX0_joined_166 nz_166 ?_
      refine ez_top h (fun t_166 h => ?_)
      exact K_167  t_166 _ _ _ hS h (lv_sub hl [] rfl)
    · replace h := ez_ifp h c_157
      refine lv_iconst (v := 0) hx hb dX0_joined_160 (by decide) ?_
      refine lv_goto (tgt := 167) hx hb dX0_joined_161 (by decide) ?_
      exact K_167  (0 : Int32) _ _ _ hS h (lv_sub hl [] rfl)
  replace h := ez_ifn h s_1_9
  have w_1 : Int32.toInt x0 < 6 ∨ 15 < Int32.toInt x0 := by
    have q_0 := ez_toNe (k := 6) s_1_0 (by decide)
    have q_1 := ez_toNe (k := 7) s_1_1 (by decide)
    have q_2 := ez_toNe (k := 8) s_1_2 (by decide)
    have q_3 := ez_toNe (k := 9) s_1_3 (by decide)
    have q_4 := ez_toNe (k := 10) s_1_4 (by decide)
    have q_5 := ez_toNe (k := 11) s_1_5 (by decide)
    have q_6 := ez_toNe (k := 12) s_1_6 (by decide)
    have q_7 := ez_toNe (k := 13) s_1_7 (by decide)
    have q_8 := ez_toNe (k := 14) s_1_8 (by decide)
    have q_9 := ez_toNe (k := 15) s_1_9 (by decide)
    omega
  refine lv_tableOut (tgt := 168) hx hb dX0_joined_1 w_1 (by decide) ?_
  refine lv_iconst (v := 0) hx hb dX0_joined_168 (by decide) ?_
  exact hret _ _ _ _ _ (Option.some.inj h) rfl hS dX0_joined_169
set_option maxHeartbeats 4000000 in
set_option maxRecDepth 100000 in
theorem c_X0_unitValue {l : Launch} {X : ez_X} {B : Nat} {σ : ez_H} {x0 : Int32} {x1 : Int32} {x2 : Int32} {x3 : Int32} {x4 : Int32} {x5 : Int32} {z : Int32} (h : z_X0_unitValue σ x0 x1 x2 x3 x4 x5 = some z) : ez_M l X B σ yX0_unitValue cX0_unitValue 6 (some .int) 0 [.int x0, .int x1, .int x2, .int x3, .int x4, .int x5] (some (.int z)) σ := by
  refine ez_startip (z := z) (by decide) (Nat.le_of_ble_eq_true rfl) (fun p e R s m args below meth c Q hC hret hS ls hl => ?_)
  have hC : ez_C p R s m args c X B RX0 cX0_unitValue 6 0 := hC
  have hx := hC.1.1
  have hb := hC.1.2.1
  have hown := hC.1.2.2.2.1
  have hts := hC.1.2.2.2.2
  have hl : lv_has ls 6 [(0, .int x0), (1, .int x1), (2, .int x2), (3, .int x3), (4, .int x4), (5, .int x5)] := hl
  obtain ⟨n0, e0⟩ : ∃ n0 : Nat, n0 = σ.length := ⟨_, rfl⟩
  rw [← e0] at hret hS
  refine lv_iload_n hx hb dX0_unitValue_0 rfl (lv_at hl 0 rfl) ?_
  by_cases s_1_0 : x0 = 1
  · replace h := ez_ifp h s_1_0
    refine lv_tableIn (tgt := 32) hx hb dX0_unitValue_1 (by rw [s_1_0]; decide) (by rw [s_1_0]; decide) (by first | (rw [s_1_0]; done) | (rw [s_1_0]; rfl)) (by decide) ?_
    refine lv_iload_n hx hb dX0_unitValue_32 rfl (lv_at hl 2 rfl) ?_
    exact hret _ _ _ _ _ (Option.some.inj h) rfl hS dX0_unitValue_33
  replace h := ez_ifn h s_1_0
  by_cases s_1_1 : x0 = 2
  · replace h := ez_ifp h s_1_1
    refine lv_tableIn (tgt := 34) hx hb dX0_unitValue_1 (by rw [s_1_1]; decide) (by rw [s_1_1]; decide) (by first | (rw [s_1_1]; done) | (rw [s_1_1]; rfl)) (by decide) ?_
    refine lv_iload_n hx hb dX0_unitValue_34 rfl (lv_at hl 3 rfl) ?_
    exact hret _ _ _ _ _ (Option.some.inj h) rfl hS dX0_unitValue_35
  replace h := ez_ifn h s_1_1
  by_cases s_1_2 : x0 = 3
  · replace h := ez_ifp h s_1_2
    refine lv_tableIn (tgt := 36) hx hb dX0_unitValue_1 (by rw [s_1_2]; decide) (by rw [s_1_2]; decide) (by first | (rw [s_1_2]; done) | (rw [s_1_2]; rfl)) (by decide) ?_
    refine lv_iload hx hb dX0_unitValue_36 (lv_at hl 4 rfl) ?_
    exact hret _ _ _ _ _ (Option.some.inj h) rfl hS dX0_unitValue_38
  replace h := ez_ifn h s_1_2
  by_cases s_1_3 : x0 = 4
  · replace h := ez_ifp h s_1_3
    refine lv_tableIn (tgt := 39) hx hb dX0_unitValue_1 (by rw [s_1_3]; decide) (by rw [s_1_3]; decide) (by first | (rw [s_1_3]; done) | (rw [s_1_3]; rfl)) (by decide) ?_
    refine lv_iload hx hb dX0_unitValue_39 (lv_at hl 5 rfl) ?_
    exact hret _ _ _ _ _ (Option.some.inj h) rfl hS dX0_unitValue_41
  replace h := ez_ifn h s_1_3
  have w_1 : Int32.toInt x0 < 1 ∨ 4 < Int32.toInt x0 := by
    have q_0 := ez_toNe (k := 1) s_1_0 (by decide)
    have q_1 := ez_toNe (k := 2) s_1_1 (by decide)
    have q_2 := ez_toNe (k := 3) s_1_2 (by decide)
    have q_3 := ez_toNe (k := 4) s_1_3 (by decide)
    omega
  refine lv_tableOut (tgt := 42) hx hb dX0_unitValue_1 w_1 (by decide) ?_
  refine lv_iload_n hx hb dX0_unitValue_42 rfl (lv_at hl 1 rfl) ?_
  exact hret _ _ _ _ _ (Option.some.inj h) rfl hS dX0_unitValue_43
set_option maxHeartbeats 4000000 in
set_option maxRecDepth 100000 in
theorem c_X0_value {l : Launch} {X : ez_X} {B : Nat} {σ : ez_H} {h0 : Nat} {x1 : Int32} {x2 : Int32} {x3 : Int32} {x4 : Int32} {z : Int32 × ez_H} (h : z_X0_value σ h0 x1 x2 x3 x4 = some z) : ez_M l X B σ yX0_value cX0_value 8 (some .int) 2 [.ref (B + h0), .int x1, .int x2, .int x3, .int x4] (some (.int z.1)) z.2 := by
  refine ez_starti (z := z) (by decide) (Nat.le_of_ble_eq_true rfl) (fun p e R s m args below meth c Q hC hret hS ls hl => ?_)
  have hC : ez_C p R s m args c X B RX0 cX0_value 8 2 := hC
  have hx := hC.1.1
  have hb := hC.1.2.1
  have hown := hC.1.2.2.2.1
  have hts := hC.1.2.2.2.2
  have hl : lv_has ls 8 [(0, .ref (B + h0)), (1, .int x1), (2, .int x2), (3, .int x3), (4, .int x4)] := hl
  obtain ⟨σ0, eσ⟩ : ∃ σ0 : ez_H, σ0 = σ := ⟨_, rfl⟩
  rw [← eσ] at hret
  have hS : ez_S X B s.heap σ0.length σ s.heap [] := eσ ▸ hS
  obtain ⟨-, h⟩ := ez_in h
  have K_191 : ∀ (σ : ez_H) (y0 : Int32) (H : Heap) (locs : List Loc) (ls : Array Slot), ez_S X B s.heap (σ0.length) σ H locs → z_X0_value_191 σ y0 = some z → lv_has ls 8 [] → W p l e R s m args below meth c H locs 0 0 Q (F0 m 191 ls [.int y0]) := by
    intro σ y0 H locs ls hS h hl
    exact hret _ _ _ _ _ _ (Option.some.inj h) rfl hS dX0_value_191
  have K_173 : ∀ (σ : ez_H) (h0 : Nat) (x5 : Int32) (H : Heap) (locs : List Loc) (ls : Array Slot), ez_S X B s.heap (σ0.length) σ H locs → z_X0_value_173 σ h0 x5 = some z → lv_has ls 8 [(0, .ref (B + h0)), (5, .int x5)] → W p l e R s m args below meth c H locs 0 0 Q (F0 m 173 ls []) := by
    intro σ h0 x5 H locs ls hS h hl
    refine lv_iload hx hb dX0_value_173 (lv_at hl 1 rfl) ?_
    refine lv_if_le (tgt := 190) hx hb dX0_value_175 (by decide) (fun c_175 => ?_) (fun c_175 => ?_)
    · replace h := ez_ifp h c_175
      refine lv_iconst (v := 0) hx hb dX0_value_190 (by decide) ?_
      exact K_191  σ (0 : Int32) _ _ _ hS h (lv_sub hl [] rfl)
    · replace h := ez_ifn h c_175
      refine lv_aload_n hx hb dX0_value_178 rfl (lv_at hl 0 rfl) ?_
      refine eg_RX0_23 hC hS h dX0_value_179 (fun t_179 h => ?_)
      refine lv_iload hx hb dX0_value_182 (lv_at hl 1 rfl) ?_
      refine lv_iconst (v := 1) hx hb dX0_value_184 (by decide) ?_
      refine lv_isub hx hb dX0_value_185 ?_
      refine ez_top h (fun t_185 h => ?_)
      refine ez_ial hC hS h dX0_value_186 (fun t_186 h => ?_)
      refine lv_goto (tgt := 191) hx hb dX0_value_187 (by decide) ?_
      exact K_191  σ t_186 _ _ _ hS h (lv_sub hl [] rfl)
  have K_167 : ∀ (k_6 : ez_H → Nat → Int32 → Int32 → Int32 → Int32 → Int32 → Int32 → Option (Int32 × ez_H)) (hk_6 : ∀ (σ : ez_H) (h0 : Nat) (x1 : Int32) (x2 : Int32) (x3 : Int32) (x4 : Int32) (x5 : Int32) (x6 : Int32) (H : Heap) (locs : List Loc) (ls : Array Slot), ez_S X B s.heap (σ0.length) σ H locs → k_6 σ h0 x1 x2 x3 x4 x5 x6 = some z → lv_has ls 8 [(0, .ref (B + h0)), (1, .int x1), (2, .int x2), (3, .int x3), (4, .int x4), (5, .int x5), (6, .int x6)] → W p l e R s m args below meth c H locs 0 0 Q (F0 m 6 ls [])), ∀ (σ : ez_H) (h0 : Nat) (x1 : Int32) (x2 : Int32) (x3 : Int32) (x4 : Int32) (x5 : Int32) (x6 : Int32) (H : Heap) (locs : List Loc) (ls : Array Slot), ez_S X B s.heap (σ0.length) σ H locs → z_X0_value_167 k_6 σ h0 x1 x2 x3 x4 x5 x6 = some z → lv_has ls 8 [(0, .ref (B + h0)), (1, .int x1), (2, .int x2), (3, .int x3), (4, .int x4), (5, .int x5), (6, .int x6)] → W p l e R s m args below meth c H locs 0 0 Q (F0 m 167 ls []) := by
    intro k_6 hk_6 σ h0 x1 x2 x3 x4 x5 x6 H locs ls hS h hl
    obtain ⟨t_167, e_167, h⟩ := ez_let_sp h
    refine lv_iinc (v := t_167) (lv' := [(6, .int t_167), (0, .ref (B + h0)), (1, .int x1), (2, .int x2), (3, .int x3), (4, .int x4), (5, .int x5)]) hx hb dX0_value_167 hl (k := 6) rfl (by rw [e_167]; rfl) (by decide) rfl (fun ls hl => ?_)
    refine lv_goto (tgt := 6) hx hb dX0_value_170 (by decide) ?_
    exact hk_6 σ h0 x1 x2 x3 x4 x5 t_167 _ _ _ hS h (lv_sub hl [1, 2, 3, 4, 5, 6, 0] rfl)
  have K_124 : ∀ (k_6 : ez_H → Nat → Int32 → Int32 → Int32 → Int32 → Int32 → Int32 → Option (Int32 × ez_H)) (hk_6 : ∀ (σ : ez_H) (h0 : Nat) (x1 : Int32) (x2 : Int32) (x3 : Int32) (x4 : Int32) (x5 : Int32) (x6 : Int32) (H : Heap) (locs : List Loc) (ls : Array Slot), ez_S X B s.heap (σ0.length) σ H locs → k_6 σ h0 x1 x2 x3 x4 x5 x6 = some z → lv_has ls 8 [(0, .ref (B + h0)), (1, .int x1), (2, .int x2), (3, .int x3), (4, .int x4), (5, .int x5), (6, .int x6)] → W p l e R s m args below meth c H locs 0 0 Q (F0 m 6 ls [])), ∀ (σ : ez_H) (h0 : Nat) (x1 : Int32) (x2 : Int32) (x3 : Int32) (x4 : Int32) (x5 : Int32) (x6 : Int32) (x7 : Int32) (H : Heap) (locs : List Loc) (ls : Array Slot), ez_S X B s.heap (σ0.length) σ H locs → z_X0_value_124 k_6 σ h0 x1 x2 x3 x4 x5 x6 x7 = some z → lv_has ls 8 [(0, .ref (B + h0)), (1, .int x1), (2, .int x2), (3, .int x3), (4, .int x4), (5, .int x5), (6, .int x6), (7, .int x7)] → W p l e R s m args below meth c H locs 0 0 Q (F0 m 124 ls []) := by
    intro k_6 hk_6 σ h0 x1 x2 x3 x4 x5 x6 x7 H locs ls hS h hl
    refine lv_iload hx hb dX0_value_124 (lv_at hl 7 rfl) ?_
    refine lv_iconst (v := 5) hx hb dX0_value_126 (by decide) ?_
    refine lv_icmp_ge (tgt := 167) hx hb dX0_value_127 (by decide) (fun c_127 => ?_) (fun c_127 => ?_)
    · replace h := ez_ifp h c_127
      exact K_167 k_6 hk_6 σ h0 x1 x2 x3 x4 x5 x6 _ _ _ hS h (lv_sub hl [0, 1, 2, 3, 4, 5, 6] rfl)
    · replace h := ez_ifn h c_127
      refine lv_iload hx hb dX0_value_130 (lv_at hl 5 rfl) ?_
      refine lv_aload_n hx hb dX0_value_132 rfl (lv_at hl 0 rfl) ?_
      refine eg_RX0_23 hC hS h dX0_value_133 (fun t_133 h => ?_)
      refine ez_lnA hC hS h dX0_value_136 (fun t_136 h => ?_)
      refine lv_icmp_ge (tgt := 167) hx hb dX0_value_137 (by decide) (fun c_137 => ?_) (fun c_137 => ?_)
      · replace h := ez_ifp h c_137
        exact K_167 k_6 hk_6 σ h0 x1 x2 x3 x4 x5 x6 _ _ _ hS h (lv_sub hl [0, 1, 2, 3, 4, 5, 6] rfl)
      · replace h := ez_ifn h c_137
        refine lv_aload_n hx hb dX0_value_140 rfl (lv_at hl 0 rfl) ?_
        refine eg_RX0_23 hC hS h dX0_value_141 (fun t_141 h => ?_)
        refine lv_iload hx hb dX0_value_144 (lv_at hl 5 rfl) ?_
        refine lv_iload hx hb dX0_value_146 (lv_at hl 7 rfl) ?_
        refine lv_aload_n hx hb dX0_value_148 rfl (lv_at hl 0 rfl) ?_
        refine eg_RX0_20 hC hS h dX0_value_149 (fun t_149 h => ?_)
        refine lv_iload hx hb dX0_value_152 (lv_at hl 6 rfl) ?_
        refine ez_ial hC hS h dX0_value_154 (fun t_154 h => ?_)
        refine lv_iload_n hx hb dX0_value_155 rfl (lv_at hl 1 rfl) ?_
        refine lv_iload_n hx hb dX0_value_156 rfl (lv_at hl 2 rfl) ?_
        refine lv_iload_n hx hb dX0_value_157 rfl (lv_at hl 3 rfl) ?_
        refine lv_iload hx hb dX0_value_158 (lv_at hl 4 rfl) ?_
        refine ez_cSpi (As := [.int x7, .int t_154, .int x1, .int x2, .int x3, .int x4]) (rest := [.int x5, .ref (B + t_141)]) h (fun _ q => c_X0_unitValue q) hC k_X0_unitValue ql_RX0_40 rfl (by decide) hS hl.1 rfl (Nat.le_of_ble_eq_true rfl) ⟨Nat.zero_le _, Nat.zero_le _⟩ dX0_value_160 (fun t_160 H locs hS h => ?_)
        refine ez_ias hC hS h dX0_value_163 (fun σ H locs hS h => ?_)
        obtain ⟨t_164, e_164, h⟩ := ez_let_sp h
        refine lv_iinc (v := t_164) (lv' := [(5, .int t_164), (0, .ref (B + h0)), (1, .int x1), (2, .int x2), (3, .int x3), (4, .int x4), (6, .int x6), (7, .int x7)]) hx hb dX0_value_164 hl (k := 5) rfl (by rw [e_164]; rfl) (by decide) rfl (fun ls hl => ?_)
        exact K_167 k_6 hk_6 σ h0 x1 x2 x3 x4 t_164 x6 _ _ _ hS h (lv_sub hl [1, 2, 3, 4, 5, 0, 6] rfl)
  have K_117 : ∀ (k_6 : ez_H → Nat → Int32 → Int32 → Int32 → Int32 → Int32 → Int32 → Option (Int32 × ez_H)) (hk_6 : ∀ (σ : ez_H) (h0 : Nat) (x1 : Int32) (x2 : Int32) (x3 : Int32) (x4 : Int32) (x5 : Int32) (x6 : Int32) (H : Heap) (locs : List Loc) (ls : Array Slot), ez_S X B s.heap (σ0.length) σ H locs → k_6 σ h0 x1 x2 x3 x4 x5 x6 = some z → lv_has ls 8 [(0, .ref (B + h0)), (1, .int x1), (2, .int x2), (3, .int x3), (4, .int x4), (5, .int x5), (6, .int x6)] → W p l e R s m args below meth c H locs 0 0 Q (F0 m 6 ls [])), ∀ (σ : ez_H) (h0 : Nat) (x1 : Int32) (x2 : Int32) (x3 : Int32) (x4 : Int32) (x5 : Int32) (x6 : Int32) (y0 : Nat) (y1 : Int32) (y2 : Int32) (H : Heap) (locs : List Loc) (ls : Array Slot), ez_S X B s.heap (σ0.length) σ H locs → z_X0_value_117 k_6 σ h0 x1 x2 x3 x4 x5 x6 y0 y1 y2 = some z → lv_has ls 8 [(0, .ref (B + h0)), (1, .int x1), (2, .int x2), (3, .int x3), (4, .int x4), (5, .int x5), (6, .int x6)] → W p l e R s m args below meth c H locs 0 0 Q (F0 m 117 ls [.int y2, .int y1, .ref (B + y0)]) := by
    intro k_6 hk_6 σ h0 x1 x2 x3 x4 x5 x6 y0 y1 y2 H locs ls hS h hl
    refine ez_cSpi (As := [.int y2]) (rest := [.int y1, .ref (B + y0)]) h (fun _ q => c_X0_truth q) hC k_X0_truth ql_RX0_36 rfl (by decide) hS hl.1 rfl (Nat.le_of_ble_eq_true rfl) ⟨Nat.zero_le _, Nat.zero_le _⟩ dX0_value_117 (fun t_117 H locs hS h => ?_)
    refine ez_ias hC hS h dX0_value_120 (fun σ H locs hS h => ?_)
    refine lv_goto (tgt := 167) hx hb dX0_value_121 (by decide) ?_
    exact K_167 k_6 hk_6 σ h0 x1 x2 x3 x4 x5 x6 _ _ _ hS h (lv_sub hl [0, 1, 2, 3, 4, 5, 6] rfl)
  have K_80 : ∀ (k_6 : ez_H → Nat → Int32 → Int32 → Int32 → Int32 → Int32 → Int32 → Option (Int32 × ez_H)) (hk_6 : ∀ (σ : ez_H) (h0 : Nat) (x1 : Int32) (x2 : Int32) (x3 : Int32) (x4 : Int32) (x5 : Int32) (x6 : Int32) (H : Heap) (locs : List Loc) (ls : Array Slot), ez_S X B s.heap (σ0.length) σ H locs → k_6 σ h0 x1 x2 x3 x4 x5 x6 = some z → lv_has ls 8 [(0, .ref (B + h0)), (1, .int x1), (2, .int x2), (3, .int x3), (4, .int x4), (5, .int x5), (6, .int x6)] → W p l e R s m args below meth c H locs 0 0 Q (F0 m 6 ls [])), ∀ (σ : ez_H) (h0 : Nat) (x1 : Int32) (x2 : Int32) (x3 : Int32) (x4 : Int32) (x5 : Int32) (x6 : Int32) (x7 : Int32) (H : Heap) (locs : List Loc) (ls : Array Slot), ez_S X B s.heap (σ0.length) σ H locs → z_X0_value_80 k_6 σ h0 x1 x2 x3 x4 x5 x6 x7 = some z → lv_has ls 8 [(0, .ref (B + h0)), (1, .int x1), (2, .int x2), (3, .int x3), (4, .int x4), (5, .int x5), (6, .int x6), (7, .int x7)] → W p l e R s m args below meth c H locs 0 0 Q (F0 m 80 ls []) := by
    intro k_6 hk_6 σ h0 x1 x2 x3 x4 x5 x6 x7 H locs ls hS h hl
    refine lv_iload hx hb dX0_value_80 (lv_at hl 7 rfl) ?_
    refine lv_iconst (v := 5) hx hb dX0_value_82 (by decide) ?_
    refine lv_icmp_ne (tgt := 124) hx hb dX0_value_83 (by decide) (fun c_83 => ?_) (fun c_83 => ?_)
    · replace h := ez_ifn h c_83
      exact K_124 k_6 hk_6 σ h0 x1 x2 x3 x4 x5 x6 x7 _ _ _ hS h (lv_sub hl [0, 1, 2, 3, 4, 5, 6, 7] rfl)
    · replace h := ez_ifp h c_83
      refine lv_iload hx hb dX0_value_86 (lv_at hl 5 rfl) ?_
      refine lv_iconst (v := 1) hx hb dX0_value_88 (by decide) ?_
      refine lv_icmp_lt (tgt := 124) hx hb dX0_value_89 (by decide) (fun c_89 => ?_) (fun c_89 => ?_)
      · replace h := ez_ifp h c_89
        exact K_124 k_6 hk_6 σ h0 x1 x2 x3 x4 x5 x6 x7 _ _ _ hS h (lv_sub hl [0, 1, 2, 3, 4, 5, 6, 7] rfl)
      · replace h := ez_ifn h c_89
        refine lv_aload_n hx hb dX0_value_92 rfl (lv_at hl 0 rfl) ?_
        refine eg_RX0_23 hC hS h dX0_value_93 (fun t_93 h => ?_)
        refine lv_iload hx hb dX0_value_96 (lv_at hl 5 rfl) ?_
        refine lv_iconst (v := 1) hx hb dX0_value_98 (by decide) ?_
        refine lv_isub hx hb dX0_value_99 ?_
        refine ez_top h (fun t_99 h => ?_)
        refine lv_aload_n hx hb dX0_value_100 rfl (lv_at hl 0 rfl) ?_
        refine eg_RX0_23 hC hS h dX0_value_101 (fun t_101 h => ?_)
        refine lv_iload hx hb dX0_value_104 (lv_at hl 5 rfl) ?_
        refine lv_iconst (v := 1) hx hb dX0_value_106 (by decide) ?_
        refine lv_isub hx hb dX0_value_107 ?_
        refine ez_top h (fun t_107 h => ?_)
        refine ez_ial hC hS h dX0_value_108 (fun t_108 h => ?_)
        refine lv_if_ne (tgt := 116) hx hb dX0_value_109 (by decide) (fun c_109 => ?_) (fun c_109 => ?_)
        · replace h := ez_ifn h c_109
          refine lv_iconst (v := 0) hx hb dX0_value_116 (by decide) ?_
          exact K_117 k_6 hk_6 σ h0 x1 x2 x3 x4 x5 x6 t_93 t_99 (0 : Int32) _ _ _ hS h (lv_sub hl [0, 1, 2, 3, 4, 5, 6] rfl)
        · replace h := ez_ifp h c_109
          refine lv_iconst (v := 1) hx hb dX0_value_112 (by decide) ?_
          refine lv_goto (tgt := 117) hx hb dX0_value_113 (by decide) ?_
          exact K_117 k_6 hk_6 σ h0 x1 x2 x3 x4 x5 x6 t_93 t_99 (1 : Int32) _ _ _ hS h (lv_sub hl [0, 1, 2, 3, 4, 5, 6] rfl)
  have K_6 : ∀ (k_6 : ez_H → Nat → Int32 → Int32 → Int32 → Int32 → Int32 → Int32 → Option (Int32 × ez_H)) (hk_6 : ∀ (σ : ez_H) (h0 : Nat) (x1 : Int32) (x2 : Int32) (x3 : Int32) (x4 : Int32) (x5 : Int32) (x6 : Int32) (H : Heap) (locs : List Loc) (ls : Array Slot), ez_S X B s.heap (σ0.length) σ H locs → k_6 σ h0 x1 x2 x3 x4 x5 x6 = some z → lv_has ls 8 [(0, .ref (B + h0)), (1, .int x1), (2, .int x2), (3, .int x3), (4, .int x4), (5, .int x5), (6, .int x6)] → W p l e R s m args below meth c H locs 0 0 Q (F0 m 6 ls [])), ∀ (σ : ez_H) (h0 : Nat) (x1 : Int32) (x2 : Int32) (x3 : Int32) (x4 : Int32) (x5 : Int32) (x6 : Int32) (H : Heap) (locs : List Loc) (ls : Array Slot), ez_S X B s.heap (σ0.length) σ H locs → z_X0_value_6 k_6 σ h0 x1 x2 x3 x4 x5 x6 = some z → lv_has ls 8 [(0, .ref (B + h0)), (1, .int x1), (2, .int x2), (3, .int x3), (4, .int x4), (5, .int x5), (6, .int x6)] → W p l e R s m args below meth c H locs 0 0 Q (F0 m 6 ls []) := by
    intro k_6 hk_6 σ h0 x1 x2 x3 x4 x5 x6 H locs ls hS h hl
    refine lv_iload hx hb dX0_value_6 (lv_at hl 6 rfl) ?_
    refine lv_aload_n hx hb dX0_value_8 rfl (lv_at hl 0 rfl) ?_
    refine eg_RX0_13 hC hS h dX0_value_9 (fun t_9 h => ?_)
    refine lv_icmp_ge (tgt := 173) hx hb dX0_value_12 (by decide) (fun c_12 => ?_) (fun c_12 => ?_)
    · replace h := ez_ifp h c_12
      exact K_173  σ h0 x5 _ _ _ hS h (lv_sub hl [0, 5] rfl)
    · replace h := ez_ifn h c_12
      refine lv_iload hx hb dX0_value_15 (lv_at hl 6 rfl) ?_
      refine lv_sipush (v := 270) hx hb dX0_value_17 (by decide) ?_
      refine lv_icmp_ge (tgt := 173) hx hb dX0_value_20 (by decide) (fun c_20 => ?_) (fun c_20 => ?_)
      · replace h := ez_ifp h c_20
        exact K_173  σ h0 x5 _ _ _ hS h (lv_sub hl [0, 5] rfl)
      · replace h := ez_ifn h c_20
        refine lv_aload_n hx hb dX0_value_23 rfl (lv_at hl 0 rfl) ?_
        refine eg_RX0_16 hC hS h dX0_value_24 (fun t_24 h => ?_)
        refine lv_iload hx hb dX0_value_27 (lv_at hl 6 rfl) ?_
        refine ez_ial hC hS h dX0_value_29 (fun t_29 h => ?_)
        refine lv_istore (lv' := [(7, .int t_29), (0, .ref (B + h0)), (1, .int x1), (2, .int x2), (3, .int x3), (4, .int x4), (5, .int x5), (6, .int x6)]) hx hb dX0_value_30 hl (by decide) rfl (fun ls hl => ?_)
        refine lv_iload hx hb dX0_value_32 (lv_at hl 0 rfl) ?_
        refine lv_iconst (v := 5) hx hb dX0_value_34 (by decide) ?_
        refine lv_icmp_le (tgt := 80) hx hb dX0_value_35 (by decide) (fun c_35 => ?_) (fun c_35 => ?_)
        · replace h := ez_ifp h c_35
          exact K_80 k_6 hk_6 σ h0 x1 x2 x3 x4 x5 x6 t_29 _ _ _ hS h (lv_sub hl [1, 2, 3, 4, 5, 6, 7, 0] rfl)
        · replace h := ez_ifn h c_35
          refine lv_iload hx hb dX0_value_38 (lv_at hl 6 rfl) ?_
          refine lv_iconst (v := 2) hx hb dX0_value_40 (by decide) ?_
          refine lv_icmp_lt (tgt := 80) hx hb dX0_value_41 (by decide) (fun c_41 => ?_) (fun c_41 => ?_)
          · replace h := ez_ifp h c_41
            exact K_80 k_6 hk_6 σ h0 x1 x2 x3 x4 x5 x6 t_29 _ _ _ hS h (lv_sub hl [1, 2, 3, 4, 5, 6, 7, 0] rfl)
          · replace h := ez_ifn h c_41
            obtain ⟨t_44, e_44, h⟩ := ez_let_sp h
            refine lv_iinc (v := t_44) (lv' := [(5, .int t_44), (7, .int t_29), (0, .ref (B + h0)), (1, .int x1), (2, .int x2), (3, .int x3), (4, .int x4), (6, .int x6)]) hx hb dX0_value_44 hl (k := 6) rfl (by rw [e_44]; rfl) (by decide) rfl (fun ls hl => ?_)
            refine lv_aload_n hx hb dX0_value_47 rfl (lv_at hl 2 rfl) ?_
            refine eg_RX0_23 hC hS h dX0_value_48 (fun t_48 h => ?_)
            refine lv_iload hx hb dX0_value_51 (lv_at hl 0 rfl) ?_
            refine lv_iconst (v := 1) hx hb dX0_value_53 (by decide) ?_
            refine lv_isub hx hb dX0_value_54 ?_
            refine ez_top h (fun t_54 h => ?_)
            refine lv_iload hx hb dX0_value_55 (lv_at hl 1 rfl) ?_
            refine lv_aload_n hx hb dX0_value_57 rfl (lv_at hl 2 rfl) ?_
            refine eg_RX0_23 hC hS h dX0_value_58 (fun t_58 h => ?_)
            refine lv_iload hx hb dX0_value_61 (lv_at hl 0 rfl) ?_
            refine lv_iconst (v := 1) hx hb dX0_value_63 (by decide) ?_
            refine lv_isub hx hb dX0_value_64 ?_
            refine ez_top h (fun t_64 h => ?_)
            refine ez_ial hC hS h dX0_value_65 (fun t_65 h => ?_)
            refine lv_aload_n hx hb dX0_value_66 rfl (lv_at hl 2 rfl) ?_
            refine eg_RX0_23 hC hS h dX0_value_67 (fun t_67 h => ?_)
            refine lv_iload hx hb dX0_value_70 (lv_at hl 0 rfl) ?_
            refine ez_ial hC hS h dX0_value_72 (fun t_72 h => ?_)
            refine ez_cSpi (As := [.int t_29, .int t_65, .int t_72]) (rest := [.int t_54, .ref (B + t_48)]) h (fun _ q => c_X0_joined q) hC k_X0_joined ql_RX0_32 rfl (by decide) hS hl.1 rfl (Nat.le_of_ble_eq_true rfl) ⟨Nat.zero_le _, Nat.zero_le _⟩ dX0_value_73 (fun t_73 H locs hS h => ?_)
            refine ez_ias hC hS h dX0_value_76 (fun σ H locs hS h => ?_)
            refine lv_goto (tgt := 167) hx hb dX0_value_77 (by decide) ?_
            exact K_167 k_6 hk_6 σ h0 x1 x2 x3 x4 t_44 x6 _ _ _ hS h (lv_sub hl [2, 3, 4, 5, 6, 0, 7] rfl)
  have E_6 : ∀ (σ : ez_H) (h0 : Nat) (x1 : Int32) (x2 : Int32) (x3 : Int32) (x4 : Int32) (x5 : Int32) (x6 : Int32) (H : Heap) (locs : List Loc) (ls : Array Slot), ez_S X B s.heap (σ0.length) σ H locs → (ez_fix (fun _ _ _ _ _ _ _ _ => none) (z_X0_value_6) ez_N) σ h0 x1 x2 x3 x4 x5 x6 = some z → lv_has ls 8 [(0, .ref (B + h0)), (1, .int x1), (2, .int x2), (3, .int x3), (4, .int x4), (5, .int x5), (6, .int x6)] → W p l e R s m args below meth c H locs 0 0 Q (F0 m 6 ls []) := ez_fix_ind (fun k_6 : ez_H → Nat → Int32 → Int32 → Int32 → Int32 → Int32 → Int32 → Option (Int32 × ez_H) => ∀ (σ : ez_H) (h0 : Nat) (x1 : Int32) (x2 : Int32) (x3 : Int32) (x4 : Int32) (x5 : Int32) (x6 : Int32) (H : Heap) (locs : List Loc) (ls : Array Slot), ez_S X B s.heap (σ0.length) σ H locs → k_6 σ h0 x1 x2 x3 x4 x5 x6 = some z → lv_has ls 8 [(0, .ref (B + h0)), (1, .int x1), (2, .int x2), (3, .int x3), (4, .int x4), (5, .int x5), (6, .int x6)] → W p l e R s m args below meth c H locs 0 0 Q (F0 m 6 ls [])) (fun _ _ _ _ _ _ _ _ _ _ _ _ h _ => by cases h) (fun k_6 hk_6 => K_6 k_6 hk_6) ez_N
  refine lv_iconst (v := 0) hx hb dX0_value_0 (by decide) ?_
  refine lv_istore (lv' := [(5, .int 0), (0, .ref (B + h0)), (1, .int x1), (2, .int x2), (3, .int x3), (4, .int x4)]) hx hb dX0_value_1 hl (by decide) rfl (fun ls hl => ?_)
  refine lv_iconst (v := 0) hx hb dX0_value_3 (by decide) ?_
  refine lv_istore (lv' := [(6, .int 0), (5, .int 0), (0, .ref (B + h0)), (1, .int x1), (2, .int x2), (3, .int x3), (4, .int x4)]) hx hb dX0_value_4 hl (by decide) rfl (fun ls hl => ?_)
  exact E_6  σ h0 x1 x2 x3 x4 (0 : Int32) (0 : Int32) _ _ _ hS h (lv_sub hl [2, 3, 4, 5, 6, 1, 0] rfl)
set_option maxHeartbeats 4000000 in
set_option maxRecDepth 100000 in
theorem c_X7_putUsed {l : Launch} {X : ez_X} {B : Nat} {σ : ez_H} {h0 : Nat} {x1 : Int32} {x2 : Int32} {z : Unit × ez_H} (h : z_X7_putUsed σ h0 x1 x2 = some z) : ez_M l X B σ yX7_putUsed cX7_putUsed 3 (none) 1 [.ref (B + h0), .int x1, .int x2] (none) z.2 := by
  refine ez_startv (z := z) (by decide) (Nat.le_of_ble_eq_true rfl) (fun p e R s m args below meth c Q hC hret hS ls hl => ?_)
  have hC : ez_C p R s m args c X B RX7 cX7_putUsed 3 1 := hC
  have hx := hC.1.1
  have hb := hC.1.2.1
  have hown := hC.1.2.2.2.1
  have hts := hC.1.2.2.2.2
  have hl : lv_has ls 3 [(0, .ref (B + h0)), (1, .int x1), (2, .int x2)] := hl
  obtain ⟨σ0, eσ⟩ : ∃ σ0 : ez_H, σ0 = σ := ⟨_, rfl⟩
  rw [← eσ] at hret
  have hS : ez_S X B s.heap σ0.length σ s.heap [] := eσ ▸ hS
  obtain ⟨-, h⟩ := ez_in h
  refine lv_aload_n hx hb dX7_putUsed_0 rfl (lv_at hl 0 rfl) ?_
  refine lv_bipush (v := 8) hx hb dX7_putUsed_1 (by decide) ?_
  refine lv_iload_n hx hb dX7_putUsed_3 rfl (lv_at hl 1 rfl) ?_
  refine lv_iadd hx hb dX7_putUsed_4 ?_
  refine ez_top h (fun t_4 h => ?_)
  refine lv_iload_n hx hb dX7_putUsed_5 rfl (lv_at hl 2 rfl) ?_
  refine ez_cVv (As := [.int t_4, .int x2]) (rest := []) h (fun _ q => c_X7_put q) hC k_X7_put ql_RX7_31 rfl (by decide) hS (fun _ q => ez_rcv q) rfl hl.1 rfl (Nat.le_of_ble_eq_true rfl) ⟨Nat.zero_le _, Nat.zero_le _⟩ dX7_putUsed_6 (fun _ σ H locs hS h => ?_)
  exact hret _ _ _ _ _ _ (Option.some.inj h) hS dX7_putUsed_9
set_option maxHeartbeats 4000000 in
set_option maxRecDepth 100000 in
theorem c_X11_useOnce {l : Launch} {X : ez_X} {B : Nat} {σ : ez_H} {h0 : Nat} {h1 : Nat} {x2 : Int32} {z : Unit × ez_H} (h : z_X11_useOnce σ h0 h1 x2 = some z) : ez_M l X B σ yX11_useOnce cX11_useOnce 8 (none) 4 [.ref (B + h0), .ref (B + h1), .int x2] (none) z.2 := by
  refine ez_startv (z := z) (by decide) (Nat.le_of_ble_eq_true rfl) (fun p e R s m args below meth c Q hC hret hS ls hl => ?_)
  have hC : ez_C p R s m args c X B RX11 cX11_useOnce 8 4 := hC
  have hx := hC.1.1
  have hb := hC.1.2.1
  have hown := hC.1.2.2.2.1
  have hts := hC.1.2.2.2.2
  have hl : lv_has ls 8 [(0, .ref (B + h0)), (1, .ref (B + h1)), (2, .int x2)] := hl
  obtain ⟨σ0, eσ⟩ : ∃ σ0 : ez_H, σ0 = σ := ⟨_, rfl⟩
  rw [← eσ] at hret
  have hS : ez_S X B s.heap σ0.length σ s.heap [] := eσ ▸ hS
  obtain ⟨-, h⟩ := ez_in h
  have K_118 : ∀ (σ : ez_H) (h1 : Nat) (x2 : Int32) (H : Heap) (locs : List Loc) (ls : Array Slot), ez_S X B s.heap (σ0.length) σ H locs → z_X11_useOnce_118 σ h1 x2 = some z → lv_has ls 8 [(1, .ref (B + h1)), (2, .int x2)] → W p l e R s m args below meth c H locs 0 0 Q (F0 m 118 ls []) := by
    intro σ h1 x2 H locs ls hS h hl
    refine lv_aload_n hx hb dX11_useOnce_118 rfl (lv_at hl 0 rfl) ?_
    refine lv_iload_n hx hb dX11_useOnce_119 rfl (lv_at hl 1 rfl) ?_
    refine lv_aload_n hx hb dX11_useOnce_120 rfl (lv_at hl 0 rfl) ?_
    refine lv_iload_n hx hb dX11_useOnce_121 rfl (lv_at hl 1 rfl) ?_
    refine ez_cVpi (As := [.int x2]) (rest := [.int x2, .ref (B + h1)]) h (fun _ q => c_X7_used q) hC k_X7_used ql_RX11_149 rfl (by decide) hS (fun _ q => ez_rcv q) rfl hl.1 rfl (Nat.le_of_ble_eq_true rfl) ⟨Nat.zero_le _, Nat.zero_le _⟩ dX11_useOnce_122 (fun t_122 H locs hS h => ?_)
    refine lv_iconst (v := 1) hx hb dX11_useOnce_125 (by decide) ?_
    refine lv_iadd hx hb dX11_useOnce_126 ?_
    refine ez_top h (fun t_126 h => ?_)
    refine ez_cVv (As := [.int x2, .int t_126]) (rest := []) h (fun _ q => c_X7_putUsed q) hC k_X7_putUsed ql_RX11_270 rfl (by decide) hS (fun _ q => ez_rcv q) rfl hl.1 rfl (Nat.le_of_ble_eq_true rfl) ⟨Nat.zero_le _, Nat.zero_le _⟩ dX11_useOnce_127 (fun _ σ H locs hS h => ?_)
    exact hret _ _ _ _ _ _ (Option.some.inj h) hS dX11_useOnce_130
  refine lv_aload_n hx hb dX11_useOnce_0 rfl (lv_at hl 1 rfl) ?_
  refine ez_cVpi (As := []) (rest := []) h (fun _ q => c_X7_seed q) hC k_X7_seed ql_RX11_236 rfl (by decide) hS (fun _ q => ez_rcv q) rfl hl.1 rfl (Nat.le_of_ble_eq_true rfl) ⟨Nat.zero_le _, Nat.zero_le _⟩ dX11_useOnce_1 (fun t_1 H locs hS h => ?_)
  refine lv_sipush (v := 137) hx hb dX11_useOnce_4 (by decide) ?_
  refine lv_imul hx hb dX11_useOnce_7 ?_
  refine ez_top h (fun t_7 h => ?_)
  refine lv_bipush (v := 71) hx hb dX11_useOnce_8 (by decide) ?_
  refine lv_iadd hx hb dX11_useOnce_10 ?_
  refine ez_top h (fun t_10 h => ?_)
  refine lv_sipush (v := 1000) hx hb dX11_useOnce_11 (by decide) ?_
  obtain ⟨nz_14, h⟩ := ez_nz_sp h
  refine lv_irem hx hb dX11_useOnce_14 nz_14 ?_
  refine ez_top h (fun t_14 h => ?_)
  refine lv_istore_n (lv' := [(3, .int t_14), (0, .ref (B + h0)), (1, .ref (B + h1)), (2, .int x2)]) hx hb dX11_useOnce_15 rfl hl (by decide) rfl (fun ls hl => ?_)
  refine lv_aload_n hx hb dX11_useOnce_16 rfl (lv_at hl 2 rfl) ?_
  refine lv_iload_n hx hb dX11_useOnce_17 rfl (lv_at hl 0 rfl) ?_
  refine ez_cVv (As := [.int t_14]) (rest := []) h (fun _ q => c_X7_putSeed q) hC k_X7_putSeed ql_RX11_240 rfl (by decide) hS (fun _ q => ez_rcv q) rfl hl.1 rfl (Nat.le_of_ble_eq_true rfl) ⟨Nat.zero_le _, Nat.zero_le _⟩ dX11_useOnce_18 (fun _ σ H locs hS h => ?_)
  refine lv_aload_n hx hb dX11_useOnce_21 rfl (lv_at hl 2 rfl) ?_
  refine lv_iload_n hx hb dX11_useOnce_22 rfl (lv_at hl 3 rfl) ?_
  refine ez_cVpi (As := [.int x2]) (rest := []) h (fun _ q => c_X7_bits q) hC k_X7_bits ql_RX11_140 rfl (by decide) hS (fun _ q => ez_rcv q) rfl hl.1 rfl (Nat.le_of_ble_eq_true rfl) ⟨Nat.zero_le _, Nat.zero_le _⟩ dX11_useOnce_23 (fun t_23 H locs hS h => ?_)
  refine lv_istore (lv' := [(4, .int t_23), (3, .int t_14), (0, .ref (B + h0)), (1, .ref (B + h1)), (2, .int x2)]) hx hb dX11_useOnce_26 hl (by decide) rfl (fun ls hl => ?_)
  refine lv_iload_n hx hb dX11_useOnce_28 rfl (lv_at hl 1 rfl) ?_
  refine lv_iconst (v := 1) hx hb dX11_useOnce_29 (by decide) ?_
  refine lv_aload_n hx hb dX11_useOnce_30 rfl (lv_at hl 2 rfl) ?_
  refine eg_RX11_37 hC hS h dX11_useOnce_31 (fun t_31 h => ?_)
  refine eg_RX11_243 hC hS h dX11_useOnce_34 (fun t_34 h => ?_)
  refine va_mmax hx hb (hC.1.2.2.1.trans hl.1.symm) hown (hts _ ql_RX11_246) (hts _ qm_max_s) (hts _ qm_i) (hts _ qm_max_c) (Nat.le_trans (by decide) hC.2.2.1) (Nat.le_trans (Nat.le_of_ble_eq_true rfl) hC.2.2.2.1) (Nat.zero_le _) (Nat.zero_le _) dX11_useOnce_37 ?_
  refine ez_top h (fun t_37 h => ?_)
  obtain ⟨nz_40, h⟩ := ez_nz_sp h
  refine lv_irem hx hb dX11_useOnce_40 nz_40 ?_
  refine ez_top h (fun t_40 h => ?_)
  refine lv_istore (lv' := [(5, .int t_40), (4, .int t_23), (3, .int t_14), (0, .ref (B + h0)), (1, .ref (B + h1)), (2, .int x2)]) hx hb dX11_useOnce_41 hl (by decide) rfl (fun ls hl => ?_)
  refine lv_aload_n hx hb dX11_useOnce_43 rfl (lv_at hl 3 rfl) ?_
  refine eg_RX11_29 hC hS h dX11_useOnce_44 (fun t_44 h => ?_)
  refine eg_RX11_251 hC hS h dX11_useOnce_47 (fun t_47 h => ?_)
  refine lv_aload_n hx hb dX11_useOnce_50 rfl (lv_at hl 3 rfl) ?_
  refine eg_RX11_37 hC hS h dX11_useOnce_51 (fun t_51 h => ?_)
  refine lv_iload hx hb dX11_useOnce_54 (lv_at hl 1 rfl) ?_
  refine lv_iload hx hb dX11_useOnce_56 (lv_at hl 0 rfl) ?_
  refine ez_cVpi (As := [.int t_23, .int t_40]) (rest := [.ref (B + t_47)]) h (fun _ q => c_X6_depthAt q) hC k_X6_depthAt ql_RX11_161 rfl (by decide) hS (fun _ q => ez_rcv q) rfl hl.1 rfl (Nat.le_of_ble_eq_true rfl) ⟨Nat.zero_le _, Nat.zero_le _⟩ dX11_useOnce_58 (fun t_58 H locs hS h => ?_)
  refine lv_aload_n hx hb dX11_useOnce_61 rfl (lv_at hl 3 rfl) ?_
  refine eg_RX11_37 hC hS h dX11_useOnce_62 (fun t_62 h => ?_)
  refine lv_iload hx hb dX11_useOnce_65 (lv_at hl 1 rfl) ?_
  refine lv_iload hx hb dX11_useOnce_67 (lv_at hl 0 rfl) ?_
  refine ez_cVpi (As := [.int t_23, .int t_40]) (rest := [.int t_58, .ref (B + t_47)]) h (fun _ q => c_X6_besideOf q) hC k_X6_besideOf ql_RX11_255 rfl (by decide) hS (fun _ q => ez_rcv q) rfl hl.1 rfl (Nat.le_of_ble_eq_true rfl) ⟨Nat.zero_le _, Nat.zero_le _⟩ dX11_useOnce_69 (fun t_69 H locs hS h => ?_)
  refine lv_aload_n hx hb dX11_useOnce_72 rfl (lv_at hl 4 rfl) ?_
  refine lv_iload_n hx hb dX11_useOnce_73 rfl (lv_at hl 5 rfl) ?_
  refine ez_cVpi (As := [.int x2]) (rest := [.int t_69, .int t_58, .ref (B + t_47)]) h (fun _ q => c_X7_used q) hC k_X7_used ql_RX11_149 rfl (by decide) hS (fun _ q => ez_rcv q) rfl hl.1 rfl (Nat.le_of_ble_eq_true rfl) ⟨Nat.zero_le _, Nat.zero_le _⟩ dX11_useOnce_74 (fun t_74 H locs hS h => ?_)
  refine lv_iload hx hb dX11_useOnce_77 (lv_at hl 0 rfl) ?_
  refine ez_cVi (As := [.int t_58, .int t_69, .int t_74, .int t_40]) (rest := []) h (fun _ q => c_X0_value q) hC k_X0_value ql_RX11_258 rfl (by decide) hS (fun _ q => ez_rcv q) rfl hl.1 rfl (Nat.le_of_ble_eq_true rfl) ⟨Nat.zero_le _, Nat.zero_le _⟩ dX11_useOnce_79 (fun t_79 σ H locs hS h => ?_)
  refine lv_istore (lv' := [(6, .int t_79), (5, .int t_40), (4, .int t_23), (3, .int t_14), (0, .ref (B + h0)), (1, .ref (B + h1)), (2, .int x2)]) hx hb dX11_useOnce_82 hl (by decide) rfl (fun ls hl => ?_)
  refine lv_iload_n hx hb dX11_useOnce_84 rfl (lv_at hl 3 rfl) ?_
  refine lv_bipush (v := 10) hx hb dX11_useOnce_85 (by decide) ?_
  obtain ⟨nz_87, h⟩ := ez_nz_sp h
  refine lv_idiv hx hb dX11_useOnce_87 nz_87 ?_
  refine ez_top h (fun t_87 h => ?_)
  refine lv_iload hx hb dX11_useOnce_88 (lv_at hl 0 rfl) ?_
  refine lv_icmp_ge (tgt := 118) hx hb dX11_useOnce_90 (by decide) (fun c_90 => ?_) (fun c_90 => ?_)
  · replace h := ez_ifp h c_90
    exact K_118  σ h1 x2 _ _ _ hS h (lv_sub hl [5, 6] rfl)
  · replace h := ez_ifn h c_90
    refine lv_aload_n hx hb dX11_useOnce_93 rfl (lv_at hl 4 rfl) ?_
    refine eg_RX11_37 hC hS h dX11_useOnce_94 (fun t_94 h => ?_)
    refine lv_iload hx hb dX11_useOnce_97 (lv_at hl 2 rfl) ?_
    refine lv_iload hx hb dX11_useOnce_99 (lv_at hl 1 rfl) ?_
    refine ez_cVpi (As := [.int t_23, .int t_40]) (rest := []) h (fun _ q => c_X6_deeper q) hC k_X6_deeper ql_RX11_264 rfl (by decide) hS (fun _ q => ez_rcv q) rfl hl.1 rfl (Nat.le_of_ble_eq_true rfl) ⟨Nat.zero_le _, Nat.zero_le _⟩ dX11_useOnce_101 (fun t_101 H locs hS h => ?_)
    refine lv_istore (lv' := [(7, .int t_101), (6, .int t_79), (5, .int t_40), (4, .int t_23), (3, .int t_14), (0, .ref (B + h0)), (1, .ref (B + h1)), (2, .int x2)]) hx hb dX11_useOnce_104 hl (by decide) rfl (fun ls hl => ?_)
    refine lv_iload hx hb dX11_useOnce_106 (lv_at hl 0 rfl) ?_
    refine lv_if_eq (tgt := 118) hx hb dX11_useOnce_108 (by decide) (fun c_108 => ?_) (fun c_108 => ?_)
    · replace h := ez_ifp h c_108
      exact K_118  σ h1 x2 _ _ _ hS h (lv_sub hl [6, 7] rfl)
    · replace h := ez_ifn h c_108
      refine lv_aload_n hx hb dX11_useOnce_111 rfl (lv_at hl 6 rfl) ?_
      refine lv_iload_n hx hb dX11_useOnce_112 rfl (lv_at hl 7 rfl) ?_
      refine lv_iload hx hb dX11_useOnce_113 (lv_at hl 0 rfl) ?_
      refine ez_cVv (As := [.int x2, .int t_101]) (rest := []) h (fun _ q => c_X7_putBits q) hC k_X7_putBits ql_RX11_267 rfl (by decide) hS (fun _ q => ez_rcv q) rfl hl.1 rfl (Nat.le_of_ble_eq_true rfl) ⟨Nat.zero_le _, Nat.zero_le _⟩ dX11_useOnce_115 (fun _ σ H locs hS h => ?_)
      exact K_118  σ h1 x2 _ _ _ hS h (lv_sub hl [6, 7] rfl)
set_option maxHeartbeats 4000000 in
set_option maxRecDepth 100000 in
theorem c_X11_lasts {l : Launch} {X : ez_X} {B : Nat} {σ : ez_H} {h0 : Nat} {x1 : Int32} {x2 : Int32} {z : Int32 × ez_H} (h : z_X11_lasts σ h0 x1 x2 = some z) : ez_M l X B σ yX11_lasts cX11_lasts 4 (some .int) 5 [.ref (B + h0), .int x1, .int x2] (some (.int z.1)) z.2 := by
  refine ez_starti (z := z) (by decide) (Nat.le_of_ble_eq_true rfl) (fun p e R s m args below meth c Q hC hret hS ls hl => ?_)
  have hC : ez_C p R s m args c X B RX11 cX11_lasts 4 5 := hC
  have hx := hC.1.1
  have hb := hC.1.2.1
  have hown := hC.1.2.2.2.1
  have hts := hC.1.2.2.2.2
  have hl : lv_has ls 4 [(0, .ref (B + h0)), (1, .int x1), (2, .int x2)] := hl
  obtain ⟨σ0, eσ⟩ : ∃ σ0 : ez_H, σ0 = σ := ⟨_, rfl⟩
  rw [← eσ] at hret
  have hS : ez_S X B s.heap σ0.length σ s.heap [] := eσ ▸ hS
  obtain ⟨-, h⟩ := ez_in h
  have K_22 : ∀ (σ : ez_H) (H : Heap) (locs : List Loc) (ls : Array Slot), ez_S X B s.heap (σ0.length) σ H locs → z_X11_lasts_22 σ = some z → lv_has ls 4 [] → W p l e R s m args below meth c H locs 0 0 Q (F0 m 22 ls []) := by
    intro σ H locs ls hS h hl
    refine lv_iconst (v := -1) hx hb dX11_lasts_22 (by decide) ?_
    exact hret _ _ _ _ _ _ (Option.some.inj h) rfl hS dX11_lasts_23
  have K_37 : ∀ (k_37 : ez_H → Nat → Int32 → Int32 → Int32 → Option (Int32 × ez_H)) (hk_37 : ∀ (σ : ez_H) (h0 : Nat) (x1 : Int32) (x2 : Int32) (x3 : Int32) (H : Heap) (locs : List Loc) (ls : Array Slot), ez_S X B s.heap (σ0.length) σ H locs → k_37 σ h0 x1 x2 x3 = some z → lv_has ls 4 [(0, .ref (B + h0)), (1, .int x1), (2, .int x2), (3, .int x3)] → W p l e R s m args below meth c H locs 0 0 Q (F0 m 37 ls [])), ∀ (σ : ez_H) (h0 : Nat) (x1 : Int32) (x2 : Int32) (x3 : Int32) (H : Heap) (locs : List Loc) (ls : Array Slot), ez_S X B s.heap (σ0.length) σ H locs → z_X11_lasts_37 k_37 σ h0 x1 x2 x3 = some z → lv_has ls 4 [(0, .ref (B + h0)), (1, .int x1), (2, .int x2), (3, .int x3)] → W p l e R s m args below meth c H locs 0 0 Q (F0 m 37 ls []) := by
    intro k_37 hk_37 σ h0 x1 x2 x3 H locs ls hS h hl
    refine lv_iload_n hx hb dX11_lasts_37 rfl (lv_at hl 3 rfl) ?_
    refine lv_sipush (v := 200) hx hb dX11_lasts_38 (by decide) ?_
    refine lv_icmp_gt (tgt := 83) hx hb dX11_lasts_41 (by decide) (fun c_41 => ?_) (fun c_41 => ?_)
    · replace h := ez_ifp h c_41
      refine lv_iconst (v := -1) hx hb dX11_lasts_83 (by decide) ?_
      exact hret _ _ _ _ _ _ (Option.some.inj h) rfl hS dX11_lasts_84
    · replace h := ez_ifn h c_41
      refine lv_aload_n hx hb dX11_lasts_44 rfl (lv_at hl 0 rfl) ?_
      refine eg_RX11_45 hC hS h dX11_lasts_45 (fun t_45 h => ?_)
      refine lv_iload_n hx hb dX11_lasts_48 rfl (lv_at hl 1 rfl) ?_
      refine ez_cVpi (As := [.int x1]) (rest := []) h (fun _ q => c_X7_bits q) hC k_X7_bits ql_RX11_140 rfl (by decide) hS (fun _ q => ez_rcv q) rfl hl.1 rfl (Nat.le_of_ble_eq_true rfl) ⟨Nat.zero_le _, Nat.zero_le _⟩ dX11_lasts_49 (fun t_49 H locs hS h => ?_)
      refine lv_aload_n hx hb dX11_lasts_52 rfl (lv_at hl 0 rfl) ?_
      refine eg_RX11_45 hC hS h dX11_lasts_53 (fun t_53 h => ?_)
      refine lv_iload_n hx hb dX11_lasts_56 rfl (lv_at hl 2 rfl) ?_
      refine ez_cVpi (As := [.int x2]) (rest := [.int t_49]) h (fun _ q => c_X7_pins q) hC k_X7_pins ql_RX11_168 rfl (by decide) hS (fun _ q => ez_rcv q) rfl hl.1 rfl (Nat.le_of_ble_eq_true rfl) ⟨Nat.zero_le _, Nat.zero_le _⟩ dX11_lasts_57 (fun t_57 H locs hS h => ?_)
      refine ez_cSpi (As := [.int t_49, .int t_57]) (rest := []) h (fun _ q => c_X6_fitsIn q) hC k_X6_fitsIn ql_RX11_215 rfl (by decide) hS hl.1 rfl (Nat.le_of_ble_eq_true rfl) ⟨Nat.zero_le _, Nat.zero_le _⟩ dX11_lasts_60 (fun t_60 H locs hS h => ?_)
      refine lv_if_ne (tgt := 68) hx hb dX11_lasts_63 (by decide) (fun c_63 => ?_) (fun c_63 => ?_)
      · replace h := ez_ifn h c_63
        refine lv_aload_n hx hb dX11_lasts_68 rfl (lv_at hl 0 rfl) ?_
        refine lv_aload_n hx hb dX11_lasts_69 rfl (lv_at hl 0 rfl) ?_
        refine eg_RX11_45 hC hS h dX11_lasts_70 (fun t_70 h => ?_)
        refine lv_iload_n hx hb dX11_lasts_73 rfl (lv_at hl 1 rfl) ?_
        refine ez_cVv (As := [.ref (B + t_70), .int x1]) (rest := []) h (fun _ q => c_X11_useOnce q) hC k_X11_useOnce ql_RX11_228 rfl (by decide) hS (fun _ q => ez_rcv q) rfl hl.1 rfl (Nat.le_of_ble_eq_true rfl) ⟨Nat.zero_le _, Nat.zero_le _⟩ dX11_lasts_74 (fun _ σ H locs hS h => ?_)
        obtain ⟨t_77, e_77, h⟩ := ez_let_sp h
        refine lv_iinc (v := t_77) (lv' := [(3, .int t_77), (0, .ref (B + h0)), (1, .int x1), (2, .int x2)]) hx hb dX11_lasts_77 hl (k := 3) rfl (by rw [e_77]; rfl) (by decide) rfl (fun ls hl => ?_)
        refine lv_goto (tgt := 37) hx hb dX11_lasts_80 (by decide) ?_
        exact hk_37 σ h0 x1 x2 t_77 _ _ _ hS h (lv_sub hl [1, 2, 3, 0] rfl)
      · replace h := ez_ifp h c_63
        refine lv_iload_n hx hb dX11_lasts_66 rfl (lv_at hl 3 rfl) ?_
        exact hret _ _ _ _ _ _ (Option.some.inj h) rfl hS dX11_lasts_67
  have E_37 : ∀ (σ : ez_H) (h0 : Nat) (x1 : Int32) (x2 : Int32) (x3 : Int32) (H : Heap) (locs : List Loc) (ls : Array Slot), ez_S X B s.heap (σ0.length) σ H locs → (ez_fix (fun _ _ _ _ _ => none) (z_X11_lasts_37) ez_N) σ h0 x1 x2 x3 = some z → lv_has ls 4 [(0, .ref (B + h0)), (1, .int x1), (2, .int x2), (3, .int x3)] → W p l e R s m args below meth c H locs 0 0 Q (F0 m 37 ls []) := ez_fix_ind (fun k_37 : ez_H → Nat → Int32 → Int32 → Int32 → Option (Int32 × ez_H) => ∀ (σ : ez_H) (h0 : Nat) (x1 : Int32) (x2 : Int32) (x3 : Int32) (H : Heap) (locs : List Loc) (ls : Array Slot), ez_S X B s.heap (σ0.length) σ H locs → k_37 σ h0 x1 x2 x3 = some z → lv_has ls 4 [(0, .ref (B + h0)), (1, .int x1), (2, .int x2), (3, .int x3)] → W p l e R s m args below meth c H locs 0 0 Q (F0 m 37 ls [])) (fun _ _ _ _ _ _ _ _ _ h _ => by cases h) (fun k_37 hk_37 => K_37 k_37 hk_37) ez_N
  refine lv_aload_n hx hb dX11_lasts_0 rfl (lv_at hl 0 rfl) ?_
  refine eg_RX11_29 hC hS h dX11_lasts_1 (fun t_1 h => ?_)
  refine lv_iload_n hx hb dX11_lasts_4 rfl (lv_at hl 1 rfl) ?_
  refine ez_cVpi (As := [.int x1]) (rest := []) h (fun _ q => c_X3_hasKey q) hC k_X3_hasKey ql_RX11_137 rfl (by decide) hS (fun _ q => ez_rcv q) rfl hl.1 rfl (Nat.le_of_ble_eq_true rfl) ⟨Nat.zero_le _, Nat.zero_le _⟩ dX11_lasts_5 (fun t_5 H locs hS h => ?_)
  refine lv_if_eq (tgt := 22) hx hb dX11_lasts_8 (by decide) (fun c_8 => ?_) (fun c_8 => ?_)
  · replace h := ez_ifp h c_8
    exact K_22  σ _ _ _ hS h (lv_sub hl [] rfl)
  · replace h := ez_ifn h c_8
    refine lv_aload_n hx hb dX11_lasts_11 rfl (lv_at hl 0 rfl) ?_
    refine eg_RX11_29 hC hS h dX11_lasts_12 (fun t_12 h => ?_)
    refine lv_iload_n hx hb dX11_lasts_15 rfl (lv_at hl 2 rfl) ?_
    refine ez_cVpi (As := [.int x2]) (rest := []) h (fun _ q => c_X3_hasLock q) hC k_X3_hasLock ql_RX11_165 rfl (by decide) hS (fun _ q => ez_rcv q) rfl hl.1 rfl (Nat.le_of_ble_eq_true rfl) ⟨Nat.zero_le _, Nat.zero_le _⟩ dX11_lasts_16 (fun t_16 H locs hS h => ?_)
    refine lv_if_ne (tgt := 24) hx hb dX11_lasts_19 (by decide) (fun c_19 => ?_) (fun c_19 => ?_)
    · replace h := ez_ifn h c_19
      refine lv_aload_n hx hb dX11_lasts_24 rfl (lv_at hl 0 rfl) ?_
      refine eg_RX11_45 hC hS h dX11_lasts_25 (fun t_25 h => ?_)
      refine lv_aload_n hx hb dX11_lasts_28 rfl (lv_at hl 0 rfl) ?_
      refine eg_RX11_41 hC hS h dX11_lasts_29 (fun t_29 h => ?_)
      refine ez_cVv (As := [.ref (B + t_29)]) (rest := []) h (fun _ q => c_X7_copyFrom q) hC k_X7_copyFrom ql_RX11_118 rfl (by decide) hS (fun _ q => ez_rcv q) rfl hl.1 rfl (Nat.le_of_ble_eq_true rfl) ⟨Nat.zero_le _, Nat.zero_le _⟩ dX11_lasts_32 (fun _ σ H locs hS h => ?_)
      refine lv_iconst (v := 0) hx hb dX11_lasts_35 (by decide) ?_
      refine lv_istore_n (lv' := [(3, .int 0), (0, .ref (B + h0)), (1, .int x1), (2, .int x2)]) hx hb dX11_lasts_36 rfl hl (by decide) rfl (fun ls hl => ?_)
      exact E_37  σ h0 x1 x2 (0 : Int32) _ _ _ hS h (lv_sub hl [1, 2, 3, 0] rfl)
    · replace h := ez_ifp h c_19
      exact K_22  σ _ _ _ hS h (lv_sub hl [] rfl)
set_option maxHeartbeats 4000000 in
set_option maxRecDepth 100000 in
theorem c_X10_goOn {l : Launch} {X : ez_X} {B : Nat} {σ : ez_H} {h0 : Nat} {x1 : Int32} {z : Int32 × ez_H} (h : z_X10_goOn σ h0 x1 = some z) : ez_M l X B σ yX10_goOn cX10_goOn 2 (some .int) 0 [.ref (B + h0), .int x1] (some (.int z.1)) z.2 := by
  refine ez_starti (z := z) (by decide) (Nat.le_of_ble_eq_true rfl) (fun p e R s m args below meth c Q hC hret hS ls hl => ?_)
  have hC : ez_C p R s m args c X B RX10 cX10_goOn 2 0 := hC
  have hx := hC.1.1
  have hb := hC.1.2.1
  have hown := hC.1.2.2.2.1
  have hts := hC.1.2.2.2.2
  have hl : lv_has ls 2 [(0, .ref (B + h0)), (1, .int x1)] := hl
  obtain ⟨σ0, eσ⟩ : ∃ σ0 : ez_H, σ0 = σ := ⟨_, rfl⟩
  rw [← eσ] at hret
  have hS : ez_S X B s.heap σ0.length σ s.heap [] := eσ ▸ hS
  obtain ⟨-, h⟩ := ez_in h
  have K_22 : ∀ (σ : ez_H) (H : Heap) (locs : List Loc) (ls : Array Slot), ez_S X B s.heap (σ0.length) σ H locs → z_X10_goOn_22 σ = some z → lv_has ls 2 [] → W p l e R s m args below meth c H locs 0 0 Q (F0 m 22 ls []) := by
    intro σ H locs ls hS h hl
    refine lv_iconst (v := -1) hx hb dX10_goOn_22 (by decide) ?_
    exact hret _ _ _ _ _ _ (Option.some.inj h) rfl hS dX10_goOn_23
  refine lv_iload_n hx hb dX10_goOn_0 rfl (lv_at hl 1 rfl) ?_
  refine lv_if_lt (tgt := 22) hx hb dX10_goOn_1 (by decide) (fun c_1 => ?_) (fun c_1 => ?_)
  · replace h := ez_ifp h c_1
    exact K_22  σ _ _ _ hS h (lv_sub hl [] rfl)
  · replace h := ez_ifn h c_1
    refine lv_iload_n hx hb dX10_goOn_4 rfl (lv_at hl 1 rfl) ?_
    refine lv_sipush (v := 1000) hx hb dX10_goOn_5 (by decide) ?_
    refine lv_icmp_gt (tgt := 22) hx hb dX10_goOn_8 (by decide) (fun c_8 => ?_) (fun c_8 => ?_)
    · replace h := ez_ifp h c_8
      exact K_22  σ _ _ _ hS h (lv_sub hl [] rfl)
    · replace h := ez_ifn h c_8
      refine lv_aload_n hx hb dX10_goOn_11 rfl (lv_at hl 0 rfl) ?_
      refine eg_RX10_29 hC hS h dX10_goOn_12 (fun t_12 h => ?_)
      refine lv_iload_n hx hb dX10_goOn_15 rfl (lv_at hl 1 rfl) ?_
      refine lv_iadd hx hb dX10_goOn_16 ?_
      refine ez_top h (fun t_16 h => ?_)
      refine lv_ldc hx hb hown (hts _ qc_RX10_32) dX10_goOn_17 ?_
      refine lv_icmp_le (tgt := 24) hx hb dX10_goOn_19 (by decide) (fun c_19 => ?_) (fun c_19 => ?_)
      · replace h := ez_ifp h c_19
        refine lv_aload_n hx hb dX10_goOn_24 rfl (lv_at hl 0 rfl) ?_
        refine lv_dup hx hb dX10_goOn_25 rfl ?_
        refine eg_RX10_29 hC hS h dX10_goOn_26 (fun t_26 h => ?_)
        refine lv_iload_n hx hb dX10_goOn_29 rfl (lv_at hl 1 rfl) ?_
        refine lv_iadd hx hb dX10_goOn_30 ?_
        refine ez_top h (fun t_30 h => ?_)
        refine ep_RX10_29 hC hS h dX10_goOn_31 (fun σ H locs hS h => ?_)
        refine lv_aload_n hx hb dX10_goOn_34 rfl (lv_at hl 0 rfl) ?_
        refine eg_RX10_29 hC hS h dX10_goOn_35 (fun t_35 h => ?_)
        exact hret _ _ _ _ _ _ (Option.some.inj h) rfl hS dX10_goOn_38
      · replace h := ez_ifn h c_19
        exact K_22  σ _ _ _ hS h (lv_sub hl [] rfl)
set_option maxHeartbeats 4000000 in
set_option maxRecDepth 100000 in
theorem c_X11_later {l : Launch} {X : ez_X} {B : Nat} {σ : ez_H} {h0 : Nat} {x1 : Int32} {z : Int32 × ez_H} (h : z_X11_later σ h0 x1 = some z) : ez_M l X B σ yX11_later cX11_later 2 (some .int) 1 [.ref (B + h0), .int x1] (some (.int z.1)) z.2 := by
  refine ez_starti (z := z) (by decide) (Nat.le_of_ble_eq_true rfl) (fun p e R s m args below meth c Q hC hret hS ls hl => ?_)
  have hC : ez_C p R s m args c X B RX11 cX11_later 2 1 := hC
  have hx := hC.1.1
  have hb := hC.1.2.1
  have hown := hC.1.2.2.2.1
  have hts := hC.1.2.2.2.2
  have hl : lv_has ls 2 [(0, .ref (B + h0)), (1, .int x1)] := hl
  obtain ⟨σ0, eσ⟩ : ∃ σ0 : ez_H, σ0 = σ := ⟨_, rfl⟩
  rw [← eσ] at hret
  have hS : ez_S X B s.heap σ0.length σ s.heap [] := eσ ▸ hS
  obtain ⟨-, h⟩ := ez_in h
  refine lv_aload_n hx hb dX11_later_0 rfl (lv_at hl 0 rfl) ?_
  refine eg_RX11_93 hC hS h dX11_later_1 (fun t_1 h => ?_)
  refine lv_iload_n hx hb dX11_later_4 rfl (lv_at hl 1 rfl) ?_
  refine ez_cVi (As := [.int x1]) (rest := []) h (fun _ q => c_X10_goOn q) hC k_X10_goOn ql_RX11_410 rfl (by decide) hS (fun _ q => ez_rcv q) rfl hl.1 rfl (Nat.le_of_ble_eq_true rfl) ⟨Nat.zero_le _, Nat.zero_le _⟩ dX11_later_5 (fun t_5 σ H locs hS h => ?_)
  exact hret _ _ _ _ _ _ (Option.some.inj h) rfl hS dX11_later_8
set_option maxHeartbeats 4000000 in
set_option maxRecDepth 100000 in
theorem c_X11_law {l : Launch} {X : ez_X} {B : Nat} {σ : ez_H} {h0 : Nat} {x1 : Int32} {z : Int32 × ez_H} (h : z_X11_law σ h0 x1 = some z) : ez_M l X B σ yX11_law cX11_law 2 (some .int) 3 [.ref (B + h0), .int x1] (some (.int z.1)) z.2 := by
  refine ez_starti (z := z) (by decide) (Nat.le_of_ble_eq_true rfl) (fun p e R s m args below meth c Q hC hret hS ls hl => ?_)
  have hC : ez_C p R s m args c X B RX11 cX11_law 2 3 := hC
  have hx := hC.1.1
  have hb := hC.1.2.1
  have hown := hC.1.2.2.2.1
  have hts := hC.1.2.2.2.2
  have hl : lv_has ls 2 [(0, .ref (B + h0)), (1, .int x1)] := hl
  obtain ⟨σ0, eσ⟩ : ∃ σ0 : ez_H, σ0 = σ := ⟨_, rfl⟩
  rw [← eσ] at hret
  have hS : ez_S X B s.heap σ0.length σ s.heap [] := eσ ▸ hS
  obtain ⟨-, h⟩ := ez_in h
  have K_28 : ∀ (σ : ez_H) (y0 : Int32) (H : Heap) (locs : List Loc) (ls : Array Slot), ez_S X B s.heap (σ0.length) σ H locs → z_X11_law_28 σ y0 = some z → lv_has ls 2 [] → W p l e R s m args below meth c H locs 0 0 Q (F0 m 28 ls [.int y0]) := by
    intro σ y0 H locs ls hS h hl
    exact hret _ _ _ _ _ _ (Option.some.inj h) rfl hS dX11_law_28
  have K_9 : ∀ (σ : ez_H) (H : Heap) (locs : List Loc) (ls : Array Slot), ez_S X B s.heap (σ0.length) σ H locs → z_X11_law_9 σ = some z → lv_has ls 2 [] → W p l e R s m args below meth c H locs 0 0 Q (F0 m 9 ls []) := by
    intro σ H locs ls hS h hl
    refine lv_iconst (v := -1) hx hb dX11_law_9 (by decide) ?_
    refine lv_goto (tgt := 28) hx hb dX11_law_10 (by decide) ?_
    exact K_28  σ (-1 : Int32) _ _ _ hS h (lv_sub hl [] rfl)
  refine lv_iload_n hx hb dX11_law_0 rfl (lv_at hl 1 rfl) ?_
  refine lv_if_lt (tgt := 9) hx hb dX11_law_1 (by decide) (fun c_1 => ?_) (fun c_1 => ?_)
  · replace h := ez_ifp h c_1
    exact K_9  σ _ _ _ hS h (lv_sub hl [] rfl)
  · replace h := ez_ifn h c_1
    refine lv_iload_n hx hb dX11_law_4 rfl (lv_at hl 1 rfl) ?_
    refine lv_iconst (v := 5) hx hb dX11_law_5 (by decide) ?_
    refine lv_icmp_le (tgt := 13) hx hb dX11_law_6 (by decide) (fun c_6 => ?_) (fun c_6 => ?_)
    · replace h := ez_ifp h c_6
      refine lv_aload_n hx hb dX11_law_13 rfl (lv_at hl 0 rfl) ?_
      refine eg_RX11_37 hC hS h dX11_law_14 (fun t_14 h => ?_)
      refine lv_aload_n hx hb dX11_law_17 rfl (lv_at hl 0 rfl) ?_
      refine eg_RX11_37 hC hS h dX11_law_18 (fun t_18 h => ?_)
      refine ez_cVpi (As := []) (rest := [.ref (B + t_14)]) h (fun _ q => c_X6_everything q) hC k_X6_everything ql_RX11_301 rfl (by decide) hS (fun _ q => ez_rcv q) rfl hl.1 rfl (Nat.le_of_ble_eq_true rfl) ⟨Nat.zero_le _, Nat.zero_le _⟩ dX11_law_21 (fun t_21 H locs hS h => ?_)
      refine lv_iload_n hx hb dX11_law_24 rfl (lv_at hl 1 rfl) ?_
      refine ez_cVi (As := [.int t_21, .int x1]) (rest := []) h (fun _ q => c_X6_howMany q) hC k_X6_howMany ql_RX11_307 rfl (by decide) hS (fun _ q => ez_rcv q) rfl hl.1 rfl (Nat.le_of_ble_eq_true rfl) ⟨Nat.zero_le _, Nat.zero_le _⟩ dX11_law_25 (fun t_25 σ H locs hS h => ?_)
      exact K_28  σ t_25 _ _ _ hS h (lv_sub hl [] rfl)
    · replace h := ez_ifn h c_6
      exact K_9  σ _ _ _ hS h (lv_sub hl [] rfl)
set_option maxHeartbeats 4000000 in
set_option maxRecDepth 100000 in
theorem c_X5_stillOpened {l : Launch} {X : ez_X} {B : Nat} {σ : ez_H} {h0 : Nat} {x1 : Int32} {z : Int32} (h : z_X5_stillOpened σ h0 x1 = some z) : ez_M l X B σ yX5_stillOpened cX5_stillOpened 5 (some .int) 3 [.ref (B + h0), .int x1] (some (.int z)) σ := by
  refine ez_startip (z := z) (by decide) (Nat.le_of_ble_eq_true rfl) (fun p e R s m args below meth c Q hC hret hS ls hl => ?_)
  have hC : ez_C p R s m args c X B RX5 cX5_stillOpened 5 3 := hC
  have hx := hC.1.1
  have hb := hC.1.2.1
  have hown := hC.1.2.2.2.1
  have hts := hC.1.2.2.2.2
  have hl : lv_has ls 5 [(0, .ref (B + h0)), (1, .int x1)] := hl
  obtain ⟨n0, e0⟩ : ∃ n0 : Nat, n0 = σ.length := ⟨_, rfl⟩
  rw [← e0] at hret hS
  obtain ⟨-, h⟩ := ez_in h
  have K_62 : ∀ (k_4 : Nat → Int32 → Int32 → Int32 → Option (Int32)) (hk_4 : ∀ (h0 : Nat) (x1 : Int32) (x2 : Int32) (x3 : Int32) (H : Heap) (locs : List Loc) (ls : Array Slot), ez_S X B s.heap (n0) σ H locs → k_4 h0 x1 x2 x3 = some z → lv_has ls 5 [(0, .ref (B + h0)), (1, .int x1), (2, .int x2), (3, .int x3)] → W p l e R s m args below meth c H locs 0 0 Q (F0 m 4 ls [])), ∀ (h0 : Nat) (x1 : Int32) (x2 : Int32) (x3 : Int32) (H : Heap) (locs : List Loc) (ls : Array Slot), ez_S X B s.heap (n0) σ H locs → z_X5_stillOpened_62 σ k_4 h0 x1 x2 x3 = some z → lv_has ls 5 [(0, .ref (B + h0)), (1, .int x1), (2, .int x2), (3, .int x3)] → W p l e R s m args below meth c H locs 0 0 Q (F0 m 62 ls []) := by
    intro k_4 hk_4 h0 x1 x2 x3 H locs ls hS h hl
    obtain ⟨t_62, e_62, h⟩ := ez_let_sp h
    refine lv_iinc (v := t_62) (lv' := [(3, .int t_62), (0, .ref (B + h0)), (1, .int x1), (2, .int x2)]) hx hb dX5_stillOpened_62 hl (k := 3) rfl (by rw [e_62]; rfl) (by decide) rfl (fun ls hl => ?_)
    refine lv_goto (tgt := 4) hx hb dX5_stillOpened_65 (by decide) ?_
    exact hk_4 h0 x1 x2 t_62 _ _ _ hS h (lv_sub hl [1, 2, 3, 0] rfl)
  have K_4 : ∀ (k_4 : Nat → Int32 → Int32 → Int32 → Option (Int32)) (hk_4 : ∀ (h0 : Nat) (x1 : Int32) (x2 : Int32) (x3 : Int32) (H : Heap) (locs : List Loc) (ls : Array Slot), ez_S X B s.heap (n0) σ H locs → k_4 h0 x1 x2 x3 = some z → lv_has ls 5 [(0, .ref (B + h0)), (1, .int x1), (2, .int x2), (3, .int x3)] → W p l e R s m args below meth c H locs 0 0 Q (F0 m 4 ls [])), ∀ (h0 : Nat) (x1 : Int32) (x2 : Int32) (x3 : Int32) (H : Heap) (locs : List Loc) (ls : Array Slot), ez_S X B s.heap (n0) σ H locs → z_X5_stillOpened_4 σ k_4 h0 x1 x2 x3 = some z → lv_has ls 5 [(0, .ref (B + h0)), (1, .int x1), (2, .int x2), (3, .int x3)] → W p l e R s m args below meth c H locs 0 0 Q (F0 m 4 ls []) := by
    intro k_4 hk_4 h0 x1 x2 x3 H locs ls hS h hl
    refine lv_iload_n hx hb dX5_stillOpened_4 rfl (lv_at hl 3 rfl) ?_
    refine lv_aload_n hx hb dX5_stillOpened_5 rfl (lv_at hl 0 rfl) ?_
    refine eg_RX5_9 hC hS h dX5_stillOpened_6 (fun t_6 h => ?_)
    refine eg_RX5_64 hC hS h dX5_stillOpened_9 (fun t_9 h => ?_)
    refine lv_icmp_ge (tgt := 68) hx hb dX5_stillOpened_12 (by decide) (fun c_12 => ?_) (fun c_12 => ?_)
    · replace h := ez_ifp h c_12
      refine lv_iload_n hx hb dX5_stillOpened_68 rfl (lv_at hl 2 rfl) ?_
      exact hret _ _ _ _ _ (Option.some.inj h) rfl hS dX5_stillOpened_69
    · replace h := ez_ifn h c_12
      refine lv_aload_n hx hb dX5_stillOpened_15 rfl (lv_at hl 0 rfl) ?_
      refine eg_RX5_9 hC hS h dX5_stillOpened_16 (fun t_16 h => ?_)
      refine lv_iload_n hx hb dX5_stillOpened_19 rfl (lv_at hl 3 rfl) ?_
      refine ez_cVpi (As := [.int x3]) (rest := []) h (fun _ q => c_X3_mustOf q) hC k_X3_mustOf ql_RX5_55 rfl (by decide) hS (fun _ q => ez_rcv q) rfl hl.1 rfl (Nat.le_of_ble_eq_true rfl) ⟨Nat.zero_le _, Nat.zero_le _⟩ dX5_stillOpened_20 (fun t_20 H locs hS h => ?_)
      refine lv_iconst (v := 1) hx hb dX5_stillOpened_23 (by decide) ?_
      refine lv_iload_n hx hb dX5_stillOpened_24 rfl (lv_at hl 1 rfl) ?_
      refine lv_ishl hx hb dX5_stillOpened_25 ?_
      refine ez_top h (fun t_25 h => ?_)
      refine lv_iconst (v := -1) hx hb dX5_stillOpened_26 (by decide) ?_
      refine lv_ixor hx hb dX5_stillOpened_27 ?_
      refine ez_top h (fun t_27 h => ?_)
      refine lv_iand hx hb dX5_stillOpened_28 ?_
      refine ez_top h (fun t_28 h => ?_)
      refine lv_istore (lv' := [(4, .int t_28), (0, .ref (B + h0)), (1, .int x1), (2, .int x2), (3, .int x3)]) hx hb dX5_stillOpened_29 hl (by decide) rfl (fun ls hl => ?_)
      refine lv_iload hx hb dX5_stillOpened_31 (lv_at hl 0 rfl) ?_
      refine lv_if_eq (tgt := 62) hx hb dX5_stillOpened_33 (by decide) (fun c_33 => ?_) (fun c_33 => ?_)
      · replace h := ez_ifp h c_33
        exact K_62 k_4 hk_4 h0 x1 x2 x3 _ _ _ hS h (lv_sub hl [1, 2, 3, 4] rfl)
      · replace h := ez_ifn h c_33
        refine lv_aload_n hx hb dX5_stillOpened_36 rfl (lv_at hl 1 rfl) ?_
        refine eg_RX5_15 hC hS h dX5_stillOpened_37 (fun t_37 h => ?_)
        refine lv_iload_n hx hb dX5_stillOpened_40 rfl (lv_at hl 2 rfl) ?_
        refine ez_cVpi (As := [.int x1]) (rest := []) h (fun _ q => c_X7_bits q) hC k_X7_bits ql_RX5_37 rfl (by decide) hS (fun _ q => ez_rcv q) rfl hl.1 rfl (Nat.le_of_ble_eq_true rfl) ⟨Nat.zero_le _, Nat.zero_le _⟩ dX5_stillOpened_41 (fun t_41 H locs hS h => ?_)
        refine lv_aload_n hx hb dX5_stillOpened_44 rfl (lv_at hl 1 rfl) ?_
        refine lv_iload hx hb dX5_stillOpened_45 (lv_at hl 0 rfl) ?_
        refine ez_cVpi (As := [.int t_28]) (rest := [.int t_41]) h (fun _ q => c_X5_pinsFor q) hC k_X5_pinsFor ql_RX5_58 rfl (by decide) hS (fun _ q => ez_rcv q) rfl hl.1 rfl (Nat.le_of_ble_eq_true rfl) ⟨Nat.zero_le _, Nat.zero_le _⟩ dX5_stillOpened_47 (fun t_47 H locs hS h => ?_)
        refine ez_cSpi (As := [.int t_41, .int t_47]) (rest := []) h (fun _ q => c_X6_fitsIn q) hC k_X6_fitsIn ql_RX5_46 rfl (by decide) hS hl.1 rfl (Nat.le_of_ble_eq_true rfl) ⟨Nat.zero_le _, Nat.zero_le _⟩ dX5_stillOpened_50 (fun t_50 H locs hS h => ?_)
        refine lv_if_eq (tgt := 62) hx hb dX5_stillOpened_53 (by decide) (fun c_53 => ?_) (fun c_53 => ?_)
        · replace h := ez_ifp h c_53
          exact K_62 k_4 hk_4 h0 x1 x2 x3 _ _ _ hS h (lv_sub hl [1, 2, 3, 4] rfl)
        · replace h := ez_ifn h c_53
          refine lv_iload_n hx hb dX5_stillOpened_56 rfl (lv_at hl 3 rfl) ?_
          refine lv_iconst (v := 1) hx hb dX5_stillOpened_57 (by decide) ?_
          refine lv_iload_n hx hb dX5_stillOpened_58 rfl (lv_at hl 4 rfl) ?_
          refine lv_ishl hx hb dX5_stillOpened_59 ?_
          refine ez_top h (fun t_59 h => ?_)
          refine lv_ior hx hb dX5_stillOpened_60 ?_
          refine ez_top h (fun t_60 h => ?_)
          refine lv_istore_n (lv' := [(2, .int t_60), (4, .int t_28), (0, .ref (B + h0)), (1, .int x1), (3, .int x3)]) hx hb dX5_stillOpened_61 rfl hl (by decide) rfl (fun ls hl => ?_)
          exact K_62 k_4 hk_4 h0 x1 t_60 x3 _ _ _ hS h (lv_sub hl [2, 3, 0, 4] rfl)
  have E_4 : ∀ (h0 : Nat) (x1 : Int32) (x2 : Int32) (x3 : Int32) (H : Heap) (locs : List Loc) (ls : Array Slot), ez_S X B s.heap (n0) σ H locs → (ez_fix (fun _ _ _ _ => none) (z_X5_stillOpened_4 σ) ez_N) h0 x1 x2 x3 = some z → lv_has ls 5 [(0, .ref (B + h0)), (1, .int x1), (2, .int x2), (3, .int x3)] → W p l e R s m args below meth c H locs 0 0 Q (F0 m 4 ls []) := ez_fix_ind (fun k_4 : Nat → Int32 → Int32 → Int32 → Option (Int32) => ∀ (h0 : Nat) (x1 : Int32) (x2 : Int32) (x3 : Int32) (H : Heap) (locs : List Loc) (ls : Array Slot), ez_S X B s.heap (n0) σ H locs → k_4 h0 x1 x2 x3 = some z → lv_has ls 5 [(0, .ref (B + h0)), (1, .int x1), (2, .int x2), (3, .int x3)] → W p l e R s m args below meth c H locs 0 0 Q (F0 m 4 ls [])) (fun _ _ _ _ _ _ _ _ h _ => by cases h) (fun k_4 hk_4 => K_4 k_4 hk_4) ez_N
  refine lv_iconst (v := 0) hx hb dX5_stillOpened_0 (by decide) ?_
  refine lv_istore_n (lv' := [(2, .int 0), (0, .ref (B + h0)), (1, .int x1)]) hx hb dX5_stillOpened_1 rfl hl (by decide) rfl (fun ls hl => ?_)
  refine lv_iconst (v := 0) hx hb dX5_stillOpened_2 (by decide) ?_
  refine lv_istore_n (lv' := [(3, .int 0), (2, .int 0), (0, .ref (B + h0)), (1, .int x1)]) hx hb dX5_stillOpened_3 rfl hl (by decide) rfl (fun ls hl => ?_)
  exact E_4  h0 x1 (0 : Int32) (0 : Int32) _ _ _ hS h (lv_sub hl [2, 3, 1, 0] rfl)
set_option maxHeartbeats 4000000 in
set_option maxRecDepth 100000 in
theorem c_X11_leftOver {l : Launch} {X : ez_X} {B : Nat} {σ : ez_H} {h0 : Nat} {x1 : Int32} {z : Int32} (h : z_X11_leftOver σ h0 x1 = some z) : ez_M l X B σ yX11_leftOver cX11_leftOver 2 (some .int) 4 [.ref (B + h0), .int x1] (some (.int z)) σ := by
  refine ez_startip (z := z) (by decide) (Nat.le_of_ble_eq_true rfl) (fun p e R s m args below meth c Q hC hret hS ls hl => ?_)
  have hC : ez_C p R s m args c X B RX11 cX11_leftOver 2 4 := hC
  have hx := hC.1.1
  have hb := hC.1.2.1
  have hown := hC.1.2.2.2.1
  have hts := hC.1.2.2.2.2
  have hl : lv_has ls 2 [(0, .ref (B + h0)), (1, .int x1)] := hl
  obtain ⟨n0, e0⟩ : ∃ n0 : Nat, n0 = σ.length := ⟨_, rfl⟩
  rw [← e0] at hret hS
  obtain ⟨-, h⟩ := ez_in h
  have K_23 : ∀ (y0 : Int32) (H : Heap) (locs : List Loc) (ls : Array Slot), ez_S X B s.heap (n0) σ H locs → z_X11_leftOver_23 σ y0 = some z → lv_has ls 2 [] → W p l e R s m args below meth c H locs 0 0 Q (F0 m 23 ls [.int y0]) := by
    intro y0 H locs ls hS h hl
    exact hret _ _ _ _ _ (Option.some.inj h) rfl hS dX11_leftOver_23
  refine lv_aload_n hx hb dX11_leftOver_0 rfl (lv_at hl 0 rfl) ?_
  refine eg_RX11_29 hC hS h dX11_leftOver_1 (fun t_1 h => ?_)
  refine lv_iload_n hx hb dX11_leftOver_4 rfl (lv_at hl 1 rfl) ?_
  refine ez_cVpi (As := [.int x1]) (rest := []) h (fun _ q => c_X3_hasKey q) hC k_X3_hasKey ql_RX11_137 rfl (by decide) hS (fun _ q => ez_rcv q) rfl hl.1 rfl (Nat.le_of_ble_eq_true rfl) ⟨Nat.zero_le _, Nat.zero_le _⟩ dX11_leftOver_5 (fun t_5 H locs hS h => ?_)
  refine lv_if_eq (tgt := 22) hx hb dX11_leftOver_8 (by decide) (fun c_8 => ?_) (fun c_8 => ?_)
  · replace h := ez_ifp h c_8
    refine lv_iconst (v := -1) hx hb dX11_leftOver_22 (by decide) ?_
    exact K_23  (-1 : Int32) _ _ _ hS h (lv_sub hl [] rfl)
  · replace h := ez_ifn h c_8
    refine lv_aload_n hx hb dX11_leftOver_11 rfl (lv_at hl 0 rfl) ?_
    refine eg_RX11_86 hC hS h dX11_leftOver_12 (fun t_12 h => ?_)
    refine lv_iload_n hx hb dX11_leftOver_15 rfl (lv_at hl 1 rfl) ?_
    refine ez_cVpi (As := [.int x1]) (rest := []) h (fun _ q => c_X5_stillOpened q) hC k_X5_stillOpened ql_RX11_353 rfl (by decide) hS (fun _ q => ez_rcv q) rfl hl.1 rfl (Nat.le_of_ble_eq_true rfl) ⟨Nat.zero_le _, Nat.zero_le _⟩ dX11_leftOver_16 (fun t_16 H locs hS h => ?_)
    refine lv_goto (tgt := 23) hx hb dX11_leftOver_19 (by decide) ?_
    exact K_23  t_16 _ _ _ hS h (lv_sub hl [] rfl)
set_option maxHeartbeats 4000000 in
set_option maxRecDepth 100000 in
theorem c_X11_legal {l : Launch} {X : ez_X} {B : Nat} {σ : ez_H} {h0 : Nat} {z : Int32 × ez_H} (h : z_X11_legal σ h0 = some z) : ez_M l X B σ yX11_legal cX11_legal 1 (some .int) 3 [.ref (B + h0)] (some (.int z.1)) z.2 := by
  refine ez_starti (z := z) (by decide) (Nat.le_of_ble_eq_true rfl) (fun p e R s m args below meth c Q hC hret hS ls hl => ?_)
  have hC : ez_C p R s m args c X B RX11 cX11_legal 1 3 := hC
  have hx := hC.1.1
  have hb := hC.1.2.1
  have hown := hC.1.2.2.2.1
  have hts := hC.1.2.2.2.2
  have hl : lv_has ls 1 [(0, .ref (B + h0))] := hl
  obtain ⟨σ0, eσ⟩ : ∃ σ0 : ez_H, σ0 = σ := ⟨_, rfl⟩
  rw [← eσ] at hret
  have hS : ez_S X B s.heap σ0.length σ s.heap [] := eσ ▸ hS
  obtain ⟨-, h⟩ := ez_in h
  refine lv_aload_n hx hb dX11_legal_0 rfl (lv_at hl 0 rfl) ?_
  refine eg_RX11_37 hC hS h dX11_legal_1 (fun t_1 h => ?_)
  refine lv_aload_n hx hb dX11_legal_4 rfl (lv_at hl 0 rfl) ?_
  refine eg_RX11_37 hC hS h dX11_legal_5 (fun t_5 h => ?_)
  refine ez_cVpi (As := []) (rest := [.ref (B + t_1)]) h (fun _ q => c_X6_everything q) hC k_X6_everything ql_RX11_301 rfl (by decide) hS (fun _ q => ez_rcv q) rfl hl.1 rfl (Nat.le_of_ble_eq_true rfl) ⟨Nat.zero_le _, Nat.zero_le _⟩ dX11_legal_8 (fun t_8 H locs hS h => ?_)
  refine lv_aload_n hx hb dX11_legal_11 rfl (lv_at hl 0 rfl) ?_
  refine eg_RX11_37 hC hS h dX11_legal_12 (fun t_12 h => ?_)
  refine eg_RX11_304 hC hS h dX11_legal_15 (fun t_15 h => ?_)
  refine ez_cVi (As := [.int t_8, .int t_15]) (rest := []) h (fun _ q => c_X6_howMany q) hC k_X6_howMany ql_RX11_307 rfl (by decide) hS (fun _ q => ez_rcv q) rfl hl.1 rfl (Nat.le_of_ble_eq_true rfl) ⟨Nat.zero_le _, Nat.zero_le _⟩ dX11_legal_18 (fun t_18 σ H locs hS h => ?_)
  exact hret _ _ _ _ _ _ (Option.some.inj h) rfl hS dX11_legal_21
set_option maxHeartbeats 4000000 in
set_option maxRecDepth 100000 in
theorem c_X2_pathDoor {l : Launch} {X : ez_X} {B : Nat} {σ : ez_H} {h0 : Nat} {x1 : Int32} {z : Int32} (h : z_X2_pathDoor σ h0 x1 = some z) : ez_M l X B σ yX2_pathDoor cX2_pathDoor 2 (some .int) 0 [.ref (B + h0), .int x1] (some (.int z)) σ := by
  refine ez_startip (z := z) (by decide) (Nat.le_of_ble_eq_true rfl) (fun p e R s m args below meth c Q hC hret hS ls hl => ?_)
  have hC : ez_C p R s m args c X B RX2 cX2_pathDoor 2 0 := hC
  have hx := hC.1.1
  have hb := hC.1.2.1
  have hown := hC.1.2.2.2.1
  have hts := hC.1.2.2.2.2
  have hl : lv_has ls 2 [(0, .ref (B + h0)), (1, .int x1)] := hl
  obtain ⟨n0, e0⟩ : ∃ n0 : Nat, n0 = σ.length := ⟨_, rfl⟩
  rw [← e0] at hret hS
  obtain ⟨-, h⟩ := ez_in h
  have K_32 : ∀ (y0 : Int32) (H : Heap) (locs : List Loc) (ls : Array Slot), ez_S X B s.heap (n0) σ H locs → z_X2_pathDoor_32 σ y0 = some z → lv_has ls 2 [] → W p l e R s m args below meth c H locs 0 0 Q (F0 m 32 ls [.int y0]) := by
    intro y0 H locs ls hS h hl
    exact hret _ _ _ _ _ (Option.some.inj h) rfl hS dX2_pathDoor_32
  have K_30 : ∀ (H : Heap) (locs : List Loc) (ls : Array Slot), ez_S X B s.heap (n0) σ H locs → z_X2_pathDoor_30 σ = some z → lv_has ls 2 [] → W p l e R s m args below meth c H locs 0 0 Q (F0 m 30 ls []) := by
    intro  H locs ls hS h hl
    refine lv_bipush (v := -2) hx hb dX2_pathDoor_30 (by decide) ?_
    exact K_32  (-2 : Int32) _ _ _ hS h (lv_sub hl [] rfl)
  refine lv_iload_n hx hb dX2_pathDoor_0 rfl (lv_at hl 1 rfl) ?_
  refine lv_if_lt (tgt := 30) hx hb dX2_pathDoor_1 (by decide) (fun c_1 => ?_) (fun c_1 => ?_)
  · replace h := ez_ifp h c_1
    exact K_30   _ _ _ hS h (lv_sub hl [] rfl)
  · replace h := ez_ifn h c_1
    refine lv_iload_n hx hb dX2_pathDoor_4 rfl (lv_at hl 1 rfl) ?_
    refine lv_aload_n hx hb dX2_pathDoor_5 rfl (lv_at hl 0 rfl) ?_
    refine eg_RX2_29 hC hS h dX2_pathDoor_6 (fun t_6 h => ?_)
    refine lv_icmp_ge (tgt := 30) hx hb dX2_pathDoor_9 (by decide) (fun c_9 => ?_) (fun c_9 => ?_)
    · replace h := ez_ifp h c_9
      exact K_30   _ _ _ hS h (lv_sub hl [] rfl)
    · replace h := ez_ifn h c_9
      refine lv_iload_n hx hb dX2_pathDoor_12 rfl (lv_at hl 1 rfl) ?_
      refine lv_aload_n hx hb dX2_pathDoor_13 rfl (lv_at hl 0 rfl) ?_
      refine eg_RX2_26 hC hS h dX2_pathDoor_14 (fun t_14 h => ?_)
      refine ez_lnA hC hS h dX2_pathDoor_17 (fun t_17 h => ?_)
      refine lv_icmp_ge (tgt := 30) hx hb dX2_pathDoor_18 (by decide) (fun c_18 => ?_) (fun c_18 => ?_)
      · replace h := ez_ifp h c_18
        exact K_30   _ _ _ hS h (lv_sub hl [] rfl)
      · replace h := ez_ifn h c_18
        refine lv_aload_n hx hb dX2_pathDoor_21 rfl (lv_at hl 0 rfl) ?_
        refine eg_RX2_26 hC hS h dX2_pathDoor_22 (fun t_22 h => ?_)
        refine lv_iload_n hx hb dX2_pathDoor_25 rfl (lv_at hl 1 rfl) ?_
        refine ez_ial hC hS h dX2_pathDoor_26 (fun t_26 h => ?_)
        refine lv_goto (tgt := 32) hx hb dX2_pathDoor_27 (by decide) ?_
        exact K_32  t_26 _ _ _ hS h (lv_sub hl [] rfl)
set_option maxHeartbeats 4000000 in
set_option maxRecDepth 100000 in
theorem c_X11_lies {l : Launch} {X : ez_X} {B : Nat} {σ : ez_H} {h0 : Nat} {x1 : Int32} {z : Int32} (h : z_X11_lies σ h0 x1 = some z) : ez_M l X B σ yX11_lies cX11_lies 2 (some .int) 1 [.ref (B + h0), .int x1] (some (.int z)) σ := by
  refine ez_startip (z := z) (by decide) (Nat.le_of_ble_eq_true rfl) (fun p e R s m args below meth c Q hC hret hS ls hl => ?_)
  have hC : ez_C p R s m args c X B RX11 cX11_lies 2 1 := hC
  have hx := hC.1.1
  have hb := hC.1.2.1
  have hown := hC.1.2.2.2.1
  have hts := hC.1.2.2.2.2
  have hl : lv_has ls 2 [(0, .ref (B + h0)), (1, .int x1)] := hl
  obtain ⟨n0, e0⟩ : ∃ n0 : Nat, n0 = σ.length := ⟨_, rfl⟩
  rw [← e0] at hret hS
  obtain ⟨-, h⟩ := ez_in h
  refine lv_aload_n hx hb dX11_lies_0 rfl (lv_at hl 0 rfl) ?_
  refine eg_RX11_79 hC hS h dX11_lies_1 (fun t_1 h => ?_)
  refine lv_iload_n hx hb dX11_lies_4 rfl (lv_at hl 1 rfl) ?_
  refine ez_cVpi (As := [.int x1]) (rest := []) h (fun _ q => c_X2_pathDoor q) hC k_X2_pathDoor ql_RX11_401 rfl (by decide) hS (fun _ q => ez_rcv q) rfl hl.1 rfl (Nat.le_of_ble_eq_true rfl) ⟨Nat.zero_le _, Nat.zero_le _⟩ dX11_lies_5 (fun t_5 H locs hS h => ?_)
  exact hret _ _ _ _ _ (Option.some.inj h) rfl hS dX11_lies_8
set_option maxHeartbeats 4000000 in
set_option maxRecDepth 100000 in
theorem c_X2_keysFor {l : Launch} {X : ez_X} {B : Nat} {σ : ez_H} {h0 : Nat} {x1 : Int32} {z : Int32} (h : z_X2_keysFor σ h0 x1 = some z) : ez_M l X B σ yX2_keysFor cX2_keysFor 4 (some .int) 2 [.ref (B + h0), .int x1] (some (.int z)) σ := by
  refine ez_startip (z := z) (by decide) (Nat.le_of_ble_eq_true rfl) (fun p e R s m args below meth c Q hC hret hS ls hl => ?_)
  have hC : ez_C p R s m args c X B RX2 cX2_keysFor 4 2 := hC
  have hx := hC.1.1
  have hb := hC.1.2.1
  have hown := hC.1.2.2.2.1
  have hts := hC.1.2.2.2.2
  have hl : lv_has ls 4 [(0, .ref (B + h0)), (1, .int x1)] := hl
  obtain ⟨n0, e0⟩ : ∃ n0 : Nat, n0 = σ.length := ⟨_, rfl⟩
  rw [← e0] at hret hS
  obtain ⟨-, h⟩ := ez_in h
  have K_43 : ∀ (k_4 : Nat → Int32 → Int32 → Int32 → Option (Int32)) (hk_4 : ∀ (h0 : Nat) (x1 : Int32) (x2 : Int32) (x3 : Int32) (H : Heap) (locs : List Loc) (ls : Array Slot), ez_S X B s.heap (n0) σ H locs → k_4 h0 x1 x2 x3 = some z → lv_has ls 4 [(0, .ref (B + h0)), (1, .int x1), (2, .int x2), (3, .int x3)] → W p l e R s m args below meth c H locs 0 0 Q (F0 m 4 ls [])), ∀ (h0 : Nat) (x1 : Int32) (x2 : Int32) (x3 : Int32) (H : Heap) (locs : List Loc) (ls : Array Slot), ez_S X B s.heap (n0) σ H locs → z_X2_keysFor_43 σ k_4 h0 x1 x2 x3 = some z → lv_has ls 4 [(0, .ref (B + h0)), (1, .int x1), (2, .int x2), (3, .int x3)] → W p l e R s m args below meth c H locs 0 0 Q (F0 m 43 ls []) := by
    intro k_4 hk_4 h0 x1 x2 x3 H locs ls hS h hl
    obtain ⟨t_43, e_43, h⟩ := ez_let_sp h
    refine lv_iinc (v := t_43) (lv' := [(3, .int t_43), (0, .ref (B + h0)), (1, .int x1), (2, .int x2)]) hx hb dX2_keysFor_43 hl (k := 3) rfl (by rw [e_43]; rfl) (by decide) rfl (fun ls hl => ?_)
    refine lv_goto (tgt := 4) hx hb dX2_keysFor_46 (by decide) ?_
    exact hk_4 h0 x1 x2 t_43 _ _ _ hS h (lv_sub hl [1, 2, 3, 0] rfl)
  have K_4 : ∀ (k_4 : Nat → Int32 → Int32 → Int32 → Option (Int32)) (hk_4 : ∀ (h0 : Nat) (x1 : Int32) (x2 : Int32) (x3 : Int32) (H : Heap) (locs : List Loc) (ls : Array Slot), ez_S X B s.heap (n0) σ H locs → k_4 h0 x1 x2 x3 = some z → lv_has ls 4 [(0, .ref (B + h0)), (1, .int x1), (2, .int x2), (3, .int x3)] → W p l e R s m args below meth c H locs 0 0 Q (F0 m 4 ls [])), ∀ (h0 : Nat) (x1 : Int32) (x2 : Int32) (x3 : Int32) (H : Heap) (locs : List Loc) (ls : Array Slot), ez_S X B s.heap (n0) σ H locs → z_X2_keysFor_4 σ k_4 h0 x1 x2 x3 = some z → lv_has ls 4 [(0, .ref (B + h0)), (1, .int x1), (2, .int x2), (3, .int x3)] → W p l e R s m args below meth c H locs 0 0 Q (F0 m 4 ls []) := by
    intro k_4 hk_4 h0 x1 x2 x3 H locs ls hS h hl
    refine lv_iload_n hx hb dX2_keysFor_4 rfl (lv_at hl 3 rfl) ?_
    refine lv_aload_n hx hb dX2_keysFor_5 rfl (lv_at hl 0 rfl) ?_
    refine eg_RX2_9 hC hS h dX2_keysFor_6 (fun t_6 h => ?_)
    refine eg_RX2_33 hC hS h dX2_keysFor_9 (fun t_9 h => ?_)
    refine lv_icmp_ge (tgt := 49) hx hb dX2_keysFor_12 (by decide) (fun c_12 => ?_) (fun c_12 => ?_)
    · replace h := ez_ifp h c_12
      refine lv_iload_n hx hb dX2_keysFor_49 rfl (lv_at hl 2 rfl) ?_
      exact hret _ _ _ _ _ (Option.some.inj h) rfl hS dX2_keysFor_50
    · replace h := ez_ifn h c_12
      refine lv_aload_n hx hb dX2_keysFor_15 rfl (lv_at hl 0 rfl) ?_
      refine eg_RX2_15 hC hS h dX2_keysFor_16 (fun t_16 h => ?_)
      refine lv_iload_n hx hb dX2_keysFor_19 rfl (lv_at hl 3 rfl) ?_
      refine ez_cVpi (As := [.int x3]) (rest := []) h (fun _ q => c_X7_bits q) hC k_X7_bits ql_RX2_41 rfl (by decide) hS (fun _ q => ez_rcv q) rfl hl.1 rfl (Nat.le_of_ble_eq_true rfl) ⟨Nat.zero_le _, Nat.zero_le _⟩ dX2_keysFor_20 (fun t_20 H locs hS h => ?_)
      refine lv_aload_n hx hb dX2_keysFor_23 rfl (lv_at hl 0 rfl) ?_
      refine eg_RX2_15 hC hS h dX2_keysFor_24 (fun t_24 h => ?_)
      refine lv_iload_n hx hb dX2_keysFor_27 rfl (lv_at hl 1 rfl) ?_
      refine ez_cVpi (As := [.int x1]) (rest := [.int t_20]) h (fun _ q => c_X7_pins q) hC k_X7_pins ql_RX2_47 rfl (by decide) hS (fun _ q => ez_rcv q) rfl hl.1 rfl (Nat.le_of_ble_eq_true rfl) ⟨Nat.zero_le _, Nat.zero_le _⟩ dX2_keysFor_28 (fun t_28 H locs hS h => ?_)
      refine ez_cSpi (As := [.int t_20, .int t_28]) (rest := []) h (fun _ q => c_X6_fitsIn q) hC k_X6_fitsIn ql_RX2_50 rfl (by decide) hS hl.1 rfl (Nat.le_of_ble_eq_true rfl) ⟨Nat.zero_le _, Nat.zero_le _⟩ dX2_keysFor_31 (fun t_31 H locs hS h => ?_)
      refine lv_if_eq (tgt := 43) hx hb dX2_keysFor_34 (by decide) (fun c_34 => ?_) (fun c_34 => ?_)
      · replace h := ez_ifp h c_34
        exact K_43 k_4 hk_4 h0 x1 x2 x3 _ _ _ hS h (lv_sub hl [0, 1, 2, 3] rfl)
      · replace h := ez_ifn h c_34
        refine lv_iload_n hx hb dX2_keysFor_37 rfl (lv_at hl 2 rfl) ?_
        refine lv_iconst (v := 1) hx hb dX2_keysFor_38 (by decide) ?_
        refine lv_iload_n hx hb dX2_keysFor_39 rfl (lv_at hl 3 rfl) ?_
        refine lv_ishl hx hb dX2_keysFor_40 ?_
        refine ez_top h (fun t_40 h => ?_)
        refine lv_ior hx hb dX2_keysFor_41 ?_
        refine ez_top h (fun t_41 h => ?_)
        refine lv_istore_n (lv' := [(2, .int t_41), (0, .ref (B + h0)), (1, .int x1), (3, .int x3)]) hx hb dX2_keysFor_42 rfl hl (by decide) rfl (fun ls hl => ?_)
        exact K_43 k_4 hk_4 h0 x1 t_41 x3 _ _ _ hS h (lv_sub hl [1, 2, 0, 3] rfl)
  have E_4 : ∀ (h0 : Nat) (x1 : Int32) (x2 : Int32) (x3 : Int32) (H : Heap) (locs : List Loc) (ls : Array Slot), ez_S X B s.heap (n0) σ H locs → (ez_fix (fun _ _ _ _ => none) (z_X2_keysFor_4 σ) ez_N) h0 x1 x2 x3 = some z → lv_has ls 4 [(0, .ref (B + h0)), (1, .int x1), (2, .int x2), (3, .int x3)] → W p l e R s m args below meth c H locs 0 0 Q (F0 m 4 ls []) := ez_fix_ind (fun k_4 : Nat → Int32 → Int32 → Int32 → Option (Int32) => ∀ (h0 : Nat) (x1 : Int32) (x2 : Int32) (x3 : Int32) (H : Heap) (locs : List Loc) (ls : Array Slot), ez_S X B s.heap (n0) σ H locs → k_4 h0 x1 x2 x3 = some z → lv_has ls 4 [(0, .ref (B + h0)), (1, .int x1), (2, .int x2), (3, .int x3)] → W p l e R s m args below meth c H locs 0 0 Q (F0 m 4 ls [])) (fun _ _ _ _ _ _ _ _ h _ => by cases h) (fun k_4 hk_4 => K_4 k_4 hk_4) ez_N
  refine lv_iconst (v := 0) hx hb dX2_keysFor_0 (by decide) ?_
  refine lv_istore_n (lv' := [(2, .int 0), (0, .ref (B + h0)), (1, .int x1)]) hx hb dX2_keysFor_1 rfl hl (by decide) rfl (fun ls hl => ?_)
  refine lv_iconst (v := 0) hx hb dX2_keysFor_2 (by decide) ?_
  refine lv_istore_n (lv' := [(3, .int 0), (2, .int 0), (0, .ref (B + h0)), (1, .int x1)]) hx hb dX2_keysFor_3 rfl hl (by decide) rfl (fun ls hl => ?_)
  exact E_4  h0 x1 (0 : Int32) (0 : Int32) _ _ _ hS h (lv_sub hl [2, 3, 1, 0] rfl)
