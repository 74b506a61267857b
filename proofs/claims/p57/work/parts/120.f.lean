set_option maxHeartbeats 4000000 in
set_option maxRecDepth 100000 in
theorem c_X12_isRoom {l : Launch} {X : ez_X} {B : Nat} {σ : ez_H} {h0 : Nat} {x1 : Int32} {z : Int32} (h : z_X12_isRoom σ h0 x1 = some z) : ez_M l X B σ yX12_isRoom cX12_isRoom 2 (some .boolean) 1 [.ref (B + h0), .int x1] (some (.int z)) σ := by
  refine ez_startip (z := z) (by decide) (Nat.le_of_ble_eq_true rfl) (fun p e R s m args below meth c Q hC hret hS ls hl => ?_)
  have hC : ez_C p R s m args c X B RX12 cX12_isRoom 2 1 := hC
  have hx := hC.1.1
  have hb := hC.1.2.1
  have hown := hC.1.2.2.2.1
  have hts := hC.1.2.2.2.2
  have hl : lv_has ls 2 [(0, .ref (B + h0)), (1, .int x1)] := hl
  obtain ⟨n0, e0⟩ : ∃ n0 : Nat, n0 = σ.length := ⟨_, rfl⟩
  rw [← e0] at hret hS
  obtain ⟨-, h⟩ := ez_in h
  refine lv_iload_n hx hb dX12_isRoom_0 rfl (lv_at hl 1 rfl) ?_
  refine lv_iconst (v := 0) hx hb dX12_isRoom_1 (by decide) ?_
  refine lv_aload_n hx hb dX12_isRoom_2 rfl (lv_at hl 0 rfl) ?_
  refine eg_RX12_36 hC hS h dX12_isRoom_3 (fun t_3 h => ?_)
  refine lv_aload_n hx hb dX12_isRoom_6 rfl (lv_at hl 0 rfl) ?_
  refine eg_RX12_274 hC hS h dX12_isRoom_7 (fun t_7 h => ?_)
  refine ez_ial hC hS h dX12_isRoom_10 (fun t_10 h => ?_)
  refine lv_iconst (v := 1) hx hb dX12_isRoom_11 (by decide) ?_
  refine lv_isub hx hb dX12_isRoom_12 ?_
  refine ez_top h (fun t_12 h => ?_)
  refine ez_cSpi (As := [.int x1, .int 0, .int t_12]) (rest := []) h (fun _ q => c_X12_isIn q) hC k_X12_isIn ql_RX12_407 rfl (by decide) hS hl.1 rfl (Nat.le_of_ble_eq_true rfl) ⟨Nat.zero_le _, Nat.zero_le _⟩ dX12_isRoom_13 (fun t_13 H locs hS h => ?_)
  obtain ⟨hn, h⟩ := ez_nr_sp rfl h
  exact hret _ _ _ _ _ (Option.some.inj h) hn hS dX12_isRoom_16
set_option maxHeartbeats 4000000 in
set_option maxRecDepth 100000 in
theorem c_X12_bunch {l : Launch} {X : ez_X} {B : Nat} {σ : ez_H} {h0 : Nat} {x1 : Int32} {x2 : Int32} {x3 : Int32} {z : Int32} (h : z_X12_bunch σ h0 x1 x2 x3 = some z) : ez_M l X B σ yX12_bunch cX12_bunch 7 (some .int) 6 [.ref (B + h0), .int x1, .int x2, .int x3] (some (.int z)) σ := by
  refine ez_startip (z := z) (by decide) (Nat.le_of_ble_eq_true rfl) (fun p e R s m args below meth c Q hC hret hS ls hl => ?_)
  have hC : ez_C p R s m args c X B RX12 cX12_bunch 7 6 := hC
  have hx := hC.1.1
  have hb := hC.1.2.1
  have hown := hC.1.2.2.2.1
  have hts := hC.1.2.2.2.2
  have hl : lv_has ls 7 [(0, .ref (B + h0)), (1, .int x1), (2, .int x2), (3, .int x3)] := hl
  obtain ⟨n0, e0⟩ : ∃ n0 : Nat, n0 = σ.length := ⟨_, rfl⟩
  rw [← e0] at hret hS
  obtain ⟨-, h⟩ := ez_in h
  have K_25 : ∀ (H : Heap) (locs : List Loc) (ls : Array Slot), ez_S X B s.heap (n0) σ H locs → z_X12_bunch_25 σ = some z → lv_has ls 7 [] → W p l e R s m args below meth c H locs 0 0 Q (F0 m 25 ls []) := by
    intro  H locs ls hS h hl
    refine lv_iconst (v := -1) hx hb dX12_bunch_25 (by decide) ?_
    exact hret _ _ _ _ _ (Option.some.inj h) rfl hS dX12_bunch_26
  have K_137 : ∀ (y0 : Int32) (H : Heap) (locs : List Loc) (ls : Array Slot), ez_S X B s.heap (n0) σ H locs → z_X12_bunch_137 σ y0 = some z → lv_has ls 7 [] → W p l e R s m args below meth c H locs 0 0 Q (F0 m 137 ls [.int y0]) := by
    intro y0 H locs ls hS h hl
    exact hret _ _ _ _ _ (Option.some.inj h) rfl hS dX12_bunch_137
  have K_108 : ∀ (k_52 : Nat → Int32 → Int32 → Int32 → Int32 → Int32 → Int32 → Option (Int32)) (hk_52 : ∀ (h0 : Nat) (x1 : Int32) (x2 : Int32) (x3 : Int32) (x4 : Int32) (x5 : Int32) (x6 : Int32) (H : Heap) (locs : List Loc) (ls : Array Slot), ez_S X B s.heap (n0) σ H locs → k_52 h0 x1 x2 x3 x4 x5 x6 = some z → lv_has ls 7 [(0, .ref (B + h0)), (1, .int x1), (2, .int x2), (3, .int x3), (4, .int x4), (5, .int x5), (6, .int x6)] → W p l e R s m args below meth c H locs 0 0 Q (F0 m 52 ls [])), ∀ (h0 : Nat) (x1 : Int32) (x2 : Int32) (x3 : Int32) (x4 : Int32) (x5 : Int32) (x6 : Int32) (H : Heap) (locs : List Loc) (ls : Array Slot), ez_S X B s.heap (n0) σ H locs → z_X12_bunch_108 σ k_52 h0 x1 x2 x3 x4 x5 x6 = some z → lv_has ls 7 [(0, .ref (B + h0)), (1, .int x1), (2, .int x2), (3, .int x3), (4, .int x4), (5, .int x5), (6, .int x6)] → W p l e R s m args below meth c H locs 0 0 Q (F0 m 108 ls []) := by
    intro k_52 hk_52 h0 x1 x2 x3 x4 x5 x6 H locs ls hS h hl
    obtain ⟨t_108, e_108, h⟩ := ez_let_sp h
    refine lv_iinc (v := t_108) (lv' := [(6, .int t_108), (0, .ref (B + h0)), (1, .int x1), (2, .int x2), (3, .int x3), (4, .int x4), (5, .int x5)]) hx hb dX12_bunch_108 hl (k := 6) rfl (by rw [e_108]; rfl) (by decide) rfl (fun ls hl => ?_)
    refine lv_goto (tgt := 52) hx hb dX12_bunch_111 (by decide) ?_
    exact hk_52 h0 x1 x2 x3 x4 x5 t_108 _ _ _ hS h (lv_sub hl [1, 2, 3, 4, 5, 6, 0] rfl)
  have K_90 : ∀ (k_52 : Nat → Int32 → Int32 → Int32 → Int32 → Int32 → Int32 → Option (Int32)) (hk_52 : ∀ (h0 : Nat) (x1 : Int32) (x2 : Int32) (x3 : Int32) (x4 : Int32) (x5 : Int32) (x6 : Int32) (H : Heap) (locs : List Loc) (ls : Array Slot), ez_S X B s.heap (n0) σ H locs → k_52 h0 x1 x2 x3 x4 x5 x6 = some z → lv_has ls 7 [(0, .ref (B + h0)), (1, .int x1), (2, .int x2), (3, .int x3), (4, .int x4), (5, .int x5), (6, .int x6)] → W p l e R s m args below meth c H locs 0 0 Q (F0 m 52 ls [])), ∀ (h0 : Nat) (x1 : Int32) (x2 : Int32) (x3 : Int32) (x4 : Int32) (x5 : Int32) (x6 : Int32) (H : Heap) (locs : List Loc) (ls : Array Slot), ez_S X B s.heap (n0) σ H locs → z_X12_bunch_90 σ k_52 h0 x1 x2 x3 x4 x5 x6 = some z → lv_has ls 7 [(0, .ref (B + h0)), (1, .int x1), (2, .int x2), (3, .int x3), (4, .int x4), (5, .int x5), (6, .int x6)] → W p l e R s m args below meth c H locs 0 0 Q (F0 m 90 ls []) := by
    intro k_52 hk_52 h0 x1 x2 x3 x4 x5 x6 H locs ls hS h hl
    refine lv_aload_n hx hb dX12_bunch_90 rfl (lv_at hl 0 rfl) ?_
    refine lv_iload_n hx hb dX12_bunch_91 rfl (lv_at hl 1 rfl) ?_
    refine lv_iload hx hb dX12_bunch_92 (lv_at hl 6 rfl) ?_
    refine ez_cVpi (As := [.int x1, .int x6]) (rest := []) h (fun _ q => c_X12_reachBy q) hC k_X12_reachBy ql_RX12_574 rfl (by decide) hS (fun _ q => ez_rcv q) rfl hl.1 rfl (Nat.le_of_ble_eq_true rfl) ⟨Nat.zero_le _, Nat.zero_le _⟩ dX12_bunch_94 (fun t_94 H locs hS h => ?_)
    refine lv_iload_n hx hb dX12_bunch_97 rfl (lv_at hl 2 rfl) ?_
    refine ez_cSpi (As := [.int t_94, .int x2]) (rest := []) h (fun _ q => c_X12_bit q) hC k_X12_bit ql_RX12_261 rfl (by decide) hS hl.1 rfl (Nat.le_of_ble_eq_true rfl) ⟨Nat.zero_le _, Nat.zero_le _⟩ dX12_bunch_98 (fun t_98 H locs hS h => ?_)
    refine lv_if_eq (tgt := 108) hx hb dX12_bunch_101 (by decide) (fun c_101 => ?_) (fun c_101 => ?_)
    · replace h := ez_ifp h c_101
      exact K_108 k_52 hk_52 h0 x1 x2 x3 x4 x5 x6 _ _ _ hS h (lv_sub hl [0, 1, 2, 3, 4, 5, 6] rfl)
    · replace h := ez_ifn h c_101
      refine lv_iload hx hb dX12_bunch_104 (lv_at hl 6 rfl) ?_
      refine lv_istore (lv' := [(4, .int x6), (0, .ref (B + h0)), (1, .int x1), (2, .int x2), (3, .int x3), (5, .int x5), (6, .int x6)]) hx hb dX12_bunch_106 hl (by decide) rfl (fun ls hl => ?_)
      exact K_108 k_52 hk_52 h0 x1 x2 x3 x6 x5 x6 _ _ _ hS h (lv_sub hl [1, 2, 3, 4, 0, 5, 6] rfl)
  have K_52 : ∀ (k_52 : Nat → Int32 → Int32 → Int32 → Int32 → Int32 → Int32 → Option (Int32)) (hk_52 : ∀ (h0 : Nat) (x1 : Int32) (x2 : Int32) (x3 : Int32) (x4 : Int32) (x5 : Int32) (x6 : Int32) (H : Heap) (locs : List Loc) (ls : Array Slot), ez_S X B s.heap (n0) σ H locs → k_52 h0 x1 x2 x3 x4 x5 x6 = some z → lv_has ls 7 [(0, .ref (B + h0)), (1, .int x1), (2, .int x2), (3, .int x3), (4, .int x4), (5, .int x5), (6, .int x6)] → W p l e R s m args below meth c H locs 0 0 Q (F0 m 52 ls [])), ∀ (h0 : Nat) (x1 : Int32) (x2 : Int32) (x3 : Int32) (x4 : Int32) (x5 : Int32) (x6 : Int32) (H : Heap) (locs : List Loc) (ls : Array Slot), ez_S X B s.heap (n0) σ H locs → z_X12_bunch_52 σ k_52 h0 x1 x2 x3 x4 x5 x6 = some z → lv_has ls 7 [(0, .ref (B + h0)), (1, .int x1), (2, .int x2), (3, .int x3), (4, .int x4), (5, .int x5), (6, .int x6)] → W p l e R s m args below meth c H locs 0 0 Q (F0 m 52 ls []) := by
    intro k_52 hk_52 h0 x1 x2 x3 x4 x5 x6 H locs ls hS h hl
    refine lv_iload hx hb dX12_bunch_52 (lv_at hl 6 rfl) ?_
    refine lv_iload hx hb dX12_bunch_54 (lv_at hl 5 rfl) ?_
    refine lv_icmp_gt (tgt := 114) hx hb dX12_bunch_56 (by decide) (fun c_56 => ?_) (fun c_56 => ?_)
    · replace h := ez_ifp h c_56
      refine lv_iload hx hb dX12_bunch_114 (lv_at hl 4 rfl) ?_
      refine lv_if_ge (tgt := 123) hx hb dX12_bunch_116 (by decide) (fun c_116 => ?_) (fun c_116 => ?_)
      · replace h := ez_ifp h c_116
        refine lv_iload_n hx hb dX12_bunch_123 rfl (lv_at hl 3 rfl) ?_
        refine lv_if_ne (tgt := 135) hx hb dX12_bunch_124 (by decide) (fun c_124 => ?_) (fun c_124 => ?_)
        · replace h := ez_ifn h c_124
          refine lv_iload hx hb dX12_bunch_135 (lv_at hl 4 rfl) ?_
          exact K_137  x4 _ _ _ hS h (lv_sub hl [] rfl)
        · replace h := ez_ifp h c_124
          refine lv_iload hx hb dX12_bunch_127 (lv_at hl 4 rfl) ?_
          refine ez_cSpi (As := [.int x4]) (rest := []) h (fun _ q => c_X12_bitsOf q) hC k_X12_bitsOf ql_RX12_471 rfl (by decide) hS hl.1 rfl (Nat.le_of_ble_eq_true rfl) ⟨Nat.zero_le _, Nat.zero_le _⟩ dX12_bunch_129 (fun t_129 H locs hS h => ?_)
          refine lv_goto (tgt := 137) hx hb dX12_bunch_132 (by decide) ?_
          exact K_137  t_129 _ _ _ hS h (lv_sub hl [] rfl)
      · replace h := ez_ifn h c_116
        refine lv_iconst (v := -1) hx hb dX12_bunch_119 (by decide) ?_
        refine lv_goto (tgt := 137) hx hb dX12_bunch_120 (by decide) ?_
        exact K_137  (-1 : Int32) _ _ _ hS h (lv_sub hl [] rfl)
    · replace h := ez_ifn h c_56
      refine lv_iload hx hb dX12_bunch_59 (lv_at hl 6 rfl) ?_
      refine lv_iload hx hb dX12_bunch_61 (lv_at hl 5 rfl) ?_
      refine lv_iconst (v := -1) hx hb dX12_bunch_63 (by decide) ?_
      refine lv_ixor hx hb dX12_bunch_64 ?_
      refine ez_top h (fun t_64 h => ?_)
      refine lv_iand hx hb dX12_bunch_65 ?_
      refine ez_top h (fun t_65 h => ?_)
      refine lv_if_ne (tgt := 108) hx hb dX12_bunch_66 (by decide) (fun c_66 => ?_) (fun c_66 => ?_)
      · replace h := ez_ifn h c_66
        exact K_108 k_52 hk_52 h0 x1 x2 x3 x4 x5 x6 _ _ _ hS h (lv_sub hl [0, 1, 2, 3, 4, 5, 6] rfl)
      · replace h := ez_ifp h c_66
        refine lv_iload hx hb dX12_bunch_69 (lv_at hl 4 rfl) ?_
        refine lv_if_lt (tgt := 90) hx hb dX12_bunch_71 (by decide) (fun c_71 => ?_) (fun c_71 => ?_)
        · replace h := ez_ifp h c_71
          exact K_90 k_52 hk_52 h0 x1 x2 x3 x4 x5 x6 _ _ _ hS h (lv_sub hl [0, 1, 2, 3, 4, 5, 6] rfl)
        · replace h := ez_ifn h c_71
          refine lv_iload hx hb dX12_bunch_74 (lv_at hl 6 rfl) ?_
          refine ez_cSpi (As := [.int x6]) (rest := []) h (fun _ q => c_X12_bitsOf q) hC k_X12_bitsOf ql_RX12_471 rfl (by decide) hS hl.1 rfl (Nat.le_of_ble_eq_true rfl) ⟨Nat.zero_le _, Nat.zero_le _⟩ dX12_bunch_76 (fun t_76 H locs hS h => ?_)
          refine lv_iload hx hb dX12_bunch_79 (lv_at hl 4 rfl) ?_
          refine ez_cSpi (As := [.int x4]) (rest := [.int t_76]) h (fun _ q => c_X12_bitsOf q) hC k_X12_bitsOf ql_RX12_471 rfl (by decide) hS hl.1 rfl (Nat.le_of_ble_eq_true rfl) ⟨Nat.zero_le _, Nat.zero_le _⟩ dX12_bunch_81 (fun t_81 H locs hS h => ?_)
          refine lv_icmp_lt (tgt := 90) hx hb dX12_bunch_84 (by decide) (fun c_84 => ?_) (fun c_84 => ?_)
          · replace h := ez_ifp h c_84
            exact K_90 k_52 hk_52 h0 x1 x2 x3 x4 x5 x6 _ _ _ hS h (lv_sub hl [0, 1, 2, 3, 4, 5, 6] rfl)
          · replace h := ez_ifn h c_84
            refine lv_goto (tgt := 108) hx hb dX12_bunch_87 (by decide) ?_
            exact K_108 k_52 hk_52 h0 x1 x2 x3 x4 x5 x6 _ _ _ hS h (lv_sub hl [0, 1, 2, 3, 4, 5, 6] rfl)
  have E_52 : ∀ (h0 : Nat) (x1 : Int32) (x2 : Int32) (x3 : Int32) (x4 : Int32) (x5 : Int32) (x6 : Int32) (H : Heap) (locs : List Loc) (ls : Array Slot), ez_S X B s.heap (n0) σ H locs → (ez_fix (fun _ _ _ _ _ _ _ => none) (z_X12_bunch_52 σ) ez_N) h0 x1 x2 x3 x4 x5 x6 = some z → lv_has ls 7 [(0, .ref (B + h0)), (1, .int x1), (2, .int x2), (3, .int x3), (4, .int x4), (5, .int x5), (6, .int x6)] → W p l e R s m args below meth c H locs 0 0 Q (F0 m 52 ls []) := ez_fix_ind (fun k_52 : Nat → Int32 → Int32 → Int32 → Int32 → Int32 → Int32 → Option (Int32) => ∀ (h0 : Nat) (x1 : Int32) (x2 : Int32) (x3 : Int32) (x4 : Int32) (x5 : Int32) (x6 : Int32) (H : Heap) (locs : List Loc) (ls : Array Slot), ez_S X B s.heap (n0) σ H locs → k_52 h0 x1 x2 x3 x4 x5 x6 = some z → lv_has ls 7 [(0, .ref (B + h0)), (1, .int x1), (2, .int x2), (3, .int x3), (4, .int x4), (5, .int x5), (6, .int x6)] → W p l e R s m args below meth c H locs 0 0 Q (F0 m 52 ls [])) (fun _ _ _ _ _ _ _ _ _ _ _ h _ => by cases h) (fun k_52 hk_52 => K_52 k_52 hk_52) ez_N
  refine lv_aload_n hx hb dX12_bunch_0 rfl (lv_at hl 0 rfl) ?_
  refine lv_iload_n hx hb dX12_bunch_1 rfl (lv_at hl 1 rfl) ?_
  refine ez_cVpi (As := [.int x1]) (rest := []) h (fun _ q => c_X12_isRoom q) hC k_X12_isRoom ql_RX12_577 rfl (by decide) hS (fun _ q => ez_rcv q) rfl hl.1 rfl (Nat.le_of_ble_eq_true rfl) ⟨Nat.zero_le _, Nat.zero_le _⟩ dX12_bunch_2 (fun t_2 H locs hS h => ?_)
  refine lv_if_eq (tgt := 25) hx hb dX12_bunch_5 (by decide) (fun c_5 => ?_) (fun c_5 => ?_)
  · replace h := ez_ifp h c_5
    exact K_25   _ _ _ hS h (lv_sub hl [] rfl)
  · replace h := ez_ifn h c_5
    refine lv_aload_n hx hb dX12_bunch_8 rfl (lv_at hl 0 rfl) ?_
    refine lv_iload_n hx hb dX12_bunch_9 rfl (lv_at hl 2 rfl) ?_
    refine ez_cVpi (As := [.int x2]) (rest := []) h (fun _ q => c_X12_isRoom q) hC k_X12_isRoom ql_RX12_577 rfl (by decide) hS (fun _ q => ez_rcv q) rfl hl.1 rfl (Nat.le_of_ble_eq_true rfl) ⟨Nat.zero_le _, Nat.zero_le _⟩ dX12_bunch_10 (fun t_10 H locs hS h => ?_)
    refine lv_if_eq (tgt := 25) hx hb dX12_bunch_13 (by decide) (fun c_13 => ?_) (fun c_13 => ?_)
    · replace h := ez_ifp h c_13
      exact K_25   _ _ _ hS h (lv_sub hl [] rfl)
    · replace h := ez_ifn h c_13
      refine lv_iload_n hx hb dX12_bunch_16 rfl (lv_at hl 3 rfl) ?_
      refine lv_iconst (v := 0) hx hb dX12_bunch_17 (by decide) ?_
      refine lv_iconst (v := 1) hx hb dX12_bunch_18 (by decide) ?_
      refine ez_cSpi (As := [.int x3, .int 0, .int 1]) (rest := []) h (fun _ q => c_X12_isIn q) hC k_X12_isIn ql_RX12_407 rfl (by decide) hS hl.1 rfl (Nat.le_of_ble_eq_true rfl) ⟨Nat.zero_le _, Nat.zero_le _⟩ dX12_bunch_19 (fun t_19 H locs hS h => ?_)
      refine lv_if_ne (tgt := 27) hx hb dX12_bunch_22 (by decide) (fun c_22 => ?_) (fun c_22 => ?_)
      · replace h := ez_ifn h c_22
        refine lv_iconst (v := -1) hx hb dX12_bunch_27 (by decide) ?_
        refine lv_istore (lv' := [(4, .int (-1)), (0, .ref (B + h0)), (1, .int x1), (2, .int x2), (3, .int x3)]) hx hb dX12_bunch_28 hl (by decide) rfl (fun ls hl => ?_)
        refine lv_iconst (v := 1) hx hb dX12_bunch_30 (by decide) ?_
        refine lv_aload_n hx hb dX12_bunch_31 rfl (lv_at hl 1 rfl) ?_
        refine ez_cVpi (As := []) (rest := [.int 1]) h (fun _ q => c_X12_many q) hC k_X12_many ql_RX12_404 rfl (by decide) hS (fun _ q => ez_rcv q) rfl hl.1 rfl (Nat.le_of_ble_eq_true rfl) ⟨Nat.zero_le _, Nat.zero_le _⟩ dX12_bunch_32 (fun t_32 H locs hS h => ?_)
        refine lv_ishl hx hb dX12_bunch_35 ?_
        refine ez_top h (fun t_35 h => ?_)
        refine lv_iconst (v := 1) hx hb dX12_bunch_36 (by decide) ?_
        refine lv_isub hx hb dX12_bunch_37 ?_
        refine ez_top h (fun t_37 h => ?_)
        refine lv_aload_n hx hb dX12_bunch_38 rfl (lv_at hl 1 rfl) ?_
        refine lv_bipush (v := -2) hx hb dX12_bunch_39 (by decide) ?_
        refine ez_cVpi (As := [.int (-2)]) (rest := [.int t_37]) h (fun _ q => c_X12_keysBy q) hC k_X12_keysBy ql_RX12_538 rfl (by decide) hS (fun _ q => ez_rcv q) rfl hl.1 rfl (Nat.le_of_ble_eq_true rfl) ⟨Nat.zero_le _, Nat.zero_le _⟩ dX12_bunch_41 (fun t_41 H locs hS h => ?_)
        refine lv_iconst (v := -1) hx hb dX12_bunch_44 (by decide) ?_
        refine lv_ixor hx hb dX12_bunch_45 ?_
        refine ez_top h (fun t_45 h => ?_)
        refine lv_iand hx hb dX12_bunch_46 ?_
        refine ez_top h (fun t_46 h => ?_)
        refine lv_istore (lv' := [(5, .int t_46), (4, .int (-1)), (0, .ref (B + h0)), (1, .int x1), (2, .int x2), (3, .int x3)]) hx hb dX12_bunch_47 hl (by decide) rfl (fun ls hl => ?_)
        refine lv_iconst (v := 0) hx hb dX12_bunch_49 (by decide) ?_
        refine lv_istore (lv' := [(6, .int 0), (5, .int t_46), (4, .int (-1)), (0, .ref (B + h0)), (1, .int x1), (2, .int x2), (3, .int x3)]) hx hb dX12_bunch_50 hl (by decide) rfl (fun ls hl => ?_)
        exact E_52  h0 x1 x2 x3 (-1 : Int32) t_46 (0 : Int32) _ _ _ hS h (lv_sub hl [3, 4, 5, 6, 2, 1, 0] rfl)
      · replace h := ez_ifp h c_22
        exact K_25   _ _ _ hS h (lv_sub hl [] rfl)
set_option maxHeartbeats 4000000 in
set_option maxRecDepth 100000 in
theorem c_X12_comers {l : Launch} {X : ez_X} {B : Nat} {σ : ez_H} {h0 : Nat} {x1 : Int32} {z : Int32} (h : z_X12_comers σ h0 x1 = some z) : ez_M l X B σ yX12_comers cX12_comers 4 (some .int) 7 [.ref (B + h0), .int x1] (some (.int z)) σ := by
  refine ez_startip (z := z) (by decide) (Nat.le_of_ble_eq_true rfl) (fun p e R s m args below meth c Q hC hret hS ls hl => ?_)
  have hC : ez_C p R s m args c X B RX12 cX12_comers 4 7 := hC
  have hx := hC.1.1
  have hb := hC.1.2.1
  have hown := hC.1.2.2.2.1
  have hts := hC.1.2.2.2.2
  have hl : lv_has ls 4 [(0, .ref (B + h0)), (1, .int x1)] := hl
  obtain ⟨n0, e0⟩ : ∃ n0 : Nat, n0 = σ.length := ⟨_, rfl⟩
  rw [← e0] at hret hS
  obtain ⟨-, h⟩ := ez_in h
  have K_45 : ∀ (k_14 : Nat → Int32 → Int32 → Int32 → Option (Int32)) (hk_14 : ∀ (h0 : Nat) (x1 : Int32) (x2 : Int32) (x3 : Int32) (H : Heap) (locs : List Loc) (ls : Array Slot), ez_S X B s.heap (n0) σ H locs → k_14 h0 x1 x2 x3 = some z → lv_has ls 4 [(0, .ref (B + h0)), (1, .int x1), (2, .int x2), (3, .int x3)] → W p l e R s m args below meth c H locs 0 0 Q (F0 m 14 ls [])), ∀ (h0 : Nat) (x1 : Int32) (x2 : Int32) (x3 : Int32) (H : Heap) (locs : List Loc) (ls : Array Slot), ez_S X B s.heap (n0) σ H locs → z_X12_comers_45 σ k_14 h0 x1 x2 x3 = some z → lv_has ls 4 [(0, .ref (B + h0)), (1, .int x1), (2, .int x2), (3, .int x3)] → W p l e R s m args below meth c H locs 0 0 Q (F0 m 45 ls []) := by
    intro k_14 hk_14 h0 x1 x2 x3 H locs ls hS h hl
    obtain ⟨t_45, e_45, h⟩ := ez_let_sp h
    refine lv_iinc (v := t_45) (lv' := [(3, .int t_45), (0, .ref (B + h0)), (1, .int x1), (2, .int x2)]) hx hb dX12_comers_45 hl (k := 3) rfl (by rw [e_45]; rfl) (by decide) rfl (fun ls hl => ?_)
    refine lv_goto (tgt := 14) hx hb dX12_comers_48 (by decide) ?_
    exact hk_14 h0 x1 x2 t_45 _ _ _ hS h (lv_sub hl [1, 2, 3, 0] rfl)
  have K_14 : ∀ (k_14 : Nat → Int32 → Int32 → Int32 → Option (Int32)) (hk_14 : ∀ (h0 : Nat) (x1 : Int32) (x2 : Int32) (x3 : Int32) (H : Heap) (locs : List Loc) (ls : Array Slot), ez_S X B s.heap (n0) σ H locs → k_14 h0 x1 x2 x3 = some z → lv_has ls 4 [(0, .ref (B + h0)), (1, .int x1), (2, .int x2), (3, .int x3)] → W p l e R s m args below meth c H locs 0 0 Q (F0 m 14 ls [])), ∀ (h0 : Nat) (x1 : Int32) (x2 : Int32) (x3 : Int32) (H : Heap) (locs : List Loc) (ls : Array Slot), ez_S X B s.heap (n0) σ H locs → z_X12_comers_14 σ k_14 h0 x1 x2 x3 = some z → lv_has ls 4 [(0, .ref (B + h0)), (1, .int x1), (2, .int x2), (3, .int x3)] → W p l e R s m args below meth c H locs 0 0 Q (F0 m 14 ls []) := by
    intro k_14 hk_14 h0 x1 x2 x3 H locs ls hS h hl
    refine lv_iload_n hx hb dX12_comers_14 rfl (lv_at hl 3 rfl) ?_
    refine lv_aload_n hx hb dX12_comers_15 rfl (lv_at hl 0 rfl) ?_
    refine eg_RX12_42 hC hS h dX12_comers_16 (fun t_16 h => ?_)
    refine lv_aload_n hx hb dX12_comers_19 rfl (lv_at hl 0 rfl) ?_
    refine eg_RX12_274 hC hS h dX12_comers_20 (fun t_20 h => ?_)
    refine ez_ial hC hS h dX12_comers_23 (fun t_23 h => ?_)
    refine lv_icmp_ge (tgt := 51) hx hb dX12_comers_24 (by decide) (fun c_24 => ?_) (fun c_24 => ?_)
    · replace h := ez_ifp h c_24
      refine lv_iload_n hx hb dX12_comers_51 rfl (lv_at hl 2 rfl) ?_
      exact hret _ _ _ _ _ (Option.some.inj h) rfl hS dX12_comers_52
    · replace h := ez_ifn h c_24
      refine lv_aload_n hx hb dX12_comers_27 rfl (lv_at hl 0 rfl) ?_
      refine lv_iload_n hx hb dX12_comers_28 rfl (lv_at hl 3 rfl) ?_
      refine ez_cVpi (As := [.int x3]) (rest := []) h (fun _ q => c_X12_reachOf q) hC k_X12_reachOf ql_RX12_501 rfl (by decide) hS (fun _ q => ez_rcv q) rfl hl.1 rfl (Nat.le_of_ble_eq_true rfl) ⟨Nat.zero_le _, Nat.zero_le _⟩ dX12_comers_29 (fun t_29 H locs hS h => ?_)
      refine lv_iload_n hx hb dX12_comers_32 rfl (lv_at hl 1 rfl) ?_
      refine ez_cSpi (As := [.int t_29, .int x1]) (rest := []) h (fun _ q => c_X12_bit q) hC k_X12_bit ql_RX12_261 rfl (by decide) hS hl.1 rfl (Nat.le_of_ble_eq_true rfl) ⟨Nat.zero_le _, Nat.zero_le _⟩ dX12_comers_33 (fun t_33 H locs hS h => ?_)
      refine lv_if_eq (tgt := 45) hx hb dX12_comers_36 (by decide) (fun c_36 => ?_) (fun c_36 => ?_)
      · replace h := ez_ifp h c_36
        exact K_45 k_14 hk_14 h0 x1 x2 x3 _ _ _ hS h (lv_sub hl [0, 1, 2, 3] rfl)
      · replace h := ez_ifn h c_36
        refine lv_iload_n hx hb dX12_comers_39 rfl (lv_at hl 2 rfl) ?_
        refine lv_iconst (v := 1) hx hb dX12_comers_40 (by decide) ?_
        refine lv_iload_n hx hb dX12_comers_41 rfl (lv_at hl 3 rfl) ?_
        refine lv_ishl hx hb dX12_comers_42 ?_
        refine ez_top h (fun t_42 h => ?_)
        refine lv_ior hx hb dX12_comers_43 ?_
        refine ez_top h (fun t_43 h => ?_)
        refine lv_istore_n (lv' := [(2, .int t_43), (0, .ref (B + h0)), (1, .int x1), (3, .int x3)]) hx hb dX12_comers_44 rfl hl (by decide) rfl (fun ls hl => ?_)
        exact K_45 k_14 hk_14 h0 x1 t_43 x3 _ _ _ hS h (lv_sub hl [1, 2, 0, 3] rfl)
  have E_14 : ∀ (h0 : Nat) (x1 : Int32) (x2 : Int32) (x3 : Int32) (H : Heap) (locs : List Loc) (ls : Array Slot), ez_S X B s.heap (n0) σ H locs → (ez_fix (fun _ _ _ _ => none) (z_X12_comers_14 σ) ez_N) h0 x1 x2 x3 = some z → lv_has ls 4 [(0, .ref (B + h0)), (1, .int x1), (2, .int x2), (3, .int x3)] → W p l e R s m args below meth c H locs 0 0 Q (F0 m 14 ls []) := ez_fix_ind (fun k_14 : Nat → Int32 → Int32 → Int32 → Option (Int32) => ∀ (h0 : Nat) (x1 : Int32) (x2 : Int32) (x3 : Int32) (H : Heap) (locs : List Loc) (ls : Array Slot), ez_S X B s.heap (n0) σ H locs → k_14 h0 x1 x2 x3 = some z → lv_has ls 4 [(0, .ref (B + h0)), (1, .int x1), (2, .int x2), (3, .int x3)] → W p l e R s m args below meth c H locs 0 0 Q (F0 m 14 ls [])) (fun _ _ _ _ _ _ _ _ h _ => by cases h) (fun k_14 hk_14 => K_14 k_14 hk_14) ez_N
  refine lv_aload_n hx hb dX12_comers_0 rfl (lv_at hl 0 rfl) ?_
  refine lv_iload_n hx hb dX12_comers_1 rfl (lv_at hl 1 rfl) ?_
  refine ez_cVpi (As := [.int x1]) (rest := []) h (fun _ q => c_X12_isRoom q) hC k_X12_isRoom ql_RX12_577 rfl (by decide) hS (fun _ q => ez_rcv q) rfl hl.1 rfl (Nat.le_of_ble_eq_true rfl) ⟨Nat.zero_le _, Nat.zero_le _⟩ dX12_comers_2 (fun t_2 H locs hS h => ?_)
  refine lv_if_ne (tgt := 10) hx hb dX12_comers_5 (by decide) (fun c_5 => ?_) (fun c_5 => ?_)
  · replace h := ez_ifn h c_5
    refine lv_iconst (v := 0) hx hb dX12_comers_10 (by decide) ?_
    refine lv_istore_n (lv' := [(2, .int 0), (0, .ref (B + h0)), (1, .int x1)]) hx hb dX12_comers_11 rfl hl (by decide) rfl (fun ls hl => ?_)
    refine lv_iconst (v := 0) hx hb dX12_comers_12 (by decide) ?_
    refine lv_istore_n (lv' := [(3, .int 0), (2, .int 0), (0, .ref (B + h0)), (1, .int x1)]) hx hb dX12_comers_13 rfl hl (by decide) rfl (fun ls hl => ?_)
    exact E_14  h0 x1 (0 : Int32) (0 : Int32) _ _ _ hS h (lv_sub hl [2, 3, 1, 0] rfl)
  · replace h := ez_ifp h c_5
    refine lv_iconst (v := -1) hx hb dX12_comers_8 (by decide) ?_
    exact hret _ _ _ _ _ (Option.some.inj h) rfl hS dX12_comers_9
set_option maxHeartbeats 4000000 in
set_option maxRecDepth 100000 in
theorem c_X12_areLocks {l : Launch} {X : ez_X} {B : Nat} {σ : ez_H} {h0 : Nat} {x1 : Int32} {z : Int32} (h : z_X12_areLocks σ h0 x1 = some z) : ez_M l X B σ yX12_areLocks cX12_areLocks 2 (some .boolean) 1 [.ref (B + h0), .int x1] (some (.int z)) σ := by
  refine ez_startip (z := z) (by decide) (Nat.le_of_ble_eq_true rfl) (fun p e R s m args below meth c Q hC hret hS ls hl => ?_)
  have hC : ez_C p R s m args c X B RX12 cX12_areLocks 2 1 := hC
  have hx := hC.1.1
  have hb := hC.1.2.1
  have hown := hC.1.2.2.2.1
  have hts := hC.1.2.2.2.2
  have hl : lv_has ls 2 [(0, .ref (B + h0)), (1, .int x1)] := hl
  obtain ⟨n0, e0⟩ : ∃ n0 : Nat, n0 = σ.length := ⟨_, rfl⟩
  rw [← e0] at hret hS
  obtain ⟨-, h⟩ := ez_in h
  have K_20 : ∀ (y0 : Int32) (H : Heap) (locs : List Loc) (ls : Array Slot), ez_S X B s.heap (n0) σ H locs → z_X12_areLocks_20 σ y0 = some z → lv_has ls 2 [] → W p l e R s m args below meth c H locs 0 0 Q (F0 m 20 ls [.int y0]) := by
    intro y0 H locs ls hS h hl
    obtain ⟨hn, h⟩ := ez_nr_sp rfl h
    exact hret _ _ _ _ _ (Option.some.inj h) hn hS dX12_areLocks_20
  refine lv_iload_n hx hb dX12_areLocks_0 rfl (lv_at hl 1 rfl) ?_
  refine lv_iconst (v := 1) hx hb dX12_areLocks_1 (by decide) ?_
  refine lv_aload_n hx hb dX12_areLocks_2 rfl (lv_at hl 0 rfl) ?_
  refine ez_cVpi (As := []) (rest := [.int 1, .int x1]) h (fun _ q => c_X12_bolts q) hC k_X12_bolts ql_RX12_411 rfl (by decide) hS (fun _ q => ez_rcv q) rfl hl.1 rfl (Nat.le_of_ble_eq_true rfl) ⟨Nat.zero_le _, Nat.zero_le _⟩ dX12_areLocks_3 (fun t_3 H locs hS h => ?_)
  refine lv_ishl hx hb dX12_areLocks_6 ?_
  refine ez_top h (fun t_6 h => ?_)
  refine lv_iconst (v := 1) hx hb dX12_areLocks_7 (by decide) ?_
  refine lv_isub hx hb dX12_areLocks_8 ?_
  refine ez_top h (fun t_8 h => ?_)
  refine lv_iconst (v := -1) hx hb dX12_areLocks_9 (by decide) ?_
  refine lv_ixor hx hb dX12_areLocks_10 ?_
  refine ez_top h (fun t_10 h => ?_)
  refine lv_iand hx hb dX12_areLocks_11 ?_
  refine ez_top h (fun t_11 h => ?_)
  refine lv_if_ne (tgt := 19) hx hb dX12_areLocks_12 (by decide) (fun c_12 => ?_) (fun c_12 => ?_)
  · replace h := ez_ifn h c_12
    refine lv_iconst (v := 0) hx hb dX12_areLocks_19 (by decide) ?_
    exact K_20  (0 : Int32) _ _ _ hS h (lv_sub hl [] rfl)
  · replace h := ez_ifp h c_12
    refine lv_iconst (v := 1) hx hb dX12_areLocks_15 (by decide) ?_
    refine lv_goto (tgt := 20) hx hb dX12_areLocks_16 (by decide) ?_
    exact K_20  (1 : Int32) _ _ _ hS h (lv_sub hl [] rfl)
set_option maxHeartbeats 4000000 in
set_option maxRecDepth 100000 in
theorem c_X12_openers {l : Launch} {X : ez_X} {B : Nat} {σ : ez_H} {h0 : Nat} {x1 : Int32} {z : Int32} (h : z_X12_openers σ h0 x1 = some z) : ez_M l X B σ yX12_openers cX12_openers 4 (some .int) 3 [.ref (B + h0), .int x1] (some (.int z)) σ := by
  refine ez_startip (z := z) (by decide) (Nat.le_of_ble_eq_true rfl) (fun p e R s m args below meth c Q hC hret hS ls hl => ?_)
  have hC : ez_C p R s m args c X B RX12 cX12_openers 4 3 := hC
  have hx := hC.1.1
  have hb := hC.1.2.1
  have hown := hC.1.2.2.2.1
  have hts := hC.1.2.2.2.2
  have hl : lv_has ls 4 [(0, .ref (B + h0)), (1, .int x1)] := hl
  obtain ⟨n0, e0⟩ : ∃ n0 : Nat, n0 = σ.length := ⟨_, rfl⟩
  rw [← e0] at hret hS
  obtain ⟨-, h⟩ := ez_in h
  have K_34 : ∀ (k_4 : Nat → Int32 → Int32 → Int32 → Option (Int32)) (hk_4 : ∀ (h0 : Nat) (x1 : Int32) (x2 : Int32) (x3 : Int32) (H : Heap) (locs : List Loc) (ls : Array Slot), ez_S X B s.heap (n0) σ H locs → k_4 h0 x1 x2 x3 = some z → lv_has ls 4 [(0, .ref (B + h0)), (1, .int x1), (2, .int x2), (3, .int x3)] → W p l e R s m args below meth c H locs 0 0 Q (F0 m 4 ls [])), ∀ (h0 : Nat) (x1 : Int32) (x2 : Int32) (x3 : Int32) (H : Heap) (locs : List Loc) (ls : Array Slot), ez_S X B s.heap (n0) σ H locs → z_X12_openers_34 σ k_4 h0 x1 x2 x3 = some z → lv_has ls 4 [(0, .ref (B + h0)), (1, .int x1), (2, .int x2), (3, .int x3)] → W p l e R s m args below meth c H locs 0 0 Q (F0 m 34 ls []) := by
    intro k_4 hk_4 h0 x1 x2 x3 H locs ls hS h hl
    obtain ⟨t_34, e_34, h⟩ := ez_let_sp h
    refine lv_iinc (v := t_34) (lv' := [(3, .int t_34), (0, .ref (B + h0)), (1, .int x1), (2, .int x2)]) hx hb dX12_openers_34 hl (k := 3) rfl (by rw [e_34]; rfl) (by decide) rfl (fun ls hl => ?_)
    refine lv_goto (tgt := 4) hx hb dX12_openers_37 (by decide) ?_
    exact hk_4 h0 x1 x2 t_34 _ _ _ hS h (lv_sub hl [1, 2, 3, 0] rfl)
  have K_4 : ∀ (k_4 : Nat → Int32 → Int32 → Int32 → Option (Int32)) (hk_4 : ∀ (h0 : Nat) (x1 : Int32) (x2 : Int32) (x3 : Int32) (H : Heap) (locs : List Loc) (ls : Array Slot), ez_S X B s.heap (n0) σ H locs → k_4 h0 x1 x2 x3 = some z → lv_has ls 4 [(0, .ref (B + h0)), (1, .int x1), (2, .int x2), (3, .int x3)] → W p l e R s m args below meth c H locs 0 0 Q (F0 m 4 ls [])), ∀ (h0 : Nat) (x1 : Int32) (x2 : Int32) (x3 : Int32) (H : Heap) (locs : List Loc) (ls : Array Slot), ez_S X B s.heap (n0) σ H locs → z_X12_openers_4 σ k_4 h0 x1 x2 x3 = some z → lv_has ls 4 [(0, .ref (B + h0)), (1, .int x1), (2, .int x2), (3, .int x3)] → W p l e R s m args below meth c H locs 0 0 Q (F0 m 4 ls []) := by
    intro k_4 hk_4 h0 x1 x2 x3 H locs ls hS h hl
    refine lv_iload_n hx hb dX12_openers_4 rfl (lv_at hl 3 rfl) ?_
    refine lv_aload_n hx hb dX12_openers_5 rfl (lv_at hl 0 rfl) ?_
    refine ez_cVpi (As := []) (rest := [.int x3]) h (fun _ q => c_X12_bittings q) hC k_X12_bittings ql_RX12_438 rfl (by decide) hS (fun _ q => ez_rcv q) rfl hl.1 rfl (Nat.le_of_ble_eq_true rfl) ⟨Nat.zero_le _, Nat.zero_le _⟩ dX12_openers_6 (fun t_6 H locs hS h => ?_)
    refine lv_icmp_ge (tgt := 40) hx hb dX12_openers_9 (by decide) (fun c_9 => ?_) (fun c_9 => ?_)
    · replace h := ez_ifp h c_9
      refine lv_iload_n hx hb dX12_openers_40 rfl (lv_at hl 2 rfl) ?_
      exact hret _ _ _ _ _ (Option.some.inj h) rfl hS dX12_openers_41
    · replace h := ez_ifn h c_9
      refine lv_aload_n hx hb dX12_openers_12 rfl (lv_at hl 0 rfl) ?_
      refine lv_iload_n hx hb dX12_openers_13 rfl (lv_at hl 3 rfl) ?_
      refine ez_cVpi (As := [.int x3]) (rest := []) h (fun _ q => c_X12_isLegal q) hC k_X12_isLegal ql_RX12_456 rfl (by decide) hS (fun _ q => ez_rcv q) rfl hl.1 rfl (Nat.le_of_ble_eq_true rfl) ⟨Nat.zero_le _, Nat.zero_le _⟩ dX12_openers_14 (fun t_14 H locs hS h => ?_)
      refine lv_if_eq (tgt := 34) hx hb dX12_openers_17 (by decide) (fun c_17 => ?_) (fun c_17 => ?_)
      · replace h := ez_ifp h c_17
        exact K_34 k_4 hk_4 h0 x1 x2 x3 _ _ _ hS h (lv_sub hl [0, 1, 2, 3] rfl)
      · replace h := ez_ifn h c_17
        refine lv_aload_n hx hb dX12_openers_20 rfl (lv_at hl 0 rfl) ?_
        refine lv_iload_n hx hb dX12_openers_21 rfl (lv_at hl 3 rfl) ?_
        refine ez_cVpi (As := [.int x3]) (rest := []) h (fun _ q => c_X12_openedBy q) hC k_X12_openedBy ql_RX12_459 rfl (by decide) hS (fun _ q => ez_rcv q) rfl hl.1 rfl (Nat.le_of_ble_eq_true rfl) ⟨Nat.zero_le _, Nat.zero_le _⟩ dX12_openers_22 (fun t_22 H locs hS h => ?_)
        refine lv_iload_n hx hb dX12_openers_25 rfl (lv_at hl 1 rfl) ?_
        refine lv_iand hx hb dX12_openers_26 ?_
        refine ez_top h (fun t_26 h => ?_)
        refine lv_iload_n hx hb dX12_openers_27 rfl (lv_at hl 1 rfl) ?_
        refine lv_icmp_ne (tgt := 34) hx hb dX12_openers_28 (by decide) (fun c_28 => ?_) (fun c_28 => ?_)
        · replace h := ez_ifn h c_28
          exact K_34 k_4 hk_4 h0 x1 x2 x3 _ _ _ hS h (lv_sub hl [0, 1, 2, 3] rfl)
        · replace h := ez_ifp h c_28
          obtain ⟨t_31, e_31, h⟩ := ez_let_sp h
          refine lv_iinc (v := t_31) (lv' := [(2, .int t_31), (0, .ref (B + h0)), (1, .int x1), (3, .int x3)]) hx hb dX12_openers_31 hl (k := 2) rfl (by rw [e_31]; rfl) (by decide) rfl (fun ls hl => ?_)
          exact K_34 k_4 hk_4 h0 x1 t_31 x3 _ _ _ hS h (lv_sub hl [1, 2, 0, 3] rfl)
  have E_4 : ∀ (h0 : Nat) (x1 : Int32) (x2 : Int32) (x3 : Int32) (H : Heap) (locs : List Loc) (ls : Array Slot), ez_S X B s.heap (n0) σ H locs → (ez_fix (fun _ _ _ _ => none) (z_X12_openers_4 σ) ez_N) h0 x1 x2 x3 = some z → lv_has ls 4 [(0, .ref (B + h0)), (1, .int x1), (2, .int x2), (3, .int x3)] → W p l e R s m args below meth c H locs 0 0 Q (F0 m 4 ls []) := ez_fix_ind (fun k_4 : Nat → Int32 → Int32 → Int32 → Option (Int32) => ∀ (h0 : Nat) (x1 : Int32) (x2 : Int32) (x3 : Int32) (H : Heap) (locs : List Loc) (ls : Array Slot), ez_S X B s.heap (n0) σ H locs → k_4 h0 x1 x2 x3 = some z → lv_has ls 4 [(0, .ref (B + h0)), (1, .int x1), (2, .int x2), (3, .int x3)] → W p l e R s m args below meth c H locs 0 0 Q (F0 m 4 ls [])) (fun _ _ _ _ _ _ _ _ h _ => by cases h) (fun k_4 hk_4 => K_4 k_4 hk_4) ez_N
  refine lv_iconst (v := 0) hx hb dX12_openers_0 (by decide) ?_
  refine lv_istore_n (lv' := [(2, .int 0), (0, .ref (B + h0)), (1, .int x1)]) hx hb dX12_openers_1 rfl hl (by decide) rfl (fun ls hl => ?_)
  refine lv_iconst (v := 0) hx hb dX12_openers_2 (by decide) ?_
  refine lv_istore_n (lv' := [(3, .int 0), (2, .int 0), (0, .ref (B + h0)), (1, .int x1)]) hx hb dX12_openers_3 rfl hl (by decide) rfl (fun ls hl => ?_)
  exact E_4  h0 x1 (0 : Int32) (0 : Int32) _ _ _ hS h (lv_sub hl [2, 3, 1, 0] rfl)
set_option maxHeartbeats 4000000 in
set_option maxRecDepth 100000 in
theorem c_X12_cutFor {l : Launch} {X : ez_X} {B : Nat} {σ : ez_H} {h0 : Nat} {x1 : Int32} {x2 : Int32} {z : Int32} (h : z_X12_cutFor σ h0 x1 x2 = some z) : ez_M l X B σ yX12_cutFor cX12_cutFor 5 (some .int) 3 [.ref (B + h0), .int x1, .int x2] (some (.int z)) σ := by
  refine ez_startip (z := z) (by decide) (Nat.le_of_ble_eq_true rfl) (fun p e R s m args below meth c Q hC hret hS ls hl => ?_)
  have hC : ez_C p R s m args c X B RX12 cX12_cutFor 5 3 := hC
  have hx := hC.1.1
  have hb := hC.1.2.1
  have hown := hC.1.2.2.2.1
  have hts := hC.1.2.2.2.2
  have hl : lv_has ls 5 [(0, .ref (B + h0)), (1, .int x1), (2, .int x2)] := hl
  obtain ⟨n0, e0⟩ : ∃ n0 : Nat, n0 = σ.length := ⟨_, rfl⟩
  rw [← e0] at hret hS
  obtain ⟨-, h⟩ := ez_in h
  have K_16 : ∀ (H : Heap) (locs : List Loc) (ls : Array Slot), ez_S X B s.heap (n0) σ H locs → z_X12_cutFor_16 σ = some z → lv_has ls 5 [] → W p l e R s m args below meth c H locs 0 0 Q (F0 m 16 ls []) := by
    intro  H locs ls hS h hl
    refine lv_iconst (v := -1) hx hb dX12_cutFor_16 (by decide) ?_
    exact hret _ _ _ _ _ (Option.some.inj h) rfl hS dX12_cutFor_17
  have K_72 : ∀ (k_20 : Nat → Int32 → Int32 → Int32 → Option (Int32)) (hk_20 : ∀ (h0 : Nat) (x1 : Int32) (x2 : Int32) (x3 : Int32) (H : Heap) (locs : List Loc) (ls : Array Slot), ez_S X B s.heap (n0) σ H locs → k_20 h0 x1 x2 x3 = some z → lv_has ls 5 [(0, .ref (B + h0)), (1, .int x1), (2, .int x2), (3, .int x3)] → W p l e R s m args below meth c H locs 0 0 Q (F0 m 20 ls [])), ∀ (h0 : Nat) (x1 : Int32) (x2 : Int32) (x3 : Int32) (H : Heap) (locs : List Loc) (ls : Array Slot), ez_S X B s.heap (n0) σ H locs → z_X12_cutFor_72 σ k_20 h0 x1 x2 x3 = some z → lv_has ls 5 [(0, .ref (B + h0)), (1, .int x1), (2, .int x2), (3, .int x3)] → W p l e R s m args below meth c H locs 0 0 Q (F0 m 72 ls []) := by
    intro k_20 hk_20 h0 x1 x2 x3 H locs ls hS h hl
    obtain ⟨t_72, e_72, h⟩ := ez_let_sp h
    refine lv_iinc (v := t_72) (lv' := [(3, .int t_72), (0, .ref (B + h0)), (1, .int x1), (2, .int x2)]) hx hb dX12_cutFor_72 hl (k := 3) rfl (by rw [e_72]; rfl) (by decide) rfl (fun ls hl => ?_)
    refine lv_goto (tgt := 20) hx hb dX12_cutFor_75 (by decide) ?_
    exact hk_20 h0 x1 x2 t_72 _ _ _ hS h (lv_sub hl [1, 2, 3, 0] rfl)
  have K_45 : ∀ (k_20 : Nat → Int32 → Int32 → Int32 → Option (Int32)) (hk_20 : ∀ (h0 : Nat) (x1 : Int32) (x2 : Int32) (x3 : Int32) (H : Heap) (locs : List Loc) (ls : Array Slot), ez_S X B s.heap (n0) σ H locs → k_20 h0 x1 x2 x3 = some z → lv_has ls 5 [(0, .ref (B + h0)), (1, .int x1), (2, .int x2), (3, .int x3)] → W p l e R s m args below meth c H locs 0 0 Q (F0 m 20 ls [])), ∀ (h0 : Nat) (x1 : Int32) (x2 : Int32) (x3 : Int32) (y0 : Int32) (H : Heap) (locs : List Loc) (ls : Array Slot), ez_S X B s.heap (n0) σ H locs → z_X12_cutFor_45 σ k_20 h0 x1 x2 x3 y0 = some z → lv_has ls 5 [(0, .ref (B + h0)), (1, .int x1), (2, .int x2), (3, .int x3)] → W p l e R s m args below meth c H locs 0 0 Q (F0 m 45 ls [.int y0]) := by
    intro k_20 hk_20 h0 x1 x2 x3 y0 H locs ls hS h hl
    refine lv_istore (lv' := [(4, .int y0), (0, .ref (B + h0)), (1, .int x1), (2, .int x2), (3, .int x3)]) hx hb dX12_cutFor_45 hl (by decide) rfl (fun ls hl => ?_)
    refine lv_aload_n hx hb dX12_cutFor_47 rfl (lv_at hl 1 rfl) ?_
    refine lv_iload_n hx hb dX12_cutFor_48 rfl (lv_at hl 4 rfl) ?_
    refine ez_cVpi (As := [.int x3]) (rest := []) h (fun _ q => c_X12_isLegal q) hC k_X12_isLegal ql_RX12_456 rfl (by decide) hS (fun _ q => ez_rcv q) rfl hl.1 rfl (Nat.le_of_ble_eq_true rfl) ⟨Nat.zero_le _, Nat.zero_le _⟩ dX12_cutFor_49 (fun t_49 H locs hS h => ?_)
    refine lv_if_eq (tgt := 72) hx hb dX12_cutFor_52 (by decide) (fun c_52 => ?_) (fun c_52 => ?_)
    · replace h := ez_ifp h c_52
      exact K_72 k_20 hk_20 h0 x1 x2 x3 _ _ _ hS h (lv_sub hl [1, 2, 3, 4] rfl)
    · replace h := ez_ifn h c_52
      refine lv_iload hx hb dX12_cutFor_55 (lv_at hl 0 rfl) ?_
      refine lv_iload_n hx hb dX12_cutFor_57 rfl (lv_at hl 2 rfl) ?_
      refine lv_iand hx hb dX12_cutFor_58 ?_
      refine ez_top h (fun t_58 h => ?_)
      refine lv_iload_n hx hb dX12_cutFor_59 rfl (lv_at hl 2 rfl) ?_
      refine lv_icmp_ne (tgt := 72) hx hb dX12_cutFor_60 (by decide) (fun c_60 => ?_) (fun c_60 => ?_)
      · replace h := ez_ifn h c_60
        exact K_72 k_20 hk_20 h0 x1 x2 x3 _ _ _ hS h (lv_sub hl [1, 2, 3, 4] rfl)
      · replace h := ez_ifp h c_60
        refine lv_iload hx hb dX12_cutFor_63 (lv_at hl 0 rfl) ?_
        refine lv_iload_n hx hb dX12_cutFor_65 rfl (lv_at hl 3 rfl) ?_
        refine lv_iand hx hb dX12_cutFor_66 ?_
        refine ez_top h (fun t_66 h => ?_)
        refine lv_if_ne (tgt := 72) hx hb dX12_cutFor_67 (by decide) (fun c_67 => ?_) (fun c_67 => ?_)
        · replace h := ez_ifn h c_67
          exact K_72 k_20 hk_20 h0 x1 x2 x3 _ _ _ hS h (lv_sub hl [1, 2, 3, 4] rfl)
        · replace h := ez_ifp h c_67
          refine lv_iload_n hx hb dX12_cutFor_70 rfl (lv_at hl 4 rfl) ?_
          exact hret _ _ _ _ _ (Option.some.inj h) rfl hS dX12_cutFor_71
  have K_20 : ∀ (k_20 : Nat → Int32 → Int32 → Int32 → Option (Int32)) (hk_20 : ∀ (h0 : Nat) (x1 : Int32) (x2 : Int32) (x3 : Int32) (H : Heap) (locs : List Loc) (ls : Array Slot), ez_S X B s.heap (n0) σ H locs → k_20 h0 x1 x2 x3 = some z → lv_has ls 5 [(0, .ref (B + h0)), (1, .int x1), (2, .int x2), (3, .int x3)] → W p l e R s m args below meth c H locs 0 0 Q (F0 m 20 ls [])), ∀ (h0 : Nat) (x1 : Int32) (x2 : Int32) (x3 : Int32) (H : Heap) (locs : List Loc) (ls : Array Slot), ez_S X B s.heap (n0) σ H locs → z_X12_cutFor_20 σ k_20 h0 x1 x2 x3 = some z → lv_has ls 5 [(0, .ref (B + h0)), (1, .int x1), (2, .int x2), (3, .int x3)] → W p l e R s m args below meth c H locs 0 0 Q (F0 m 20 ls []) := by
    intro k_20 hk_20 h0 x1 x2 x3 H locs ls hS h hl
    refine lv_iload_n hx hb dX12_cutFor_20 rfl (lv_at hl 3 rfl) ?_
    refine lv_aload_n hx hb dX12_cutFor_21 rfl (lv_at hl 0 rfl) ?_
    refine ez_cVpi (As := []) (rest := [.int x3]) h (fun _ q => c_X12_bittings q) hC k_X12_bittings ql_RX12_438 rfl (by decide) hS (fun _ q => ez_rcv q) rfl hl.1 rfl (Nat.le_of_ble_eq_true rfl) ⟨Nat.zero_le _, Nat.zero_le _⟩ dX12_cutFor_22 (fun t_22 H locs hS h => ?_)
    refine lv_icmp_ge (tgt := 78) hx hb dX12_cutFor_25 (by decide) (fun c_25 => ?_) (fun c_25 => ?_)
    · replace h := ez_ifp h c_25
      refine lv_iconst (v := -1) hx hb dX12_cutFor_78 (by decide) ?_
      exact hret _ _ _ _ _ (Option.some.inj h) rfl hS dX12_cutFor_79
    · replace h := ez_ifn h c_25
      refine lv_aload_n hx hb dX12_cutFor_28 rfl (lv_at hl 0 rfl) ?_
      refine lv_iload_n hx hb dX12_cutFor_29 rfl (lv_at hl 3 rfl) ?_
      refine ez_cVpi (As := [.int x3]) (rest := []) h (fun _ q => c_X12_isLegal q) hC k_X12_isLegal ql_RX12_456 rfl (by decide) hS (fun _ q => ez_rcv q) rfl hl.1 rfl (Nat.le_of_ble_eq_true rfl) ⟨Nat.zero_le _, Nat.zero_le _⟩ dX12_cutFor_30 (fun t_30 H locs hS h => ?_)
      refine lv_if_eq (tgt := 44) hx hb dX12_cutFor_33 (by decide) (fun c_33 => ?_) (fun c_33 => ?_)
      · replace h := ez_ifp h c_33
        refine lv_iconst (v := 0) hx hb dX12_cutFor_44 (by decide) ?_
        exact K_45 k_20 hk_20 h0 x1 x2 x3 (0 : Int32) _ _ _ hS h (lv_sub hl [0, 1, 2, 3] rfl)
      · replace h := ez_ifn h c_33
        refine lv_aload_n hx hb dX12_cutFor_36 rfl (lv_at hl 0 rfl) ?_
        refine lv_iload_n hx hb dX12_cutFor_37 rfl (lv_at hl 3 rfl) ?_
        refine ez_cVpi (As := [.int x3]) (rest := []) h (fun _ q => c_X12_openedBy q) hC k_X12_openedBy ql_RX12_459 rfl (by decide) hS (fun _ q => ez_rcv q) rfl hl.1 rfl (Nat.le_of_ble_eq_true rfl) ⟨Nat.zero_le _, Nat.zero_le _⟩ dX12_cutFor_38 (fun t_38 H locs hS h => ?_)
        refine lv_goto (tgt := 45) hx hb dX12_cutFor_41 (by decide) ?_
        exact K_45 k_20 hk_20 h0 x1 x2 x3 t_38 _ _ _ hS h (lv_sub hl [0, 1, 2, 3] rfl)
  have E_20 : ∀ (h0 : Nat) (x1 : Int32) (x2 : Int32) (x3 : Int32) (H : Heap) (locs : List Loc) (ls : Array Slot), ez_S X B s.heap (n0) σ H locs → (ez_fix (fun _ _ _ _ => none) (z_X12_cutFor_20 σ) ez_N) h0 x1 x2 x3 = some z → lv_has ls 5 [(0, .ref (B + h0)), (1, .int x1), (2, .int x2), (3, .int x3)] → W p l e R s m args below meth c H locs 0 0 Q (F0 m 20 ls []) := ez_fix_ind (fun k_20 : Nat → Int32 → Int32 → Int32 → Option (Int32) => ∀ (h0 : Nat) (x1 : Int32) (x2 : Int32) (x3 : Int32) (H : Heap) (locs : List Loc) (ls : Array Slot), ez_S X B s.heap (n0) σ H locs → k_20 h0 x1 x2 x3 = some z → lv_has ls 5 [(0, .ref (B + h0)), (1, .int x1), (2, .int x2), (3, .int x3)] → W p l e R s m args below meth c H locs 0 0 Q (F0 m 20 ls [])) (fun _ _ _ _ _ _ _ _ h _ => by cases h) (fun k_20 hk_20 => K_20 k_20 hk_20) ez_N
  refine lv_aload_n hx hb dX12_cutFor_0 rfl (lv_at hl 0 rfl) ?_
  refine lv_iload_n hx hb dX12_cutFor_1 rfl (lv_at hl 1 rfl) ?_
  refine ez_cVpi (As := [.int x1]) (rest := []) h (fun _ q => c_X12_areLocks q) hC k_X12_areLocks ql_RX12_516 rfl (by decide) hS (fun _ q => ez_rcv q) rfl hl.1 rfl (Nat.le_of_ble_eq_true rfl) ⟨Nat.zero_le _, Nat.zero_le _⟩ dX12_cutFor_2 (fun t_2 H locs hS h => ?_)
  refine lv_if_eq (tgt := 16) hx hb dX12_cutFor_5 (by decide) (fun c_5 => ?_) (fun c_5 => ?_)
  · replace h := ez_ifp h c_5
    exact K_16   _ _ _ hS h (lv_sub hl [] rfl)
  · replace h := ez_ifn h c_5
    refine lv_aload_n hx hb dX12_cutFor_8 rfl (lv_at hl 0 rfl) ?_
    refine lv_iload_n hx hb dX12_cutFor_9 rfl (lv_at hl 2 rfl) ?_
    refine ez_cVpi (As := [.int x2]) (rest := []) h (fun _ q => c_X12_areLocks q) hC k_X12_areLocks ql_RX12_516 rfl (by decide) hS (fun _ q => ez_rcv q) rfl hl.1 rfl (Nat.le_of_ble_eq_true rfl) ⟨Nat.zero_le _, Nat.zero_le _⟩ dX12_cutFor_10 (fun t_10 H locs hS h => ?_)
    refine lv_if_ne (tgt := 18) hx hb dX12_cutFor_13 (by decide) (fun c_13 => ?_) (fun c_13 => ?_)
    · replace h := ez_ifn h c_13
      refine lv_iconst (v := 0) hx hb dX12_cutFor_18 (by decide) ?_
      refine lv_istore_n (lv' := [(3, .int 0), (0, .ref (B + h0)), (1, .int x1), (2, .int x2)]) hx hb dX12_cutFor_19 rfl hl (by decide) rfl (fun ls hl => ?_)
      exact E_20  h0 x1 x2 (0 : Int32) _ _ _ hS h (lv_sub hl [1, 2, 3, 0] rfl)
    · replace h := ez_ifp h c_13
      exact K_16   _ _ _ hS h (lv_sub hl [] rfl)
set_option maxHeartbeats 4000000 in
set_option maxRecDepth 100000 in
theorem c_X12_common {l : Launch} {X : ez_X} {B : Nat} {σ : ez_H} {h0 : Nat} {x1 : Int32} {x2 : Int32} {z : Int32} (h : z_X12_common σ h0 x1 x2 = some z) : ez_M l X B σ yX12_common cX12_common 3 (some .int) 4 [.ref (B + h0), .int x1, .int x2] (some (.int z)) σ := by
  refine ez_startip (z := z) (by decide) (Nat.le_of_ble_eq_true rfl) (fun p e R s m args below meth c Q hC hret hS ls hl => ?_)
  have hC : ez_C p R s m args c X B RX12 cX12_common 3 4 := hC
  have hx := hC.1.1
  have hb := hC.1.2.1
  have hown := hC.1.2.2.2.1
  have hts := hC.1.2.2.2.2
  have hl : lv_has ls 3 [(0, .ref (B + h0)), (1, .int x1), (2, .int x2)] := hl
  obtain ⟨n0, e0⟩ : ∃ n0 : Nat, n0 = σ.length := ⟨_, rfl⟩
  rw [← e0] at hret hS
  obtain ⟨-, h⟩ := ez_in h
  have K_17 : ∀ (H : Heap) (locs : List Loc) (ls : Array Slot), ez_S X B s.heap (n0) σ H locs → z_X12_common_17 σ = some z → lv_has ls 3 [] → W p l e R s m args below meth c H locs 0 0 Q (F0 m 17 ls []) := by
    intro  H locs ls hS h hl
    refine lv_iconst (v := -1) hx hb dX12_common_17 (by decide) ?_
    exact hret _ _ _ _ _ (Option.some.inj h) rfl hS dX12_common_18
  have K_37 : ∀ (y0 : Int32) (H : Heap) (locs : List Loc) (ls : Array Slot), ez_S X B s.heap (n0) σ H locs → z_X12_common_37 σ y0 = some z → lv_has ls 3 [] → W p l e R s m args below meth c H locs 0 0 Q (F0 m 37 ls [.int y0]) := by
    intro y0 H locs ls hS h hl
    exact hret _ _ _ _ _ (Option.some.inj h) rfl hS dX12_common_37
  refine lv_aload_n hx hb dX12_common_0 rfl (lv_at hl 0 rfl) ?_
  refine lv_iload_n hx hb dX12_common_1 rfl (lv_at hl 1 rfl) ?_
  refine ez_cVpi (As := [.int x1]) (rest := []) h (fun _ q => c_X12_areLocks q) hC k_X12_areLocks ql_RX12_516 rfl (by decide) hS (fun _ q => ez_rcv q) rfl hl.1 rfl (Nat.le_of_ble_eq_true rfl) ⟨Nat.zero_le _, Nat.zero_le _⟩ dX12_common_2 (fun t_2 H locs hS h => ?_)
  refine lv_if_eq (tgt := 17) hx hb dX12_common_5 (by decide) (fun c_5 => ?_) (fun c_5 => ?_)
  · replace h := ez_ifp h c_5
    exact K_17   _ _ _ hS h (lv_sub hl [] rfl)
  · replace h := ez_ifn h c_5
    refine lv_iload_n hx hb dX12_common_8 rfl (lv_at hl 2 rfl) ?_
    refine lv_iconst (v := 0) hx hb dX12_common_9 (by decide) ?_
    refine lv_iconst (v := 1) hx hb dX12_common_10 (by decide) ?_
    refine ez_cSpi (As := [.int x2, .int 0, .int 1]) (rest := []) h (fun _ q => c_X12_isIn q) hC k_X12_isIn ql_RX12_407 rfl (by decide) hS hl.1 rfl (Nat.le_of_ble_eq_true rfl) ⟨Nat.zero_le _, Nat.zero_le _⟩ dX12_common_11 (fun t_11 H locs hS h => ?_)
    refine lv_if_ne (tgt := 19) hx hb dX12_common_14 (by decide) (fun c_14 => ?_) (fun c_14 => ?_)
    · replace h := ez_ifn h c_14
      refine lv_iload_n hx hb dX12_common_19 rfl (lv_at hl 2 rfl) ?_
      refine lv_if_ne (tgt := 31) hx hb dX12_common_20 (by decide) (fun c_20 => ?_) (fun c_20 => ?_)
      · replace h := ez_ifn h c_20
        refine lv_aload_n hx hb dX12_common_31 rfl (lv_at hl 0 rfl) ?_
        refine lv_iload_n hx hb dX12_common_32 rfl (lv_at hl 1 rfl) ?_
        refine lv_iconst (v := 0) hx hb dX12_common_33 (by decide) ?_
        refine ez_cVpi (As := [.int x1, .int 0]) (rest := []) h (fun _ q => c_X12_cutFor q) hC k_X12_cutFor ql_RX12_522 rfl (by decide) hS (fun _ q => ez_rcv q) rfl hl.1 rfl (Nat.le_of_ble_eq_true rfl) ⟨Nat.zero_le _, Nat.zero_le _⟩ dX12_common_34 (fun t_34 H locs hS h => ?_)
        exact K_37  t_34 _ _ _ hS h (lv_sub hl [] rfl)
      · replace h := ez_ifp h c_20
        refine lv_aload_n hx hb dX12_common_23 rfl (lv_at hl 0 rfl) ?_
        refine lv_iload_n hx hb dX12_common_24 rfl (lv_at hl 1 rfl) ?_
        refine ez_cVpi (As := [.int x1]) (rest := []) h (fun _ q => c_X12_openers q) hC k_X12_openers ql_RX12_519 rfl (by decide) hS (fun _ q => ez_rcv q) rfl hl.1 rfl (Nat.le_of_ble_eq_true rfl) ⟨Nat.zero_le _, Nat.zero_le _⟩ dX12_common_25 (fun t_25 H locs hS h => ?_)
        refine lv_goto (tgt := 37) hx hb dX12_common_28 (by decide) ?_
        exact K_37  t_25 _ _ _ hS h (lv_sub hl [] rfl)
    · replace h := ez_ifp h c_14
      exact K_17   _ _ _ hS h (lv_sub hl [] rfl)
set_option maxHeartbeats 4000000 in
set_option maxRecDepth 100000 in
theorem c_X12_isKey {l : Launch} {X : ez_X} {B : Nat} {σ : ez_H} {h0 : Nat} {x1 : Int32} {z : Int32} (h : z_X12_isKey σ h0 x1 = some z) : ez_M l X B σ yX12_isKey cX12_isKey 2 (some .boolean) 1 [.ref (B + h0), .int x1] (some (.int z)) σ := by
  refine ez_startip (z := z) (by decide) (Nat.le_of_ble_eq_true rfl) (fun p e R s m args below meth c Q hC hret hS ls hl => ?_)
  have hC : ez_C p R s m args c X B RX12 cX12_isKey 2 1 := hC
  have hx := hC.1.1
  have hb := hC.1.2.1
  have hown := hC.1.2.2.2.1
  have hts := hC.1.2.2.2.2
  have hl : lv_has ls 2 [(0, .ref (B + h0)), (1, .int x1)] := hl
  obtain ⟨n0, e0⟩ : ∃ n0 : Nat, n0 = σ.length := ⟨_, rfl⟩
  rw [← e0] at hret hS
  obtain ⟨-, h⟩ := ez_in h
  refine lv_iload_n hx hb dX12_isKey_0 rfl (lv_at hl 1 rfl) ?_
  refine lv_iconst (v := 0) hx hb dX12_isKey_1 (by decide) ?_
  refine lv_aload_n hx hb dX12_isKey_2 rfl (lv_at hl 0 rfl) ?_
  refine ez_cVpi (As := []) (rest := [.int 0, .int x1]) h (fun _ q => c_X12_many q) hC k_X12_many ql_RX12_404 rfl (by decide) hS (fun _ q => ez_rcv q) rfl hl.1 rfl (Nat.le_of_ble_eq_true rfl) ⟨Nat.zero_le _, Nat.zero_le _⟩ dX12_isKey_3 (fun t_3 H locs hS h => ?_)
  refine lv_iconst (v := 1) hx hb dX12_isKey_6 (by decide) ?_
  refine lv_isub hx hb dX12_isKey_7 ?_
  refine ez_top h (fun t_7 h => ?_)
  refine ez_cSpi (As := [.int x1, .int 0, .int t_7]) (rest := []) h (fun _ q => c_X12_isIn q) hC k_X12_isIn ql_RX12_407 rfl (by decide) hS hl.1 rfl (Nat.le_of_ble_eq_true rfl) ⟨Nat.zero_le _, Nat.zero_le _⟩ dX12_isKey_8 (fun t_8 H locs hS h => ?_)
  obtain ⟨hn, h⟩ := ez_nr_sp rfl h
  exact hret _ _ _ _ _ (Option.some.inj h) hn hS dX12_isKey_11
set_option maxHeartbeats 4000000 in
set_option maxRecDepth 100000 in
theorem c_X12_isChamber {l : Launch} {X : ez_X} {B : Nat} {σ : ez_H} {h0 : Nat} {x1 : Int32} {z : Int32} (h : z_X12_isChamber σ h0 x1 = some z) : ez_M l X B σ yX12_isChamber cX12_isChamber 2 (some .boolean) 1 [.ref (B + h0), .int x1] (some (.int z)) σ := by
  refine ez_startip (z := z) (by decide) (Nat.le_of_ble_eq_true rfl) (fun p e R s m args below meth c Q hC hret hS ls hl => ?_)
  have hC : ez_C p R s m args c X B RX12 cX12_isChamber 2 1 := hC
  have hx := hC.1.1
  have hb := hC.1.2.1
  have hown := hC.1.2.2.2.1
  have hts := hC.1.2.2.2.2
  have hl : lv_has ls 2 [(0, .ref (B + h0)), (1, .int x1)] := hl
  obtain ⟨n0, e0⟩ : ∃ n0 : Nat, n0 = σ.length := ⟨_, rfl⟩
  rw [← e0] at hret hS
  obtain ⟨-, h⟩ := ez_in h
  refine lv_iload_n hx hb dX12_isChamber_0 rfl (lv_at hl 1 rfl) ?_
  refine lv_iconst (v := 0) hx hb dX12_isChamber_1 (by decide) ?_
  refine lv_aload_n hx hb dX12_isChamber_2 rfl (lv_at hl 0 rfl) ?_
  refine ez_cVpi (As := []) (rest := [.int 0, .int x1]) h (fun _ q => c_X12_wide q) hC k_X12_wide ql_RX12_414 rfl (by decide) hS (fun _ q => ez_rcv q) rfl hl.1 rfl (Nat.le_of_ble_eq_true rfl) ⟨Nat.zero_le _, Nat.zero_le _⟩ dX12_isChamber_3 (fun t_3 H locs hS h => ?_)
  refine lv_iconst (v := 1) hx hb dX12_isChamber_6 (by decide) ?_
  refine lv_isub hx hb dX12_isChamber_7 ?_
  refine ez_top h (fun t_7 h => ?_)
  refine ez_cSpi (As := [.int x1, .int 0, .int t_7]) (rest := []) h (fun _ q => c_X12_isIn q) hC k_X12_isIn ql_RX12_407 rfl (by decide) hS hl.1 rfl (Nat.le_of_ble_eq_true rfl) ⟨Nat.zero_le _, Nat.zero_le _⟩ dX12_isChamber_8 (fun t_8 H locs hS h => ?_)
  obtain ⟨hn, h⟩ := ez_nr_sp rfl h
  exact hret _ _ _ _ _ (Option.some.inj h) hn hS dX12_isChamber_11
set_option maxHeartbeats 4000000 in
set_option maxRecDepth 100000 in
theorem c_X12_cut {l : Launch} {X : ez_X} {B : Nat} {σ : ez_H} {h0 : Nat} {x1 : Int32} {x2 : Int32} {z : Int32} (h : z_X12_cut σ h0 x1 x2 = some z) : ez_M l X B σ yX12_cut cX12_cut 3 (some .int) 2 [.ref (B + h0), .int x1, .int x2] (some (.int z)) σ := by
  refine ez_startip (z := z) (by decide) (Nat.le_of_ble_eq_true rfl) (fun p e R s m args below meth c Q hC hret hS ls hl => ?_)
  have hC : ez_C p R s m args c X B RX12 cX12_cut 3 2 := hC
  have hx := hC.1.1
  have hb := hC.1.2.1
  have hown := hC.1.2.2.2.1
  have hts := hC.1.2.2.2.2
  have hl : lv_has ls 3 [(0, .ref (B + h0)), (1, .int x1), (2, .int x2)] := hl
  obtain ⟨n0, e0⟩ : ∃ n0 : Nat, n0 = σ.length := ⟨_, rfl⟩
  rw [← e0] at hret hS
  obtain ⟨-, h⟩ := ez_in h
  have K_26 : ∀ (y0 : Int32) (H : Heap) (locs : List Loc) (ls : Array Slot), ez_S X B s.heap (n0) σ H locs → z_X12_cut_26 σ y0 = some z → lv_has ls 3 [] → W p l e R s m args below meth c H locs 0 0 Q (F0 m 26 ls [.int y0]) := by
    intro y0 H locs ls hS h hl
    exact hret _ _ _ _ _ (Option.some.inj h) rfl hS dX12_cut_26
  have K_25 : ∀ (H : Heap) (locs : List Loc) (ls : Array Slot), ez_S X B s.heap (n0) σ H locs → z_X12_cut_25 σ = some z → lv_has ls 3 [] → W p l e R s m args below meth c H locs 0 0 Q (F0 m 25 ls []) := by
    intro  H locs ls hS h hl
    refine lv_iconst (v := -1) hx hb dX12_cut_25 (by decide) ?_
    exact K_26  (-1 : Int32) _ _ _ hS h (lv_sub hl [] rfl)
  refine lv_aload_n hx hb dX12_cut_0 rfl (lv_at hl 0 rfl) ?_
  refine lv_iload_n hx hb dX12_cut_1 rfl (lv_at hl 1 rfl) ?_
  refine ez_cVpi (As := [.int x1]) (rest := []) h (fun _ q => c_X12_isKey q) hC k_X12_isKey ql_RX12_462 rfl (by decide) hS (fun _ q => ez_rcv q) rfl hl.1 rfl (Nat.le_of_ble_eq_true rfl) ⟨Nat.zero_le _, Nat.zero_le _⟩ dX12_cut_2 (fun t_2 H locs hS h => ?_)
  refine lv_if_eq (tgt := 25) hx hb dX12_cut_5 (by decide) (fun c_5 => ?_) (fun c_5 => ?_)
  · replace h := ez_ifp h c_5
    exact K_25   _ _ _ hS h (lv_sub hl [] rfl)
  · replace h := ez_ifn h c_5
    refine lv_aload_n hx hb dX12_cut_8 rfl (lv_at hl 0 rfl) ?_
    refine lv_iload_n hx hb dX12_cut_9 rfl (lv_at hl 2 rfl) ?_
    refine ez_cVpi (As := [.int x2]) (rest := []) h (fun _ q => c_X12_isChamber q) hC k_X12_isChamber ql_RX12_468 rfl (by decide) hS (fun _ q => ez_rcv q) rfl hl.1 rfl (Nat.le_of_ble_eq_true rfl) ⟨Nat.zero_le _, Nat.zero_le _⟩ dX12_cut_10 (fun t_10 H locs hS h => ?_)
    refine lv_if_eq (tgt := 25) hx hb dX12_cut_13 (by decide) (fun c_13 => ?_) (fun c_13 => ?_)
    · replace h := ez_ifp h c_13
      exact K_25   _ _ _ hS h (lv_sub hl [] rfl)
    · replace h := ez_ifn h c_13
      refine lv_aload_n hx hb dX12_cut_16 rfl (lv_at hl 0 rfl) ?_
      refine lv_iload_n hx hb dX12_cut_17 rfl (lv_at hl 1 rfl) ?_
      refine lv_iload_n hx hb dX12_cut_18 rfl (lv_at hl 2 rfl) ?_
      refine ez_cVpi (As := [.int x1, .int x2]) (rest := []) h (fun _ q => c_X12_cutOf q) hC k_X12_cutOf ql_RX12_444 rfl (by decide) hS (fun _ q => ez_rcv q) rfl hl.1 rfl (Nat.le_of_ble_eq_true rfl) ⟨Nat.zero_le _, Nat.zero_le _⟩ dX12_cut_19 (fun t_19 H locs hS h => ?_)
      refine lv_goto (tgt := 26) hx hb dX12_cut_22 (by decide) ?_
      exact K_26  t_19 _ _ _ hS h (lv_sub hl [] rfl)
set_option maxHeartbeats 4000000 in
set_option maxRecDepth 100000 in
theorem c_X12_isDoor {l : Launch} {X : ez_X} {B : Nat} {σ : ez_H} {h0 : Nat} {x1 : Int32} {z : Int32} (h : z_X12_isDoor σ h0 x1 = some z) : ez_M l X B σ yX12_isDoor cX12_isDoor 2 (some .boolean) 1 [.ref (B + h0), .int x1] (some (.int z)) σ := by
  refine ez_startip (z := z) (by decide) (Nat.le_of_ble_eq_true rfl) (fun p e R s m args below meth c Q hC hret hS ls hl => ?_)
  have hC : ez_C p R s m args c X B RX12 cX12_isDoor 2 1 := hC
  have hx := hC.1.1
  have hb := hC.1.2.1
  have hown := hC.1.2.2.2.1
  have hts := hC.1.2.2.2.2
  have hl : lv_has ls 2 [(0, .ref (B + h0)), (1, .int x1)] := hl
  obtain ⟨n0, e0⟩ : ∃ n0 : Nat, n0 = σ.length := ⟨_, rfl⟩
  rw [← e0] at hret hS
  obtain ⟨-, h⟩ := ez_in h
  refine lv_iload_n hx hb dX12_isDoor_0 rfl (lv_at hl 1 rfl) ?_
  refine lv_iconst (v := 0) hx hb dX12_isDoor_1 (by decide) ?_
  refine lv_aload_n hx hb dX12_isDoor_2 rfl (lv_at hl 0 rfl) ?_
  refine eg_RX12_39 hC hS h dX12_isDoor_3 (fun t_3 h => ?_)
  refine lv_aload_n hx hb dX12_isDoor_6 rfl (lv_at hl 0 rfl) ?_
  refine eg_RX12_274 hC hS h dX12_isDoor_7 (fun t_7 h => ?_)
  refine ez_ial hC hS h dX12_isDoor_10 (fun t_10 h => ?_)
  refine lv_iconst (v := 1) hx hb dX12_isDoor_11 (by decide) ?_
  refine lv_isub hx hb dX12_isDoor_12 ?_
  refine ez_top h (fun t_12 h => ?_)
  refine ez_cSpi (As := [.int x1, .int 0, .int t_12]) (rest := []) h (fun _ q => c_X12_isIn q) hC k_X12_isIn ql_RX12_407 rfl (by decide) hS hl.1 rfl (Nat.le_of_ble_eq_true rfl) ⟨Nat.zero_le _, Nat.zero_le _⟩ dX12_isDoor_13 (fun t_13 H locs hS h => ?_)
  obtain ⟨hn, h⟩ := ez_nr_sp rfl h
  exact hret _ _ _ _ _ (Option.some.inj h) hn hS dX12_isDoor_16
set_option maxHeartbeats 4000000 in
set_option maxRecDepth 100000 in
theorem c_X12_door {l : Launch} {X : ez_X} {B : Nat} {σ : ez_H} {h0 : Nat} {x1 : Int32} {x2 : Int32} {z : Int32} (h : z_X12_door σ h0 x1 x2 = some z) : ez_M l X B σ yX12_door cX12_door 4 (some .int) 2 [.ref (B + h0), .int x1, .int x2] (some (.int z)) σ := by
  refine ez_startip (z := z) (by decide) (Nat.le_of_ble_eq_true rfl) (fun p e R s m args below meth c Q hC hret hS ls hl => ?_)
  have hC : ez_C p R s m args c X B RX12 cX12_door 4 2 := hC
  have hx := hC.1.1
  have hb := hC.1.2.1
  have hown := hC.1.2.2.2.1
  have hts := hC.1.2.2.2.2
  have hl : lv_has ls 4 [(0, .ref (B + h0)), (1, .int x1), (2, .int x2)] := hl
  obtain ⟨n0, e0⟩ : ∃ n0 : Nat, n0 = σ.length := ⟨_, rfl⟩
  rw [← e0] at hret hS
  obtain ⟨-, h⟩ := ez_in h
  have K_62 : ∀ (y0 : Int32) (H : Heap) (locs : List Loc) (ls : Array Slot), ez_S X B s.heap (n0) σ H locs → z_X12_door_62 σ y0 = some z → lv_has ls 4 [] → W p l e R s m args below meth c H locs 0 0 Q (F0 m 62 ls [.int y0]) := by
    intro y0 H locs ls hS h hl
    exact hret _ _ _ _ _ (Option.some.inj h) rfl hS dX12_door_62
  refine lv_aload_n hx hb dX12_door_0 rfl (lv_at hl 0 rfl) ?_
  refine lv_iload_n hx hb dX12_door_1 rfl (lv_at hl 1 rfl) ?_
  refine ez_cVpi (As := [.int x1]) (rest := []) h (fun _ q => c_X12_isDoor q) hC k_X12_isDoor ql_RX12_492 rfl (by decide) hS (fun _ q => ez_rcv q) rfl hl.1 rfl (Nat.le_of_ble_eq_true rfl) ⟨Nat.zero_le _, Nat.zero_le _⟩ dX12_door_2 (fun t_2 H locs hS h => ?_)
  refine lv_if_ne (tgt := 10) hx hb dX12_door_5 (by decide) (fun c_5 => ?_) (fun c_5 => ?_)
  · replace h := ez_ifn h c_5
    refine lv_bipush (v := 8) hx hb dX12_door_10 (by decide) ?_
    refine lv_aload_n hx hb dX12_door_12 rfl (lv_at hl 0 rfl) ?_
    refine eg_RX12_274 hC hS h dX12_door_13 (fun t_13 h => ?_)
    refine lv_imul hx hb dX12_door_16 ?_
    refine ez_top h (fun t_16 h => ?_)
    refine lv_iload_n hx hb dX12_door_17 rfl (lv_at hl 1 rfl) ?_
    refine lv_iadd hx hb dX12_door_18 ?_
    refine ez_top h (fun t_18 h => ?_)
    refine lv_istore_n (lv' := [(3, .int t_18), (0, .ref (B + h0)), (1, .int x1), (2, .int x2)]) hx hb dX12_door_19 rfl hl (by decide) rfl (fun ls hl => ?_)
    refine lv_iload_n hx hb dX12_door_20 rfl (lv_at hl 3 rfl) ?_
    refine lv_if_ne (tgt := 33) hx hb dX12_door_21 (by decide) (fun c_21 => ?_) (fun c_21 => ?_)
    · replace h := ez_ifn h c_21
      refine lv_iload_n hx hb dX12_door_33 rfl (lv_at hl 3 rfl) ?_
      refine lv_iconst (v := 1) hx hb dX12_door_34 (by decide) ?_
      refine lv_icmp_ne (tgt := 47) hx hb dX12_door_35 (by decide) (fun c_35 => ?_) (fun c_35 => ?_)
      · replace h := ez_ifn h c_35
        refine lv_iload_n hx hb dX12_door_47 rfl (lv_at hl 3 rfl) ?_
        refine lv_iconst (v := 2) hx hb dX12_door_48 (by decide) ?_
        refine lv_icmp_ne (tgt := 61) hx hb dX12_door_49 (by decide) (fun c_49 => ?_) (fun c_49 => ?_)
        · replace h := ez_ifn h c_49
          refine lv_iconst (v := -1) hx hb dX12_door_61 (by decide) ?_
          exact K_62  (-1 : Int32) _ _ _ hS h (lv_sub hl [] rfl)
        · replace h := ez_ifp h c_49
          refine lv_aload_n hx hb dX12_door_52 rfl (lv_at hl 1 rfl) ?_
          refine eg_RX12_66 hC hS h dX12_door_53 (fun t_53 h => ?_)
          refine lv_iload_n hx hb dX12_door_56 rfl (lv_at hl 0 rfl) ?_
          refine ez_ial hC hS h dX12_door_57 (fun t_57 h => ?_)
          refine lv_goto (tgt := 62) hx hb dX12_door_58 (by decide) ?_
          exact K_62  t_57 _ _ _ hS h (lv_sub hl [] rfl)
      · replace h := ez_ifp h c_35
        refine lv_aload_n hx hb dX12_door_38 rfl (lv_at hl 1 rfl) ?_
        refine eg_RX12_63 hC hS h dX12_door_39 (fun t_39 h => ?_)
        refine lv_iload_n hx hb dX12_door_42 rfl (lv_at hl 0 rfl) ?_
        refine ez_ial hC hS h dX12_door_43 (fun t_43 h => ?_)
        refine lv_goto (tgt := 62) hx hb dX12_door_44 (by decide) ?_
        exact K_62  t_43 _ _ _ hS h (lv_sub hl [] rfl)
    · replace h := ez_ifp h c_21
      refine lv_aload_n hx hb dX12_door_24 rfl (lv_at hl 1 rfl) ?_
      refine eg_RX12_60 hC hS h dX12_door_25 (fun t_25 h => ?_)
      refine lv_iload_n hx hb dX12_door_28 rfl (lv_at hl 0 rfl) ?_
      refine ez_ial hC hS h dX12_door_29 (fun t_29 h => ?_)
      refine lv_goto (tgt := 62) hx hb dX12_door_30 (by decide) ?_
      exact K_62  t_29 _ _ _ hS h (lv_sub hl [] rfl)
  · replace h := ez_ifp h c_5
    refine lv_iconst (v := -1) hx hb dX12_door_8 (by decide) ?_
    exact hret _ _ _ _ _ (Option.some.inj h) rfl hS dX12_door_9
set_option maxHeartbeats 4000000 in
set_option maxRecDepth 100000 in
theorem c_X12_end {l : Launch} {X : ez_X} {B : Nat} {σ : ez_H} {h0 : Nat} {x1 : Int32} {z : Int32 × ez_H} (h : z_X12_end σ h0 x1 = some z) : ez_M l X B σ yX12_end cX12_end 2 (some .int) 0 [.ref (B + h0), .int x1] (some (.int z.1)) z.2 := by
  refine ez_starti (z := z) (by decide) (Nat.le_of_ble_eq_true rfl) (fun p e R s m args below meth c Q hC hret hS ls hl => ?_)
  have hC : ez_C p R s m args c X B RX12 cX12_end 2 0 := hC
  have hx := hC.1.1
  have hb := hC.1.2.1
  have hown := hC.1.2.2.2.1
  have hts := hC.1.2.2.2.2
  have hl : lv_has ls 2 [(0, .ref (B + h0)), (1, .int x1)] := hl
  obtain ⟨σ0, eσ⟩ : ∃ σ0 : ez_H, σ0 = σ := ⟨_, rfl⟩
  rw [← eσ] at hret
  have hS : ez_S X B s.heap σ0.length σ s.heap [] := eσ ▸ hS
  obtain ⟨-, h⟩ := ez_in h
  have K_12 : ∀ (σ : ez_H) (H : Heap) (locs : List Loc) (ls : Array Slot), ez_S X B s.heap (σ0.length) σ H locs → z_X12_end_12 σ = some z → lv_has ls 2 [] → W p l e R s m args below meth c H locs 0 0 Q (F0 m 12 ls []) := by
    intro σ H locs ls hS h hl
    refine lv_iconst (v := -1) hx hb dX12_end_12 (by decide) ?_
    exact hret _ _ _ _ _ _ (Option.some.inj h) rfl hS dX12_end_13
  refine lv_iload_n hx hb dX12_end_0 rfl (lv_at hl 1 rfl) ?_
  refine lv_if_lt (tgt := 12) hx hb dX12_end_1 (by decide) (fun c_1 => ?_) (fun c_1 => ?_)
  · replace h := ez_ifp h c_1
    exact K_12  σ _ _ _ hS h (lv_sub hl [] rfl)
  · replace h := ez_ifn h c_1
    refine lv_iload_n hx hb dX12_end_4 rfl (lv_at hl 1 rfl) ?_
    refine lv_aload_n hx hb dX12_end_5 rfl (lv_at hl 0 rfl) ?_
    refine eg_RX12_271 hC hS h dX12_end_6 (fun t_6 h => ?_)
    refine lv_icmp_le (tgt := 14) hx hb dX12_end_9 (by decide) (fun c_9 => ?_) (fun c_9 => ?_)
    · replace h := ez_ifp h c_9
      refine lv_aload_n hx hb dX12_end_14 rfl (lv_at hl 0 rfl) ?_
      refine lv_iload_n hx hb dX12_end_15 rfl (lv_at hl 1 rfl) ?_
      refine ep_RX12_271 hC hS h dX12_end_16 (fun σ H locs hS h => ?_)
      refine lv_iload_n hx hb dX12_end_19 rfl (lv_at hl 1 rfl) ?_
      exact hret _ _ _ _ _ _ (Option.some.inj h) rfl hS dX12_end_20
    · replace h := ez_ifn h c_9
      exact K_12  σ _ _ _ hS h (lv_sub hl [] rfl)
set_option maxHeartbeats 4000000 in
set_option maxRecDepth 100000 in
theorem c_X12_fault {l : Launch} {X : ez_X} {B : Nat} {σ : ez_H} {h0 : Nat} {x1 : Int32} {z : Int32} (h : z_X12_fault σ h0 x1 = some z) : ez_M l X B σ yX12_fault cX12_fault 2 (some .int) 0 [.ref (B + h0), .int x1] (some (.int z)) σ := by
  refine ez_startip (z := z) (by decide) (Nat.le_of_ble_eq_true rfl) (fun p e R s m args below meth c Q hC hret hS ls hl => ?_)
  have hC : ez_C p R s m args c X B RX12 cX12_fault 2 0 := hC
  have hx := hC.1.1
  have hb := hC.1.2.1
  have hown := hC.1.2.2.2.1
  have hts := hC.1.2.2.2.2
  have hl : lv_has ls 2 [(0, .ref (B + h0)), (1, .int x1)] := hl
  obtain ⟨n0, e0⟩ : ∃ n0 : Nat, n0 = σ.length := ⟨_, rfl⟩
  rw [← e0] at hret hS
  obtain ⟨-, h⟩ := ez_in h
  have K_24 : ∀ (y0 : Int32) (H : Heap) (locs : List Loc) (ls : Array Slot), ez_S X B s.heap (n0) σ H locs → z_X12_fault_24 σ y0 = some z → lv_has ls 2 [] → W p l e R s m args below meth c H locs 0 0 Q (F0 m 24 ls [.int y0]) := by
    intro y0 H locs ls hS h hl
    exact hret _ _ _ _ _ (Option.some.inj h) rfl hS dX12_fault_24
  refine lv_iload_n hx hb dX12_fault_0 rfl (lv_at hl 1 rfl) ?_
  refine lv_if_ne (tgt := 11) hx hb dX12_fault_1 (by decide) (fun c_1 => ?_) (fun c_1 => ?_)
  · replace h := ez_ifn h c_1
    refine lv_iload_n hx hb dX12_fault_11 rfl (lv_at hl 1 rfl) ?_
    refine lv_iconst (v := 1) hx hb dX12_fault_12 (by decide) ?_
    refine lv_icmp_ne (tgt := 23) hx hb dX12_fault_13 (by decide) (fun c_13 => ?_) (fun c_13 => ?_)
    · replace h := ez_ifn h c_13
      refine lv_iconst (v := -1) hx hb dX12_fault_23 (by decide) ?_
      exact K_24  (-1 : Int32) _ _ _ hS h (lv_sub hl [] rfl)
    · replace h := ez_ifp h c_13
      refine lv_aload_n hx hb dX12_fault_16 rfl (lv_at hl 0 rfl) ?_
      refine eg_RX12_16 hC hS h dX12_fault_17 (fun t_17 h => ?_)
      refine lv_goto (tgt := 24) hx hb dX12_fault_20 (by decide) ?_
      exact K_24  t_17 _ _ _ hS h (lv_sub hl [] rfl)
  · replace h := ez_ifp h c_1
    refine lv_aload_n hx hb dX12_fault_4 rfl (lv_at hl 0 rfl) ?_
    refine eg_RX12_164 hC hS h dX12_fault_5 (fun t_5 h => ?_)
    refine lv_goto (tgt := 24) hx hb dX12_fault_8 (by decide) ?_
    exact K_24  t_5 _ _ _ hS h (lv_sub hl [] rfl)
set_option maxHeartbeats 4000000 in
set_option maxRecDepth 100000 in
theorem c_X12_feed {l : Launch} {X : ez_X} {B : Nat} {σ : ez_H} {h0 : Nat} {x1 : Int32} {x2 : Int32} {x3 : Int32} {x4 : Int32} {x5 : Int32} {z : Int32 × ez_H} (h : z_X12_feed σ h0 x1 x2 x3 x4 x5 = some z) : ez_M l X B σ yX12_feed cX12_feed 8 (some .int) 0 [.ref (B + h0), .int x1, .int x2, .int x3, .int x4, .int x5] (some (.int z.1)) z.2 := by
  refine ez_starti (z := z) (by decide) (Nat.le_of_ble_eq_true rfl) (fun p e R s m args below meth c Q hC hret hS ls hl => ?_)
  have hC : ez_C p R s m args c X B RX12 cX12_feed 8 0 := hC
  have hx := hC.1.1
  have hb := hC.1.2.1
  have hown := hC.1.2.2.2.1
  have hts := hC.1.2.2.2.2
  have hl : lv_has ls 8 [(0, .ref (B + h0)), (1, .int x1), (2, .int x2), (3, .int x3), (4, .int x4), (5, .int x5)] := hl
  obtain ⟨σ0, eσ⟩ : ∃ σ0 : ez_H, σ0 = σ := ⟨_, rfl⟩
  rw [← eσ] at hret
  have hS : ez_S X B s.heap σ0.length σ s.heap [] := eσ ▸ hS
  obtain ⟨-, h⟩ := ez_in h
  have K_71 : ∀ (k_18 : ez_H → Nat → Int32 → Int32 → Int32 → Int32 → Int32 → Int32 → Option (Int32 × ez_H)) (hk_18 : ∀ (σ : ez_H) (h0 : Nat) (x1 : Int32) (x2 : Int32) (x3 : Int32) (x4 : Int32) (x5 : Int32) (x6 : Int32) (H : Heap) (locs : List Loc) (ls : Array Slot), ez_S X B s.heap (σ0.length) σ H locs → k_18 σ h0 x1 x2 x3 x4 x5 x6 = some z → lv_has ls 8 [(0, .ref (B + h0)), (1, .int x1), (2, .int x2), (3, .int x3), (4, .int x4), (5, .int x5), (6, .int x6)] → W p l e R s m args below meth c H locs 0 0 Q (F0 m 18 ls [])), ∀ (σ : ez_H) (h0 : Nat) (x1 : Int32) (x2 : Int32) (x3 : Int32) (x4 : Int32) (x5 : Int32) (x6 : Int32) (y0 : Int32) (H : Heap) (locs : List Loc) (ls : Array Slot), ez_S X B s.heap (σ0.length) σ H locs → z_X12_feed_71 k_18 σ h0 x1 x2 x3 x4 x5 x6 y0 = some z → lv_has ls 8 [(0, .ref (B + h0)), (1, .int x1), (2, .int x2), (3, .int x3), (4, .int x4), (5, .int x5), (6, .int x6)] → W p l e R s m args below meth c H locs 0 0 Q (F0 m 71 ls [.int y0]) := by
    intro k_18 hk_18 σ h0 x1 x2 x3 x4 x5 x6 y0 H locs ls hS h hl
    refine lv_istore (lv' := [(7, .int y0), (0, .ref (B + h0)), (1, .int x1), (2, .int x2), (3, .int x3), (4, .int x4), (5, .int x5), (6, .int x6)]) hx hb dX12_feed_71 hl (by decide) rfl (fun ls hl => ?_)
    refine lv_aload_n hx hb dX12_feed_73 rfl (lv_at hl 1 rfl) ?_
    refine eg_RX12_7 hC hS h dX12_feed_74 (fun t_74 h => ?_)
    refine lv_aload_n hx hb dX12_feed_77 rfl (lv_at hl 1 rfl) ?_
    refine eg_RX12_271 hC hS h dX12_feed_78 (fun t_78 h => ?_)
    refine lv_iload hx hb dX12_feed_81 (lv_at hl 7 rfl) ?_
    refine lv_iadd hx hb dX12_feed_83 ?_
    refine ez_top h (fun t_83 h => ?_)
    refine lv_iload hx hb dX12_feed_84 (lv_at hl 0 rfl) ?_
    refine lv_bipush (v := 24) hx hb dX12_feed_86 (by decide) ?_
    refine lv_bipush (v := 8) hx hb dX12_feed_88 (by decide) ?_
    refine lv_iload hx hb dX12_feed_90 (lv_at hl 7 rfl) ?_
    refine lv_iconst (v := 3) hx hb dX12_feed_92 (by decide) ?_
    refine lv_iand hx hb dX12_feed_93 ?_
    refine ez_top h (fun t_93 h => ?_)
    refine lv_imul hx hb dX12_feed_94 ?_
    refine ez_top h (fun t_94 h => ?_)
    refine lv_isub hx hb dX12_feed_95 ?_
    refine ez_top h (fun t_95 h => ?_)
    refine lv_ishr hx hb dX12_feed_96 ?_
    refine ez_top h (fun t_96 h => ?_)
    refine lv_i2b hx hb dX12_feed_97 rfl ?_
    refine ez_top h (fun t_97 h => ?_)
    refine ez_bas hC hS h dX12_feed_98 (fun σ H locs hS h => ?_)
    obtain ⟨t_99, e_99, h⟩ := ez_let_sp h
    refine lv_iinc (v := t_99) (lv' := [(6, .int t_99), (7, .int y0), (0, .ref (B + h0)), (1, .int x1), (2, .int x2), (3, .int x3), (4, .int x4), (5, .int x5)]) hx hb dX12_feed_99 hl (k := 7) rfl (by rw [e_99]; rfl) (by decide) rfl (fun ls hl => ?_)
    refine lv_goto (tgt := 18) hx hb dX12_feed_102 (by decide) ?_
    exact hk_18 σ h0 x1 x2 x3 x4 x5 t_99 _ _ _ hS h (lv_sub hl [2, 3, 4, 5, 6, 7, 0] rfl)
  have K_18 : ∀ (k_18 : ez_H → Nat → Int32 → Int32 → Int32 → Int32 → Int32 → Int32 → Option (Int32 × ez_H)) (hk_18 : ∀ (σ : ez_H) (h0 : Nat) (x1 : Int32) (x2 : Int32) (x3 : Int32) (x4 : Int32) (x5 : Int32) (x6 : Int32) (H : Heap) (locs : List Loc) (ls : Array Slot), ez_S X B s.heap (σ0.length) σ H locs → k_18 σ h0 x1 x2 x3 x4 x5 x6 = some z → lv_has ls 8 [(0, .ref (B + h0)), (1, .int x1), (2, .int x2), (3, .int x3), (4, .int x4), (5, .int x5), (6, .int x6)] → W p l e R s m args below meth c H locs 0 0 Q (F0 m 18 ls [])), ∀ (σ : ez_H) (h0 : Nat) (x1 : Int32) (x2 : Int32) (x3 : Int32) (x4 : Int32) (x5 : Int32) (x6 : Int32) (H : Heap) (locs : List Loc) (ls : Array Slot), ez_S X B s.heap (σ0.length) σ H locs → z_X12_feed_18 k_18 σ h0 x1 x2 x3 x4 x5 x6 = some z → lv_has ls 8 [(0, .ref (B + h0)), (1, .int x1), (2, .int x2), (3, .int x3), (4, .int x4), (5, .int x5), (6, .int x6)] → W p l e R s m args below meth c H locs 0 0 Q (F0 m 18 ls []) := by
    intro k_18 hk_18 σ h0 x1 x2 x3 x4 x5 x6 H locs ls hS h hl
    refine lv_iload hx hb dX12_feed_18 (lv_at hl 6 rfl) ?_
    refine lv_bipush (v := 20) hx hb dX12_feed_20 (by decide) ?_
    refine lv_icmp_ge (tgt := 105) hx hb dX12_feed_22 (by decide) (fun c_22 => ?_) (fun c_22 => ?_)
    · replace h := ez_ifp h c_22
      refine lv_aload_n hx hb dX12_feed_105 rfl (lv_at hl 0 rfl) ?_
      refine lv_dup hx hb dX12_feed_106 rfl ?_
      refine eg_RX12_271 hC hS h dX12_feed_107 (fun t_107 h => ?_)
      refine lv_bipush (v := 20) hx hb dX12_feed_110 (by decide) ?_
      refine lv_iadd hx hb dX12_feed_112 ?_
      refine ez_top h (fun t_112 h => ?_)
      refine ep_RX12_271 hC hS h dX12_feed_113 (fun σ H locs hS h => ?_)
      refine lv_aload_n hx hb dX12_feed_116 rfl (lv_at hl 0 rfl) ?_
      refine eg_RX12_271 hC hS h dX12_feed_117 (fun t_117 h => ?_)
      exact hret _ _ _ _ _ _ (Option.some.inj h) rfl hS dX12_feed_120
    · replace h := ez_ifn h c_22
      refine lv_iload hx hb dX12_feed_25 (lv_at hl 6 rfl) ?_
      refine lv_iconst (v := 4) hx hb dX12_feed_27 (by decide) ?_
      refine lv_icmp_ge (tgt := 35) hx hb dX12_feed_28 (by decide) (fun c_28 => ?_) (fun c_28 => ?_)
      · replace h := ez_ifp h c_28
        refine lv_iload hx hb dX12_feed_35 (lv_at hl 6 rfl) ?_
        refine lv_bipush (v := 8) hx hb dX12_feed_37 (by decide) ?_
        refine lv_icmp_ge (tgt := 46) hx hb dX12_feed_39 (by decide) (fun c_39 => ?_) (fun c_39 => ?_)
        · replace h := ez_ifp h c_39
          refine lv_iload hx hb dX12_feed_46 (lv_at hl 6 rfl) ?_
          refine lv_bipush (v := 12) hx hb dX12_feed_48 (by decide) ?_
          refine lv_icmp_ge (tgt := 57) hx hb dX12_feed_50 (by decide) (fun c_50 => ?_) (fun c_50 => ?_)
          · replace h := ez_ifp h c_50
            refine lv_iload hx hb dX12_feed_57 (lv_at hl 6 rfl) ?_
            refine lv_bipush (v := 16) hx hb dX12_feed_59 (by decide) ?_
            refine lv_icmp_ge (tgt := 69) hx hb dX12_feed_61 (by decide) (fun c_61 => ?_) (fun c_61 => ?_)
            · replace h := ez_ifp h c_61
              refine lv_iload hx hb dX12_feed_69 (lv_at hl 5 rfl) ?_
              exact K_71 k_18 hk_18 σ h0 x1 x2 x3 x4 x5 x6 x5 _ _ _ hS h (lv_sub hl [0, 1, 2, 3, 4, 5, 6] rfl)
            · replace h := ez_ifn h c_61
              refine lv_iload hx hb dX12_feed_64 (lv_at hl 4 rfl) ?_
              refine lv_goto (tgt := 71) hx hb dX12_feed_66 (by decide) ?_
              exact K_71 k_18 hk_18 σ h0 x1 x2 x3 x4 x5 x6 x4 _ _ _ hS h (lv_sub hl [0, 1, 2, 3, 4, 5, 6] rfl)
          · replace h := ez_ifn h c_50
            refine lv_iload_n hx hb dX12_feed_53 rfl (lv_at hl 3 rfl) ?_
            refine lv_goto (tgt := 71) hx hb dX12_feed_54 (by decide) ?_
            exact K_71 k_18 hk_18 σ h0 x1 x2 x3 x4 x5 x6 x3 _ _ _ hS h (lv_sub hl [0, 1, 2, 3, 4, 5, 6] rfl)
        · replace h := ez_ifn h c_39
          refine lv_iload_n hx hb dX12_feed_42 rfl (lv_at hl 2 rfl) ?_
          refine lv_goto (tgt := 71) hx hb dX12_feed_43 (by decide) ?_
          exact K_71 k_18 hk_18 σ h0 x1 x2 x3 x4 x5 x6 x2 _ _ _ hS h (lv_sub hl [0, 1, 2, 3, 4, 5, 6] rfl)
      · replace h := ez_ifn h c_28
        refine lv_iload_n hx hb dX12_feed_31 rfl (lv_at hl 1 rfl) ?_
        refine lv_goto (tgt := 71) hx hb dX12_feed_32 (by decide) ?_
        exact K_71 k_18 hk_18 σ h0 x1 x2 x3 x4 x5 x6 x1 _ _ _ hS h (lv_sub hl [0, 1, 2, 3, 4, 5, 6] rfl)
  have E_18 : ∀ (σ : ez_H) (h0 : Nat) (x1 : Int32) (x2 : Int32) (x3 : Int32) (x4 : Int32) (x5 : Int32) (x6 : Int32) (H : Heap) (locs : List Loc) (ls : Array Slot), ez_S X B s.heap (σ0.length) σ H locs → (ez_fix (fun _ _ _ _ _ _ _ _ => none) (z_X12_feed_18) ez_N) σ h0 x1 x2 x3 x4 x5 x6 = some z → lv_has ls 8 [(0, .ref (B + h0)), (1, .int x1), (2, .int x2), (3, .int x3), (4, .int x4), (5, .int x5), (6, .int x6)] → W p l e R s m args below meth c H locs 0 0 Q (F0 m 18 ls []) := ez_fix_ind (fun k_18 : ez_H → Nat → Int32 → Int32 → Int32 → Int32 → Int32 → Int32 → Option (Int32 × ez_H) => ∀ (σ : ez_H) (h0 : Nat) (x1 : Int32) (x2 : Int32) (x3 : Int32) (x4 : Int32) (x5 : Int32) (x6 : Int32) (H : Heap) (locs : List Loc) (ls : Array Slot), ez_S X B s.heap (σ0.length) σ H locs → k_18 σ h0 x1 x2 x3 x4 x5 x6 = some z → lv_has ls 8 [(0, .ref (B + h0)), (1, .int x1), (2, .int x2), (3, .int x3), (4, .int x4), (5, .int x5), (6, .int x6)] → W p l e R s m args below meth c H locs 0 0 Q (F0 m 18 ls [])) (fun _ _ _ _ _ _ _ _ _ _ _ _ h _ => by cases h) (fun k_18 hk_18 => K_18 k_18 hk_18) ez_N
  refine lv_aload_n hx hb dX12_feed_0 rfl (lv_at hl 0 rfl) ?_
  refine eg_RX12_271 hC hS h dX12_feed_1 (fun t_1 h => ?_)
  refine lv_bipush (v := 20) hx hb dX12_feed_4 (by decide) ?_
  refine lv_iadd hx hb dX12_feed_6 ?_
  refine ez_top h (fun t_6 h => ?_)
  refine lv_sipush (v := 1600) hx hb dX12_feed_7 (by decide) ?_
  refine lv_icmp_le (tgt := 15) hx hb dX12_feed_10 (by decide) (fun c_10 => ?_) (fun c_10 => ?_)
  · replace h := ez_ifp h c_10
    refine lv_iconst (v := 0) hx hb dX12_feed_15 (by decide) ?_
    refine lv_istore (lv' := [(6, .int 0), (0, .ref (B + h0)), (1, .int x1), (2, .int x2), (3, .int x3), (4, .int x4), (5, .int x5)]) hx hb dX12_feed_16 hl (by decide) rfl (fun ls hl => ?_)
    exact E_18  σ h0 x1 x2 x3 x4 x5 (0 : Int32) _ _ _ hS h (lv_sub hl [1, 2, 3, 4, 5, 6, 0] rfl)
  · replace h := ez_ifn h c_10
    refine lv_iconst (v := -1) hx hb dX12_feed_13 (by decide) ?_
    exact hret _ _ _ _ _ _ (Option.some.inj h) rfl hS dX12_feed_14
set_option maxHeartbeats 4000000 in
set_option maxRecDepth 100000 in
theorem c_X12_deepen {l : Launch} {X : ez_X} {B : Nat} {σ : ez_H} {h0 : Nat} {x1 : Int32} {x2 : Int32} {z : Int32 × ez_H} (h : z_X12_deepen σ h0 x1 x2 = some z) : ez_M l X B σ yX12_deepen cX12_deepen 3 (some .boolean) 3 [.ref (B + h0), .int x1, .int x2] (some (.int z.1)) z.2 := by
  refine ez_starti (z := z) (by decide) (Nat.le_of_ble_eq_true rfl) (fun p e R s m args below meth c Q hC hret hS ls hl => ?_)
  have hC : ez_C p R s m args c X B RX12 cX12_deepen 3 3 := hC
  have hx := hC.1.1
  have hb := hC.1.2.1
  have hown := hC.1.2.2.2.1
  have hts := hC.1.2.2.2.2
  have hl : lv_has ls 3 [(0, .ref (B + h0)), (1, .int x1), (2, .int x2)] := hl
  obtain ⟨σ0, eσ⟩ : ∃ σ0 : ez_H, σ0 = σ := ⟨_, rfl⟩
  rw [← eσ] at hret
  have hS : ez_S X B s.heap σ0.length σ s.heap [] := eσ ▸ hS
  obtain ⟨-, h⟩ := ez_in h
  refine lv_aload_n hx hb dX12_deepen_0 rfl (lv_at hl 0 rfl) ?_
  refine lv_iload_n hx hb dX12_deepen_1 rfl (lv_at hl 1 rfl) ?_
  refine lv_iload_n hx hb dX12_deepen_2 rfl (lv_at hl 2 rfl) ?_
  refine ez_cVpi (As := [.int x1, .int x2]) (rest := []) h (fun _ q => c_X12_cutOf q) hC k_X12_cutOf ql_RX12_444 rfl (by decide) hS (fun _ q => ez_rcv q) rfl hl.1 rfl (Nat.le_of_ble_eq_true rfl) ⟨Nat.zero_le _, Nat.zero_le _⟩ dX12_deepen_3 (fun t_3 H locs hS h => ?_)
  refine lv_aload_n hx hb dX12_deepen_6 rfl (lv_at hl 0 rfl) ?_
  refine ez_cVpi (As := []) (rest := [.int t_3]) h (fun _ q => c_X12_deep q) hC k_X12_deep ql_RX12_429 rfl (by decide) hS (fun _ q => ez_rcv q) rfl hl.1 rfl (Nat.le_of_ble_eq_true rfl) ⟨Nat.zero_le _, Nat.zero_le _⟩ dX12_deepen_7 (fun t_7 H locs hS h => ?_)
  refine lv_iconst (v := 1) hx hb dX12_deepen_10 (by decide) ?_
  refine lv_isub hx hb dX12_deepen_11 ?_
  refine ez_top h (fun t_11 h => ?_)
  refine lv_icmp_ne (tgt := 17) hx hb dX12_deepen_12 (by decide) (fun c_12 => ?_) (fun c_12 => ?_)
  · replace h := ez_ifn h c_12
    refine lv_aload_n hx hb dX12_deepen_17 rfl (lv_at hl 0 rfl) ?_
    refine eg_RX12_118 hC hS h dX12_deepen_18 (fun t_18 h => ?_)
    refine lv_iconst (v := 0) hx hb dX12_deepen_21 (by decide) ?_
    refine lv_iconst (v := 5) hx hb dX12_deepen_22 (by decide) ?_
    refine lv_iload_n hx hb dX12_deepen_23 rfl (lv_at hl 1 rfl) ?_
    refine lv_imul hx hb dX12_deepen_24 ?_
    refine ez_top h (fun t_24 h => ?_)
    refine lv_iadd hx hb dX12_deepen_25 ?_
    refine ez_top h (fun t_25 h => ?_)
    refine lv_iload_n hx hb dX12_deepen_26 rfl (lv_at hl 2 rfl) ?_
    refine lv_iadd hx hb dX12_deepen_27 ?_
    refine ez_top h (fun t_27 h => ?_)
    refine lv_dup2_11 hx hb dX12_deepen_28 rfl rfl ?_
    refine ez_ial hC hS h dX12_deepen_29 (fun t_29 h => ?_)
    refine lv_iconst (v := 1) hx hb dX12_deepen_30 (by decide) ?_
    refine lv_iadd hx hb dX12_deepen_31 ?_
    refine ez_top h (fun t_31 h => ?_)
    refine ez_ias hC hS h dX12_deepen_32 (fun σ H locs hS h => ?_)
    refine lv_aload_n hx hb dX12_deepen_33 rfl (lv_at hl 0 rfl) ?_
    refine lv_aload_n hx hb dX12_deepen_34 rfl (lv_at hl 0 rfl) ?_
    refine lv_iload_n hx hb dX12_deepen_35 rfl (lv_at hl 1 rfl) ?_
    refine ez_cVpi (As := [.int x1]) (rest := [.ref (B + h0)]) h (fun _ q => c_X12_numberOf q) hC k_X12_numberOf ql_RX12_450 rfl (by decide) hS (fun _ q => ez_rcv q) rfl hl.1 rfl (Nat.le_of_ble_eq_true rfl) ⟨Nat.zero_le _, Nat.zero_le _⟩ dX12_deepen_36 (fun t_36 H locs hS h => ?_)
    refine ez_cVpi (As := [.int t_36]) (rest := []) h (fun _ q => c_X12_isLegal q) hC k_X12_isLegal ql_RX12_456 rfl (by decide) hS (fun _ q => ez_rcv q) rfl hl.1 rfl (Nat.le_of_ble_eq_true rfl) ⟨Nat.zero_le _, Nat.zero_le _⟩ dX12_deepen_39 (fun t_39 H locs hS h => ?_)
    refine lv_if_eq (tgt := 47) hx hb dX12_deepen_42 (by decide) (fun c_42 => ?_) (fun c_42 => ?_)
    · replace h := ez_ifp h c_42
      refine lv_aload_n hx hb dX12_deepen_47 rfl (lv_at hl 0 rfl) ?_
      refine eg_RX12_118 hC hS h dX12_deepen_48 (fun t_48 h => ?_)
      refine lv_iconst (v := 0) hx hb dX12_deepen_51 (by decide) ?_
      refine lv_iconst (v := 5) hx hb dX12_deepen_52 (by decide) ?_
      refine lv_iload_n hx hb dX12_deepen_53 rfl (lv_at hl 1 rfl) ?_
      refine lv_imul hx hb dX12_deepen_54 ?_
      refine ez_top h (fun t_54 h => ?_)
      refine lv_iadd hx hb dX12_deepen_55 ?_
      refine ez_top h (fun t_55 h => ?_)
      refine lv_iload_n hx hb dX12_deepen_56 rfl (lv_at hl 2 rfl) ?_
      refine lv_iadd hx hb dX12_deepen_57 ?_
      refine ez_top h (fun t_57 h => ?_)
      refine lv_dup2_11 hx hb dX12_deepen_58 rfl rfl ?_
      refine ez_ial hC hS h dX12_deepen_59 (fun t_59 h => ?_)
      refine lv_iconst (v := 1) hx hb dX12_deepen_60 (by decide) ?_
      refine lv_isub hx hb dX12_deepen_61 ?_
      refine ez_top h (fun t_61 h => ?_)
      refine ez_ias hC hS h dX12_deepen_62 (fun σ H locs hS h => ?_)
      refine lv_iconst (v := 0) hx hb dX12_deepen_63 (by decide) ?_
      have hn : narrow .boolean (.int 0) = .int 0 := by decide
      exact hret _ _ _ _ _ _ (Option.some.inj h) hn hS dX12_deepen_64
    · replace h := ez_ifn h c_42
      refine lv_iconst (v := 1) hx hb dX12_deepen_45 (by decide) ?_
      have hn : narrow .boolean (.int 1) = .int 1 := by decide
      exact hret _ _ _ _ _ _ (Option.some.inj h) hn hS dX12_deepen_46
  · replace h := ez_ifp h c_12
    refine lv_iconst (v := 0) hx hb dX12_deepen_15 (by decide) ?_
    have hn : narrow .boolean (.int 0) = .int 0 := by decide
    exact hret _ _ _ _ _ _ (Option.some.inj h) hn hS dX12_deepen_16
set_option maxHeartbeats 4000000 in
set_option maxRecDepth 100000 in
theorem c_X12_keepAct {l : Launch} {X : ez_X} {B : Nat} {σ : ez_H} {h0 : Nat} {z : Unit × ez_H} (h : z_X12_keepAct σ h0 = some z) : ez_M l X B σ yX12_keepAct cX12_keepAct 2 (none) 0 [.ref (B + h0)] (none) z.2 := by
  refine ez_startv (z := z) (by decide) (Nat.le_of_ble_eq_true rfl) (fun p e R s m args below meth c Q hC hret hS ls hl => ?_)
  have hC : ez_C p R s m args c X B RX12 cX12_keepAct 2 0 := hC
  have hx := hC.1.1
  have hb := hC.1.2.1
  have hown := hC.1.2.2.2.1
  have hts := hC.1.2.2.2.2
  have hl : lv_has ls 2 [(0, .ref (B + h0))] := hl
  obtain ⟨σ0, eσ⟩ : ∃ σ0 : ez_H, σ0 = σ := ⟨_, rfl⟩
  rw [← eσ] at hret
  have hS : ez_S X B s.heap σ0.length σ s.heap [] := eσ ▸ hS
  obtain ⟨-, h⟩ := ez_in h
  have K_51 : ∀ (k_51 : ez_H → Nat → Int32 → Option (Unit × ez_H)) (hk_51 : ∀ (σ : ez_H) (h0 : Nat) (x1 : Int32) (H : Heap) (locs : List Loc) (ls : Array Slot), ez_S X B s.heap (σ0.length) σ H locs → k_51 σ h0 x1 = some z → lv_has ls 2 [(0, .ref (B + h0)), (1, .int x1)] → W p l e R s m args below meth c H locs 0 0 Q (F0 m 51 ls [])), ∀ (σ : ez_H) (h0 : Nat) (x1 : Int32) (H : Heap) (locs : List Loc) (ls : Array Slot), ez_S X B s.heap (σ0.length) σ H locs → z_X12_keepAct_51 k_51 σ h0 x1 = some z → lv_has ls 2 [(0, .ref (B + h0)), (1, .int x1)] → W p l e R s m args below meth c H locs 0 0 Q (F0 m 51 ls []) := by
    intro k_51 hk_51 σ h0 x1 H locs ls hS h hl
    refine lv_iload_n hx hb dX12_keepAct_51 rfl (lv_at hl 1 rfl) ?_
    refine lv_bipush (v := 91) hx hb dX12_keepAct_52 (by decide) ?_
    refine lv_icmp_ge (tgt := 83) hx hb dX12_keepAct_54 (by decide) (fun c_54 => ?_) (fun c_54 => ?_)
    · replace h := ez_ifp h c_54
      refine lv_aload_n hx hb dX12_keepAct_83 rfl (lv_at hl 0 rfl) ?_
      refine lv_dup hx hb dX12_keepAct_84 rfl ?_
      refine eg_RX12_417 hC hS h dX12_keepAct_85 (fun t_85 h => ?_)
      refine lv_iconst (v := 1) hx hb dX12_keepAct_88 (by decide) ?_
      refine lv_iadd hx hb dX12_keepAct_89 ?_
      refine ez_top h (fun t_89 h => ?_)
      refine ep_RX12_417 hC hS h dX12_keepAct_90 (fun σ H locs hS h => ?_)
      refine lv_aload_n hx hb dX12_keepAct_93 rfl (lv_at hl 0 rfl) ?_
      refine lv_iconst (v := 0) hx hb dX12_keepAct_94 (by decide) ?_
      refine ep_RX12_420 hC hS h dX12_keepAct_95 (fun σ H locs hS h => ?_)
      exact hret _ _ _ _ _ _ (Option.some.inj h) hS dX12_keepAct_98
    · replace h := ez_ifn h c_54
      refine lv_aload_n hx hb dX12_keepAct_57 rfl (lv_at hl 0 rfl) ?_
      refine eg_RX12_133 hC hS h dX12_keepAct_58 (fun t_58 h => ?_)
      refine lv_bipush (v := 91) hx hb dX12_keepAct_61 (by decide) ?_
      refine lv_aload_n hx hb dX12_keepAct_63 rfl (lv_at hl 0 rfl) ?_
      refine eg_RX12_417 hC hS h dX12_keepAct_64 (fun t_64 h => ?_)
      refine lv_imul hx hb dX12_keepAct_67 ?_
      refine ez_top h (fun t_67 h => ?_)
      refine lv_iload_n hx hb dX12_keepAct_68 rfl (lv_at hl 1 rfl) ?_
      refine lv_iadd hx hb dX12_keepAct_69 ?_
      refine ez_top h (fun t_69 h => ?_)
      refine lv_aload_n hx hb dX12_keepAct_70 rfl (lv_at hl 0 rfl) ?_
      refine eg_RX12_118 hC hS h dX12_keepAct_71 (fun t_71 h => ?_)
      refine lv_iload_n hx hb dX12_keepAct_74 rfl (lv_at hl 1 rfl) ?_
      refine ez_ial hC hS h dX12_keepAct_75 (fun t_75 h => ?_)
      refine ez_ias hC hS h dX12_keepAct_76 (fun σ H locs hS h => ?_)
      obtain ⟨t_77, e_77, h⟩ := ez_let_sp h
      refine lv_iinc (v := t_77) (lv' := [(1, .int t_77), (0, .ref (B + h0))]) hx hb dX12_keepAct_77 hl (k := 1) rfl (by rw [e_77]; rfl) (by decide) rfl (fun ls hl => ?_)
      refine lv_goto (tgt := 51) hx hb dX12_keepAct_80 (by decide) ?_
      exact hk_51 σ h0 t_77 _ _ _ hS h (lv_sub hl [1, 0] rfl)
  have E_51 : ∀ (σ : ez_H) (h0 : Nat) (x1 : Int32) (H : Heap) (locs : List Loc) (ls : Array Slot), ez_S X B s.heap (σ0.length) σ H locs → (ez_fix (fun _ _ _ => none) (z_X12_keepAct_51) ez_N) σ h0 x1 = some z → lv_has ls 2 [(0, .ref (B + h0)), (1, .int x1)] → W p l e R s m args below meth c H locs 0 0 Q (F0 m 51 ls []) := ez_fix_ind (fun k_51 : ez_H → Nat → Int32 → Option (Unit × ez_H) => ∀ (σ : ez_H) (h0 : Nat) (x1 : Int32) (H : Heap) (locs : List Loc) (ls : Array Slot), ez_S X B s.heap (σ0.length) σ H locs → k_51 σ h0 x1 = some z → lv_has ls 2 [(0, .ref (B + h0)), (1, .int x1)] → W p l e R s m args below meth c H locs 0 0 Q (F0 m 51 ls [])) (fun _ _ _ _ _ _ _ h _ => by cases h) (fun k_51 hk_51 => K_51 k_51 hk_51) ez_N
  have K_49 : ∀ (σ : ez_H) (h0 : Nat) (H : Heap) (locs : List Loc) (ls : Array Slot), ez_S X B s.heap (σ0.length) σ H locs → z_X12_keepAct_49 σ h0 = some z → lv_has ls 2 [(0, .ref (B + h0))] → W p l e R s m args below meth c H locs 0 0 Q (F0 m 49 ls []) := by
    intro σ h0 H locs ls hS h hl
    refine lv_iconst (v := 0) hx hb dX12_keepAct_49 (by decide) ?_
    refine lv_istore_n (lv' := [(1, .int 0), (0, .ref (B + h0))]) hx hb dX12_keepAct_50 rfl hl (by decide) rfl (fun ls hl => ?_)
    exact E_51  σ h0 (0 : Int32) _ _ _ hS h (lv_sub hl [1, 0] rfl)
  have K_11 : ∀ (k_11 : ez_H → Nat → Int32 → Option (Unit × ez_H)) (hk_11 : ∀ (σ : ez_H) (h0 : Nat) (x1 : Int32) (H : Heap) (locs : List Loc) (ls : Array Slot), ez_S X B s.heap (σ0.length) σ H locs → k_11 σ h0 x1 = some z → lv_has ls 2 [(0, .ref (B + h0)), (1, .int x1)] → W p l e R s m args below meth c H locs 0 0 Q (F0 m 11 ls [])), ∀ (σ : ez_H) (h0 : Nat) (x1 : Int32) (H : Heap) (locs : List Loc) (ls : Array Slot), ez_S X B s.heap (σ0.length) σ H locs → z_X12_keepAct_11 k_11 σ h0 x1 = some z → lv_has ls 2 [(0, .ref (B + h0)), (1, .int x1)] → W p l e R s m args below meth c H locs 0 0 Q (F0 m 11 ls []) := by
    intro k_11 hk_11 σ h0 x1 H locs ls hS h hl
    refine lv_iload_n hx hb dX12_keepAct_11 rfl (lv_at hl 1 rfl) ?_
    refine lv_sipush (v := 3640) hx hb dX12_keepAct_12 (by decide) ?_
    refine lv_icmp_ge (tgt := 39) hx hb dX12_keepAct_15 (by decide) (fun c_15 => ?_) (fun c_15 => ?_)
    · replace h := ez_ifp h c_15
      refine lv_aload_n hx hb dX12_keepAct_39 rfl (lv_at hl 0 rfl) ?_
      refine lv_dup hx hb dX12_keepAct_40 rfl ?_
      refine eg_RX12_417 hC hS h dX12_keepAct_41 (fun t_41 h => ?_)
      refine lv_iconst (v := 1) hx hb dX12_keepAct_44 (by decide) ?_
      refine lv_isub hx hb dX12_keepAct_45 ?_
      refine ez_top h (fun t_45 h => ?_)
      refine ep_RX12_417 hC hS h dX12_keepAct_46 (fun σ H locs hS h => ?_)
      exact K_49  σ h0 _ _ _ hS h (lv_sub hl [0] rfl)
    · replace h := ez_ifn h c_15
      refine lv_aload_n hx hb dX12_keepAct_18 rfl (lv_at hl 0 rfl) ?_
      refine eg_RX12_133 hC hS h dX12_keepAct_19 (fun t_19 h => ?_)
      refine lv_iload_n hx hb dX12_keepAct_22 rfl (lv_at hl 1 rfl) ?_
      refine lv_aload_n hx hb dX12_keepAct_23 rfl (lv_at hl 0 rfl) ?_
      refine eg_RX12_133 hC hS h dX12_keepAct_24 (fun t_24 h => ?_)
      refine lv_iload_n hx hb dX12_keepAct_27 rfl (lv_at hl 1 rfl) ?_
      refine lv_bipush (v := 91) hx hb dX12_keepAct_28 (by decide) ?_
      refine lv_iadd hx hb dX12_keepAct_30 ?_
      refine ez_top h (fun t_30 h => ?_)
      refine ez_ial hC hS h dX12_keepAct_31 (fun t_31 h => ?_)
      refine ez_ias hC hS h dX12_keepAct_32 (fun σ H locs hS h => ?_)
      obtain ⟨t_33, e_33, h⟩ := ez_let_sp h
      refine lv_iinc (v := t_33) (lv' := [(1, .int t_33), (0, .ref (B + h0))]) hx hb dX12_keepAct_33 hl (k := 1) rfl (by rw [e_33]; rfl) (by decide) rfl (fun ls hl => ?_)
      refine lv_goto (tgt := 11) hx hb dX12_keepAct_36 (by decide) ?_
      exact hk_11 σ h0 t_33 _ _ _ hS h (lv_sub hl [1, 0] rfl)
  have E_11 : ∀ (σ : ez_H) (h0 : Nat) (x1 : Int32) (H : Heap) (locs : List Loc) (ls : Array Slot), ez_S X B s.heap (σ0.length) σ H locs → (ez_fix (fun _ _ _ => none) (z_X12_keepAct_11) ez_N) σ h0 x1 = some z → lv_has ls 2 [(0, .ref (B + h0)), (1, .int x1)] → W p l e R s m args below meth c H locs 0 0 Q (F0 m 11 ls []) := ez_fix_ind (fun k_11 : ez_H → Nat → Int32 → Option (Unit × ez_H) => ∀ (σ : ez_H) (h0 : Nat) (x1 : Int32) (H : Heap) (locs : List Loc) (ls : Array Slot), ez_S X B s.heap (σ0.length) σ H locs → k_11 σ h0 x1 = some z → lv_has ls 2 [(0, .ref (B + h0)), (1, .int x1)] → W p l e R s m args below meth c H locs 0 0 Q (F0 m 11 ls [])) (fun _ _ _ _ _ _ _ h _ => by cases h) (fun k_11 hk_11 => K_11 k_11 hk_11) ez_N
  refine lv_aload_n hx hb dX12_keepAct_0 rfl (lv_at hl 0 rfl) ?_
  refine eg_RX12_417 hC hS h dX12_keepAct_1 (fun t_1 h => ?_)
  refine lv_bipush (v := 40) hx hb dX12_keepAct_4 (by decide) ?_
  refine lv_icmp_ne (tgt := 49) hx hb dX12_keepAct_6 (by decide) (fun c_6 => ?_) (fun c_6 => ?_)
  · replace h := ez_ifn h c_6
    exact K_49  σ h0 _ _ _ hS h (lv_sub hl [0] rfl)
  · replace h := ez_ifp h c_6
    refine lv_iconst (v := 0) hx hb dX12_keepAct_9 (by decide) ?_
    refine lv_istore_n (lv' := [(1, .int 0), (0, .ref (B + h0))]) hx hb dX12_keepAct_10 rfl hl (by decide) rfl (fun ls hl => ?_)
    exact E_11  σ h0 (0 : Int32) _ _ _ hS h (lv_sub hl [1, 0] rfl)
set_option maxHeartbeats 4000000 in
set_option maxRecDepth 100000 in
theorem c_X12_file {l : Launch} {X : ez_X} {B : Nat} {σ : ez_H} {h0 : Nat} {x1 : Int32} {x2 : Int32} {z : Int32 × ez_H} (h : z_X12_file σ h0 x1 x2 = some z) : ez_M l X B σ yX12_file cX12_file 3 (some .int) 4 [.ref (B + h0), .int x1, .int x2] (some (.int z.1)) z.2 := by
  refine ez_starti (z := z) (by decide) (Nat.le_of_ble_eq_true rfl) (fun p e R s m args below meth c Q hC hret hS ls hl => ?_)
  have hC : ez_C p R s m args c X B RX12 cX12_file 3 4 := hC
  have hx := hC.1.1
  have hb := hC.1.2.1
  have hown := hC.1.2.2.2.1
  have hts := hC.1.2.2.2.2
  have hl : lv_has ls 3 [(0, .ref (B + h0)), (1, .int x1), (2, .int x2)] := hl
  obtain ⟨σ0, eσ⟩ : ∃ σ0 : ez_H, σ0 = σ := ⟨_, rfl⟩
  rw [← eσ] at hret
  have hS : ez_S X B s.heap σ0.length σ s.heap [] := eσ ▸ hS
  obtain ⟨-, h⟩ := ez_in h
  have K_25 : ∀ (σ : ez_H) (H : Heap) (locs : List Loc) (ls : Array Slot), ez_S X B s.heap (σ0.length) σ H locs → z_X12_file_25 σ = some z → lv_has ls 3 [] → W p l e R s m args below meth c H locs 0 0 Q (F0 m 25 ls []) := by
    intro σ H locs ls hS h hl
    refine lv_iconst (v := -1) hx hb dX12_file_25 (by decide) ?_
    exact hret _ _ _ _ _ _ (Option.some.inj h) rfl hS dX12_file_26
  refine lv_aload_n hx hb dX12_file_0 rfl (lv_at hl 0 rfl) ?_
  refine lv_iload_n hx hb dX12_file_1 rfl (lv_at hl 1 rfl) ?_
  refine ez_cVpi (As := [.int x1]) (rest := []) h (fun _ q => c_X12_isKey q) hC k_X12_isKey ql_RX12_462 rfl (by decide) hS (fun _ q => ez_rcv q) rfl hl.1 rfl (Nat.le_of_ble_eq_true rfl) ⟨Nat.zero_le _, Nat.zero_le _⟩ dX12_file_2 (fun t_2 H locs hS h => ?_)
  refine lv_if_eq (tgt := 25) hx hb dX12_file_5 (by decide) (fun c_5 => ?_) (fun c_5 => ?_)
  · replace h := ez_ifp h c_5
    exact K_25  σ _ _ _ hS h (lv_sub hl [] rfl)
  · replace h := ez_ifn h c_5
    refine lv_aload_n hx hb dX12_file_8 rfl (lv_at hl 0 rfl) ?_
    refine lv_iload_n hx hb dX12_file_9 rfl (lv_at hl 2 rfl) ?_
    refine ez_cVpi (As := [.int x2]) (rest := []) h (fun _ q => c_X12_isChamber q) hC k_X12_isChamber ql_RX12_468 rfl (by decide) hS (fun _ q => ez_rcv q) rfl hl.1 rfl (Nat.le_of_ble_eq_true rfl) ⟨Nat.zero_le _, Nat.zero_le _⟩ dX12_file_10 (fun t_10 H locs hS h => ?_)
    refine lv_if_eq (tgt := 25) hx hb dX12_file_13 (by decide) (fun c_13 => ?_) (fun c_13 => ?_)
    · replace h := ez_ifp h c_13
      exact K_25  σ _ _ _ hS h (lv_sub hl [] rfl)
    · replace h := ez_ifn h c_13
      refine lv_aload_n hx hb dX12_file_16 rfl (lv_at hl 0 rfl) ?_
      refine lv_iload_n hx hb dX12_file_17 rfl (lv_at hl 1 rfl) ?_
      refine lv_iload_n hx hb dX12_file_18 rfl (lv_at hl 2 rfl) ?_
      refine ez_cVi (As := [.int x1, .int x2]) (rest := []) h (fun _ q => c_X12_deepen q) hC k_X12_deepen ql_RX12_593 rfl (by decide) hS (fun _ q => ez_rcv q) rfl hl.1 rfl (Nat.le_of_ble_eq_true rfl) ⟨Nat.zero_le _, Nat.zero_le _⟩ dX12_file_19 (fun t_19 σ H locs hS h => ?_)
      refine lv_if_ne (tgt := 27) hx hb dX12_file_22 (by decide) (fun c_22 => ?_) (fun c_22 => ?_)
      · replace h := ez_ifn h c_22
        refine lv_aload_n hx hb dX12_file_27 rfl (lv_at hl 0 rfl) ?_
        refine eg_RX12_118 hC hS h dX12_file_28 (fun t_28 h => ?_)
        refine lv_iconst (v := 0) hx hb dX12_file_31 (by decide) ?_
        refine lv_iconst (v := 5) hx hb dX12_file_32 (by decide) ?_
        refine lv_iload_n hx hb dX12_file_33 rfl (lv_at hl 1 rfl) ?_
        refine lv_imul hx hb dX12_file_34 ?_
        refine ez_top h (fun t_34 h => ?_)
        refine lv_iadd hx hb dX12_file_35 ?_
        refine ez_top h (fun t_35 h => ?_)
        refine lv_iload_n hx hb dX12_file_36 rfl (lv_at hl 2 rfl) ?_
        refine lv_iadd hx hb dX12_file_37 ?_
        refine ez_top h (fun t_37 h => ?_)
        refine lv_dup2_11 hx hb dX12_file_38 rfl rfl ?_
        refine ez_ial hC hS h dX12_file_39 (fun t_39 h => ?_)
        refine lv_iconst (v := 1) hx hb dX12_file_40 (by decide) ?_
        refine lv_isub hx hb dX12_file_41 ?_
        refine ez_top h (fun t_41 h => ?_)
        refine ez_ias hC hS h dX12_file_42 (fun σ H locs hS h => ?_)
        refine lv_aload_n hx hb dX12_file_43 rfl (lv_at hl 0 rfl) ?_
        refine ez_cVv (As := []) (rest := []) h (fun _ q => c_X12_keepAct q) hC k_X12_keepAct ql_RX12_600 rfl (by decide) hS (fun _ q => ez_rcv q) rfl hl.1 rfl (Nat.le_of_ble_eq_true rfl) ⟨Nat.zero_le _, Nat.zero_le _⟩ dX12_file_44 (fun _ σ H locs hS h => ?_)
        refine lv_aload_n hx hb dX12_file_47 rfl (lv_at hl 0 rfl) ?_
        refine eg_RX12_118 hC hS h dX12_file_48 (fun t_48 h => ?_)
        refine lv_iconst (v := 0) hx hb dX12_file_51 (by decide) ?_
        refine lv_iconst (v := 5) hx hb dX12_file_52 (by decide) ?_
        refine lv_iload_n hx hb dX12_file_53 rfl (lv_at hl 1 rfl) ?_
        refine lv_imul hx hb dX12_file_54 ?_
        refine ez_top h (fun t_54 h => ?_)
        refine lv_iadd hx hb dX12_file_55 ?_
        refine ez_top h (fun t_55 h => ?_)
        refine lv_iload_n hx hb dX12_file_56 rfl (lv_at hl 2 rfl) ?_
        refine lv_iadd hx hb dX12_file_57 ?_
        refine ez_top h (fun t_57 h => ?_)
        refine lv_dup2_11 hx hb dX12_file_58 rfl rfl ?_
        refine ez_ial hC hS h dX12_file_59 (fun t_59 h => ?_)
        refine lv_iconst (v := 1) hx hb dX12_file_60 (by decide) ?_
        refine lv_iadd hx hb dX12_file_61 ?_
        refine ez_top h (fun t_61 h => ?_)
        refine ez_ias hC hS h dX12_file_62 (fun σ H locs hS h => ?_)
        refine lv_aload_n hx hb dX12_file_63 rfl (lv_at hl 0 rfl) ?_
        refine lv_iload_n hx hb dX12_file_64 rfl (lv_at hl 1 rfl) ?_
        refine lv_iload_n hx hb dX12_file_65 rfl (lv_at hl 2 rfl) ?_
        refine ez_cVpi (As := [.int x1, .int x2]) (rest := []) h (fun _ q => c_X12_cutOf q) hC k_X12_cutOf ql_RX12_444 rfl (by decide) hS (fun _ q => ez_rcv q) rfl hl.1 rfl (Nat.le_of_ble_eq_true rfl) ⟨Nat.zero_le _, Nat.zero_le _⟩ dX12_file_66 (fun t_66 H locs hS h => ?_)
        exact hret _ _ _ _ _ _ (Option.some.inj h) rfl hS dX12_file_69
      · replace h := ez_ifp h c_22
        exact K_25  σ _ _ _ hS h (lv_sub hl [] rfl)
set_option maxHeartbeats 4000000 in
set_option maxRecDepth 100000 in
theorem c_X12_isLock {l : Launch} {X : ez_X} {B : Nat} {σ : ez_H} {h0 : Nat} {x1 : Int32} {z : Int32} (h : z_X12_isLock σ h0 x1 = some z) : ez_M l X B σ yX12_isLock cX12_isLock 2 (some .boolean) 1 [.ref (B + h0), .int x1] (some (.int z)) σ := by
  refine ez_startip (z := z) (by decide) (Nat.le_of_ble_eq_true rfl) (fun p e R s m args below meth c Q hC hret hS ls hl => ?_)
  have hC : ez_C p R s m args c X B RX12 cX12_isLock 2 1 := hC
  have hx := hC.1.1
  have hb := hC.1.2.1
  have hown := hC.1.2.2.2.1
  have hts := hC.1.2.2.2.2
  have hl : lv_has ls 2 [(0, .ref (B + h0)), (1, .int x1)] := hl
  obtain ⟨n0, e0⟩ : ∃ n0 : Nat, n0 = σ.length := ⟨_, rfl⟩
  rw [← e0] at hret hS
  obtain ⟨-, h⟩ := ez_in h
  refine lv_iload_n hx hb dX12_isLock_0 rfl (lv_at hl 1 rfl) ?_
  refine lv_iconst (v := 0) hx hb dX12_isLock_1 (by decide) ?_
  refine lv_aload_n hx hb dX12_isLock_2 rfl (lv_at hl 0 rfl) ?_
  refine ez_cVpi (As := []) (rest := [.int 0, .int x1]) h (fun _ q => c_X12_bolts q) hC k_X12_bolts ql_RX12_411 rfl (by decide) hS (fun _ q => ez_rcv q) rfl hl.1 rfl (Nat.le_of_ble_eq_true rfl) ⟨Nat.zero_le _, Nat.zero_le _⟩ dX12_isLock_3 (fun t_3 H locs hS h => ?_)
  refine lv_iconst (v := 1) hx hb dX12_isLock_6 (by decide) ?_
  refine lv_isub hx hb dX12_isLock_7 ?_
  refine ez_top h (fun t_7 h => ?_)
  refine ez_cSpi (As := [.int x1, .int 0, .int t_7]) (rest := []) h (fun _ q => c_X12_isIn q) hC k_X12_isIn ql_RX12_407 rfl (by decide) hS hl.1 rfl (Nat.le_of_ble_eq_true rfl) ⟨Nat.zero_le _, Nat.zero_le _⟩ dX12_isLock_8 (fun t_8 H locs hS h => ?_)
  obtain ⟨hn, h⟩ := ez_nr_sp rfl h
  exact hret _ _ _ _ _ (Option.some.inj h) hn hS dX12_isLock_11
set_option maxHeartbeats 4000000 in
set_option maxRecDepth 100000 in
theorem c_X12_cutIn {l : Launch} {X : ez_X} {B : Nat} {σ : ez_H} {h0 : Nat} {x1 : Int32} {x2 : Int32} {z : Int32} (h : z_X12_cutIn σ h0 x1 x2 = some z) : ez_M l X B σ yX12_cutIn cX12_cutIn 3 (some .int) 1 [.ref (B + h0), .int x1, .int x2] (some (.int z)) σ := by
  refine ez_startip (z := z) (by decide) (Nat.le_of_ble_eq_true rfl) (fun p e R s m args below meth c Q hC hret hS ls hl => ?_)
  have hC : ez_C p R s m args c X B RX12 cX12_cutIn 3 1 := hC
  have hx := hC.1.1
  have hb := hC.1.2.1
  have hown := hC.1.2.2.2.1
  have hts := hC.1.2.2.2.2
  have hl : lv_has ls 3 [(0, .ref (B + h0)), (1, .int x1), (2, .int x2)] := hl
  obtain ⟨n0, e0⟩ : ∃ n0 : Nat, n0 = σ.length := ⟨_, rfl⟩
  rw [← e0] at hret hS
  obtain ⟨-, h⟩ := ez_in h
  refine lv_iload_n hx hb dX12_cutIn_0 rfl (lv_at hl 1 rfl) ?_
  refine lv_aload_n hx hb dX12_cutIn_1 rfl (lv_at hl 0 rfl) ?_
  refine ez_cVpi (As := []) (rest := [.int x1]) h (fun _ q => c_X12_deep q) hC k_X12_deep ql_RX12_429 rfl (by decide) hS (fun _ q => ez_rcv q) rfl hl.1 rfl (Nat.le_of_ble_eq_true rfl) ⟨Nat.zero_le _, Nat.zero_le _⟩ dX12_cutIn_2 (fun t_2 H locs hS h => ?_)
  refine lv_aload_n hx hb dX12_cutIn_5 rfl (lv_at hl 0 rfl) ?_
  refine ez_cVpi (As := []) (rest := [.int t_2, .int x1]) h (fun _ q => c_X12_wide q) hC k_X12_wide ql_RX12_414 rfl (by decide) hS (fun _ q => ez_rcv q) rfl hl.1 rfl (Nat.le_of_ble_eq_true rfl) ⟨Nat.zero_le _, Nat.zero_le _⟩ dX12_cutIn_6 (fun t_6 H locs hS h => ?_)
  refine lv_iconst (v := 1) hx hb dX12_cutIn_9 (by decide) ?_
  refine lv_isub hx hb dX12_cutIn_10 ?_
  refine ez_top h (fun t_10 h => ?_)
  refine lv_iload_n hx hb dX12_cutIn_11 rfl (lv_at hl 2 rfl) ?_
  refine lv_isub hx hb dX12_cutIn_12 ?_
  refine ez_top h (fun t_12 h => ?_)
  refine ez_cSpi (As := [.int t_2, .int t_12]) (rest := [.int x1]) h (fun _ q => c_X12_power q) hC k_X12_power ql_RX12_432 rfl (by decide) hS hl.1 rfl (Nat.le_of_ble_eq_true rfl) ⟨Nat.zero_le _, Nat.zero_le _⟩ dX12_cutIn_13 (fun t_13 H locs hS h => ?_)
  obtain ⟨nz_16, h⟩ := ez_nz_sp h
  refine lv_idiv hx hb dX12_cutIn_16 nz_16 ?_
  refine ez_top h (fun t_16 h => ?_)
  refine lv_aload_n hx hb dX12_cutIn_17 rfl (lv_at hl 0 rfl) ?_
  refine ez_cVpi (As := []) (rest := [.int t_16]) h (fun _ q => c_X12_deep q) hC k_X12_deep ql_RX12_429 rfl (by decide) hS (fun _ q => ez_rcv q) rfl hl.1 rfl (Nat.le_of_ble_eq_true rfl) ⟨Nat.zero_le _, Nat.zero_le _⟩ dX12_cutIn_18 (fun t_18 H locs hS h => ?_)
  obtain ⟨nz_21, h⟩ := ez_nz_sp h
  refine lv_irem hx hb dX12_cutIn_21 nz_21 ?_
  refine ez_top h (fun t_21 h => ?_)
  exact hret _ _ _ _ _ (Option.some.inj h) rfl hS dX12_cutIn_22
set_option maxHeartbeats 4000000 in
set_option maxRecDepth 100000 in
theorem c_X12_filedTo {l : Launch} {X : ez_X} {B : Nat} {σ : ez_H} {h0 : Nat} {x1 : Int32} {x2 : Int32} {z : Int32} (h : z_X12_filedTo σ h0 x1 x2 = some z) : ez_M l X B σ yX12_filedTo cX12_filedTo 5 (some .int) 2 [.ref (B + h0), .int x1, .int x2] (some (.int z)) σ := by
  refine ez_startip (z := z) (by decide) (Nat.le_of_ble_eq_true rfl) (fun p e R s m args below meth c Q hC hret hS ls hl => ?_)
  have hC : ez_C p R s m args c X B RX12 cX12_filedTo 5 2 := hC
  have hx := hC.1.1
  have hb := hC.1.2.1
  have hown := hC.1.2.2.2.1
  have hts := hC.1.2.2.2.2
  have hl : lv_has ls 5 [(0, .ref (B + h0)), (1, .int x1), (2, .int x2)] := hl
  obtain ⟨n0, e0⟩ : ∃ n0 : Nat, n0 = σ.length := ⟨_, rfl⟩
  rw [← e0] at hret hS
  obtain ⟨-, h⟩ := ez_in h
  have K_5 : ∀ (k_5 : Nat → Int32 → Int32 → Int32 → Int32 → Option (Int32)) (hk_5 : ∀ (h0 : Nat) (x1 : Int32) (x2 : Int32) (x3 : Int32) (x4 : Int32) (H : Heap) (locs : List Loc) (ls : Array Slot), ez_S X B s.heap (n0) σ H locs → k_5 h0 x1 x2 x3 x4 = some z → lv_has ls 5 [(0, .ref (B + h0)), (1, .int x1), (2, .int x2), (3, .int x3), (4, .int x4)] → W p l e R s m args below meth c H locs 0 0 Q (F0 m 5 ls [])), ∀ (h0 : Nat) (x1 : Int32) (x2 : Int32) (x3 : Int32) (x4 : Int32) (H : Heap) (locs : List Loc) (ls : Array Slot), ez_S X B s.heap (n0) σ H locs → z_X12_filedTo_5 σ k_5 h0 x1 x2 x3 x4 = some z → lv_has ls 5 [(0, .ref (B + h0)), (1, .int x1), (2, .int x2), (3, .int x3), (4, .int x4)] → W p l e R s m args below meth c H locs 0 0 Q (F0 m 5 ls []) := by
    intro k_5 hk_5 h0 x1 x2 x3 x4 H locs ls hS h hl
    refine lv_iload hx hb dX12_filedTo_5 (lv_at hl 4 rfl) ?_
    refine lv_aload_n hx hb dX12_filedTo_7 rfl (lv_at hl 0 rfl) ?_
    refine ez_cVpi (As := []) (rest := [.int x4]) h (fun _ q => c_X12_wide q) hC k_X12_wide ql_RX12_414 rfl (by decide) hS (fun _ q => ez_rcv q) rfl hl.1 rfl (Nat.le_of_ble_eq_true rfl) ⟨Nat.zero_le _, Nat.zero_le _⟩ dX12_filedTo_8 (fun t_8 H locs hS h => ?_)
    refine lv_icmp_ge (tgt := 57) hx hb dX12_filedTo_11 (by decide) (fun c_11 => ?_) (fun c_11 => ?_)
    · replace h := ez_ifp h c_11
      refine lv_iload_n hx hb dX12_filedTo_57 rfl (lv_at hl 3 rfl) ?_
      exact hret _ _ _ _ _ (Option.some.inj h) rfl hS dX12_filedTo_58
    · replace h := ez_ifn h c_11
      refine lv_aload_n hx hb dX12_filedTo_14 rfl (lv_at hl 0 rfl) ?_
      refine lv_iload_n hx hb dX12_filedTo_15 rfl (lv_at hl 2 rfl) ?_
      refine lv_iload hx hb dX12_filedTo_16 (lv_at hl 4 rfl) ?_
      refine ez_cVpi (As := [.int x2, .int x4]) (rest := []) h (fun _ q => c_X12_cutIn q) hC k_X12_cutIn ql_RX12_525 rfl (by decide) hS (fun _ q => ez_rcv q) rfl hl.1 rfl (Nat.le_of_ble_eq_true rfl) ⟨Nat.zero_le _, Nat.zero_le _⟩ dX12_filedTo_18 (fun t_18 H locs hS h => ?_)
      refine lv_aload_n hx hb dX12_filedTo_21 rfl (lv_at hl 0 rfl) ?_
      refine lv_iload_n hx hb dX12_filedTo_22 rfl (lv_at hl 1 rfl) ?_
      refine lv_iload hx hb dX12_filedTo_23 (lv_at hl 4 rfl) ?_
      refine ez_cVpi (As := [.int x1, .int x4]) (rest := [.int t_18]) h (fun _ q => c_X12_cutOf q) hC k_X12_cutOf ql_RX12_444 rfl (by decide) hS (fun _ q => ez_rcv q) rfl hl.1 rfl (Nat.le_of_ble_eq_true rfl) ⟨Nat.zero_le _, Nat.zero_le _⟩ dX12_filedTo_25 (fun t_25 H locs hS h => ?_)
      refine lv_icmp_ge (tgt := 33) hx hb dX12_filedTo_28 (by decide) (fun c_28 => ?_) (fun c_28 => ?_)
      · replace h := ez_ifp h c_28
        refine lv_iload_n hx hb dX12_filedTo_33 rfl (lv_at hl 3 rfl) ?_
        refine lv_aload_n hx hb dX12_filedTo_34 rfl (lv_at hl 0 rfl) ?_
        refine lv_iload_n hx hb dX12_filedTo_35 rfl (lv_at hl 2 rfl) ?_
        refine lv_iload hx hb dX12_filedTo_36 (lv_at hl 4 rfl) ?_
        refine ez_cVpi (As := [.int x2, .int x4]) (rest := [.int x3]) h (fun _ q => c_X12_cutIn q) hC k_X12_cutIn ql_RX12_525 rfl (by decide) hS (fun _ q => ez_rcv q) rfl hl.1 rfl (Nat.le_of_ble_eq_true rfl) ⟨Nat.zero_le _, Nat.zero_le _⟩ dX12_filedTo_38 (fun t_38 H locs hS h => ?_)
        refine lv_aload_n hx hb dX12_filedTo_41 rfl (lv_at hl 0 rfl) ?_
        refine lv_iload_n hx hb dX12_filedTo_42 rfl (lv_at hl 1 rfl) ?_
        refine lv_iload hx hb dX12_filedTo_43 (lv_at hl 4 rfl) ?_
        refine ez_cVpi (As := [.int x1, .int x4]) (rest := [.int t_38, .int x3]) h (fun _ q => c_X12_cutOf q) hC k_X12_cutOf ql_RX12_444 rfl (by decide) hS (fun _ q => ez_rcv q) rfl hl.1 rfl (Nat.le_of_ble_eq_true rfl) ⟨Nat.zero_le _, Nat.zero_le _⟩ dX12_filedTo_45 (fun t_45 H locs hS h => ?_)
        refine lv_isub hx hb dX12_filedTo_48 ?_
        refine ez_top h (fun t_48 h => ?_)
        refine lv_iadd hx hb dX12_filedTo_49 ?_
        refine ez_top h (fun t_49 h => ?_)
        refine lv_istore_n (lv' := [(3, .int t_49), (0, .ref (B + h0)), (1, .int x1), (2, .int x2), (4, .int x4)]) hx hb dX12_filedTo_50 rfl hl (by decide) rfl (fun ls hl => ?_)
        obtain ⟨t_51, e_51, h⟩ := ez_let_sp h
        refine lv_iinc (v := t_51) (lv' := [(4, .int t_51), (3, .int t_49), (0, .ref (B + h0)), (1, .int x1), (2, .int x2)]) hx hb dX12_filedTo_51 hl (k := 4) rfl (by rw [e_51]; rfl) (by decide) rfl (fun ls hl => ?_)
        refine lv_goto (tgt := 5) hx hb dX12_filedTo_54 (by decide) ?_
        exact hk_5 h0 x1 x2 t_49 t_51 _ _ _ hS h (lv_sub hl [2, 3, 4, 1, 0] rfl)
      · replace h := ez_ifn h c_28
        refine lv_iconst (v := -1) hx hb dX12_filedTo_31 (by decide) ?_
        exact hret _ _ _ _ _ (Option.some.inj h) rfl hS dX12_filedTo_32
  have E_5 : ∀ (h0 : Nat) (x1 : Int32) (x2 : Int32) (x3 : Int32) (x4 : Int32) (H : Heap) (locs : List Loc) (ls : Array Slot), ez_S X B s.heap (n0) σ H locs → (ez_fix (fun _ _ _ _ _ => none) (z_X12_filedTo_5 σ) ez_N) h0 x1 x2 x3 x4 = some z → lv_has ls 5 [(0, .ref (B + h0)), (1, .int x1), (2, .int x2), (3, .int x3), (4, .int x4)] → W p l e R s m args below meth c H locs 0 0 Q (F0 m 5 ls []) := ez_fix_ind (fun k_5 : Nat → Int32 → Int32 → Int32 → Int32 → Option (Int32) => ∀ (h0 : Nat) (x1 : Int32) (x2 : Int32) (x3 : Int32) (x4 : Int32) (H : Heap) (locs : List Loc) (ls : Array Slot), ez_S X B s.heap (n0) σ H locs → k_5 h0 x1 x2 x3 x4 = some z → lv_has ls 5 [(0, .ref (B + h0)), (1, .int x1), (2, .int x2), (3, .int x3), (4, .int x4)] → W p l e R s m args below meth c H locs 0 0 Q (F0 m 5 ls [])) (fun _ _ _ _ _ _ _ _ _ h _ => by cases h) (fun k_5 hk_5 => K_5 k_5 hk_5) ez_N
  refine lv_iconst (v := 0) hx hb dX12_filedTo_0 (by decide) ?_
  refine lv_istore_n (lv' := [(3, .int 0), (0, .ref (B + h0)), (1, .int x1), (2, .int x2)]) hx hb dX12_filedTo_1 rfl hl (by decide) rfl (fun ls hl => ?_)
  refine lv_iconst (v := 0) hx hb dX12_filedTo_2 (by decide) ?_
  refine lv_istore (lv' := [(4, .int 0), (3, .int 0), (0, .ref (B + h0)), (1, .int x1), (2, .int x2)]) hx hb dX12_filedTo_3 hl (by decide) rfl (fun ls hl => ?_)
  exact E_5  h0 x1 x2 (0 : Int32) (0 : Int32) _ _ _ hS h (lv_sub hl [2, 3, 4, 1, 0] rfl)
