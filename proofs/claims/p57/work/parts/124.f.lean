set_option maxHeartbeats 4000000 in
set_option maxRecDepth 100000 in
theorem c_X12_isGood {l : Launch} {X : ez_X} {B : Nat} {σ : ez_H} {h0 : Nat} {z : Int32} (h : z_X12_isGood σ h0 = some z) : ez_M l X B σ yX12_isGood cX12_isGood 1 (some .boolean) 0 [.ref (B + h0)] (some (.int z)) σ := by
  refine ez_startip (z := z) (by decide) (Nat.le_of_ble_eq_true rfl) (fun p e R s m args below meth c Q hC hret hS ls hl => ?_)
  have hC : ez_C p R s m args c X B RX12 cX12_isGood 1 0 := hC
  have hx := hC.1.1
  have hb := hC.1.2.1
  have hown := hC.1.2.2.2.1
  have hts := hC.1.2.2.2.2
  have hl : lv_has ls 1 [(0, .ref (B + h0))] := hl
  obtain ⟨n0, e0⟩ : ∃ n0 : Nat, n0 = σ.length := ⟨_, rfl⟩
  rw [← e0] at hret hS
  obtain ⟨-, h⟩ := ez_in h
  have K_12 : ∀ (y0 : Int32) (H : Heap) (locs : List Loc) (ls : Array Slot), ez_S X B s.heap (n0) σ H locs → z_X12_isGood_12 σ y0 = some z → lv_has ls 1 [] → W p l e R s m args below meth c H locs 0 0 Q (F0 m 12 ls [.int y0]) := by
    intro y0 H locs ls hS h hl
    obtain ⟨hn, h⟩ := ez_nr_sp rfl h
    exact hret _ _ _ _ _ (Option.some.inj h) hn hS dX12_isGood_12
  refine lv_aload_n hx hb dX12_isGood_0 rfl (lv_at hl 0 rfl) ?_
  refine eg_RX12_164 hC hS h dX12_isGood_1 (fun t_1 h => ?_)
  refine lv_if_ne (tgt := 11) hx hb dX12_isGood_4 (by decide) (fun c_4 => ?_) (fun c_4 => ?_)
  · replace h := ez_ifn h c_4
    refine lv_iconst (v := 0) hx hb dX12_isGood_11 (by decide) ?_
    exact K_12  (0 : Int32) _ _ _ hS h (lv_sub hl [] rfl)
  · replace h := ez_ifp h c_4
    refine lv_iconst (v := 1) hx hb dX12_isGood_7 (by decide) ?_
    refine lv_goto (tgt := 12) hx hb dX12_isGood_8 (by decide) ?_
    exact K_12  (1 : Int32) _ _ _ hS h (lv_sub hl [] rfl)
set_option maxHeartbeats 4000000 in
set_option maxRecDepth 100000 in
theorem c_X12_isWord {l : Launch} {X : ez_X} {B : Nat} {σ : ez_H} {h0 : Nat} {x1 : Int64} {z : Int32} (h : z_X12_isWord σ h0 x1 = some z) : ez_M l X B σ yX12_isWord cX12_isWord 3 (some .boolean) 0 [.ref (B + h0), .long x1] (some (.int z)) σ := by
  refine ez_startip (z := z) (by decide) (Nat.le_of_ble_eq_true rfl) (fun p e R s m args below meth c Q hC hret hS ls hl => ?_)
  have hC : ez_C p R s m args c X B RX12 cX12_isWord 3 0 := hC
  have hx := hC.1.1
  have hb := hC.1.2.1
  have hown := hC.1.2.2.2.1
  have hts := hC.1.2.2.2.2
  have hl : lv_has ls 3 [(0, .ref (B + h0)), (1, .long x1)] := hl
  obtain ⟨n0, e0⟩ : ∃ n0 : Nat, n0 = σ.length := ⟨_, rfl⟩
  rw [← e0] at hret hS
  obtain ⟨-, h⟩ := ez_in h
  have K_22 : ∀ (y0 : Int32) (H : Heap) (locs : List Loc) (ls : Array Slot), ez_S X B s.heap (n0) σ H locs → z_X12_isWord_22 σ y0 = some z → lv_has ls 3 [] → W p l e R s m args below meth c H locs 0 0 Q (F0 m 22 ls [.int y0]) := by
    intro y0 H locs ls hS h hl
    obtain ⟨hn, h⟩ := ez_nr_sp rfl h
    exact hret _ _ _ _ _ (Option.some.inj h) hn hS dX12_isWord_22
  have K_21 : ∀ (H : Heap) (locs : List Loc) (ls : Array Slot), ez_S X B s.heap (n0) σ H locs → z_X12_isWord_21 σ = some z → lv_has ls 3 [] → W p l e R s m args below meth c H locs 0 0 Q (F0 m 21 ls []) := by
    intro  H locs ls hS h hl
    refine lv_iconst (v := 0) hx hb dX12_isWord_21 (by decide) ?_
    exact K_22  (0 : Int32) _ _ _ hS h (lv_sub hl [] rfl)
  refine lv_aload_n hx hb dX12_isWord_0 rfl (lv_at hl 0 rfl) ?_
  refine eg_RX12_223 hC hS h dX12_isWord_1 (fun t_1 h => ?_)
  refine lv_iconst (v := 3) hx hb dX12_isWord_4 (by decide) ?_
  refine lv_icmp_ne (tgt := 21) hx hb dX12_isWord_5 (by decide) (fun c_5 => ?_) (fun c_5 => ?_)
  · replace h := ez_ifn h c_5
    exact K_21   _ _ _ hS h (lv_sub hl [] rfl)
  · replace h := ez_ifp h c_5
    refine lv_aload_n hx hb dX12_isWord_8 rfl (lv_at hl 0 rfl) ?_
    refine eg_RX12_230 hC hS h dX12_isWord_9 (fun t_9 h => ?_)
    refine lv_lload_n hx hb dX12_isWord_12 rfl (lv_at hl 1 rfl) ?_
    refine W.lcmp hx hb dX12_isWord_13 ?_
    refine ez_top h (fun t_13 h => ?_)
    refine lv_if_ne (tgt := 21) hx hb dX12_isWord_14 (by decide) (fun c_14 => ?_) (fun c_14 => ?_)
    · replace h := ez_ifn h c_14
      exact K_21   _ _ _ hS h (lv_sub hl [] rfl)
    · replace h := ez_ifp h c_14
      refine lv_iconst (v := 1) hx hb dX12_isWord_17 (by decide) ?_
      refine lv_goto (tgt := 22) hx hb dX12_isWord_18 (by decide) ?_
      exact K_22  (1 : Int32) _ _ _ hS h (lv_sub hl [] rfl)
set_option maxHeartbeats 4000000 in
set_option maxRecDepth 100000 in
theorem c_X12_isLate {l : Launch} {X : ez_X} {B : Nat} {σ : ez_H} {h0 : Nat} {x1 : Int32} {z : Int32} (h : z_X12_isLate σ h0 x1 = some z) : ez_M l X B σ yX12_isLate cX12_isLate 2 (some .boolean) 1 [.ref (B + h0), .int x1] (some (.int z)) σ := by
  refine ez_startip (z := z) (by decide) (Nat.le_of_ble_eq_true rfl) (fun p e R s m args below meth c Q hC hret hS ls hl => ?_)
  have hC : ez_C p R s m args c X B RX12 cX12_isLate 2 1 := hC
  have hx := hC.1.1
  have hb := hC.1.2.1
  have hown := hC.1.2.2.2.1
  have hts := hC.1.2.2.2.2
  have hl : lv_has ls 2 [(0, .ref (B + h0)), (1, .int x1)] := hl
  obtain ⟨n0, e0⟩ : ∃ n0 : Nat, n0 = σ.length := ⟨_, rfl⟩
  rw [← e0] at hret hS
  obtain ⟨-, h⟩ := ez_in h
  have K_45 : ∀ (y0 : Int32) (H : Heap) (locs : List Loc) (ls : Array Slot), ez_S X B s.heap (n0) σ H locs → z_X12_isLate_45 σ y0 = some z → lv_has ls 2 [] → W p l e R s m args below meth c H locs 0 0 Q (F0 m 45 ls [.int y0]) := by
    intro y0 H locs ls hS h hl
    obtain ⟨hn, h⟩ := ez_nr_sp rfl h
    exact hret _ _ _ _ _ (Option.some.inj h) hn hS dX12_isLate_45
  have K_40 : ∀ (H : Heap) (locs : List Loc) (ls : Array Slot), ez_S X B s.heap (n0) σ H locs → z_X12_isLate_40 σ = some z → lv_has ls 2 [] → W p l e R s m args below meth c H locs 0 0 Q (F0 m 40 ls []) := by
    intro  H locs ls hS h hl
    refine lv_iconst (v := 1) hx hb dX12_isLate_40 (by decide) ?_
    refine lv_goto (tgt := 45) hx hb dX12_isLate_41 (by decide) ?_
    exact K_45  (1 : Int32) _ _ _ hS h (lv_sub hl [] rfl)
  refine lv_aload_n hx hb dX12_isLate_0 rfl (lv_at hl 0 rfl) ?_
  refine eg_RX12_51 hC hS h dX12_isLate_1 (fun t_1 h => ?_)
  refine lv_aload_n hx hb dX12_isLate_4 rfl (lv_at hl 0 rfl) ?_
  refine eg_RX12_265 hC hS h dX12_isLate_5 (fun t_5 h => ?_)
  refine ez_ial hC hS h dX12_isLate_8 (fun t_8 h => ?_)
  refine lv_iload_n hx hb dX12_isLate_9 rfl (lv_at hl 1 rfl) ?_
  refine ez_cSpi (As := [.int t_8, .int x1]) (rest := []) h (fun _ q => c_X12_bit q) hC k_X12_bit ql_RX12_261 rfl (by decide) hS hl.1 rfl (Nat.le_of_ble_eq_true rfl) ⟨Nat.zero_le _, Nat.zero_le _⟩ dX12_isLate_10 (fun t_10 H locs hS h => ?_)
  refine lv_if_ne (tgt := 40) hx hb dX12_isLate_13 (by decide) (fun c_13 => ?_) (fun c_13 => ?_)
  · replace h := ez_ifn h c_13
    exact K_40   _ _ _ hS h (lv_sub hl [] rfl)
  · replace h := ez_ifp h c_13
    refine lv_aload_n hx hb dX12_isLate_16 rfl (lv_at hl 0 rfl) ?_
    refine eg_RX12_30 hC hS h dX12_isLate_17 (fun t_17 h => ?_)
    refine lv_aload_n hx hb dX12_isLate_20 rfl (lv_at hl 0 rfl) ?_
    refine eg_RX12_265 hC hS h dX12_isLate_21 (fun t_21 h => ?_)
    refine ez_ial hC hS h dX12_isLate_24 (fun t_24 h => ?_)
    refine lv_if_gt (tgt := 40) hx hb dX12_isLate_25 (by decide) (fun c_25 => ?_) (fun c_25 => ?_)
    · replace h := ez_ifp h c_25
      exact K_40   _ _ _ hS h (lv_sub hl [] rfl)
    · replace h := ez_ifn h c_25
      refine lv_aload_n hx hb dX12_isLate_28 rfl (lv_at hl 0 rfl) ?_
      refine eg_RX12_33 hC hS h dX12_isLate_29 (fun t_29 h => ?_)
      refine lv_aload_n hx hb dX12_isLate_32 rfl (lv_at hl 0 rfl) ?_
      refine eg_RX12_265 hC hS h dX12_isLate_33 (fun t_33 h => ?_)
      refine ez_ial hC hS h dX12_isLate_36 (fun t_36 h => ?_)
      refine lv_if_le (tgt := 44) hx hb dX12_isLate_37 (by decide) (fun c_37 => ?_) (fun c_37 => ?_)
      · replace h := ez_ifp h c_37
        refine lv_iconst (v := 0) hx hb dX12_isLate_44 (by decide) ?_
        exact K_45  (0 : Int32) _ _ _ hS h (lv_sub hl [] rfl)
      · replace h := ez_ifn h c_37
        exact K_40   _ _ _ hS h (lv_sub hl [] rfl)
set_option maxHeartbeats 4000000 in
set_option maxRecDepth 100000 in
theorem c_X12_isFull {l : Launch} {X : ez_X} {B : Nat} {σ : ez_H} {h0 : Nat} {z : Int32} (h : z_X12_isFull σ h0 = some z) : ez_M l X B σ yX12_isFull cX12_isFull 1 (some .boolean) 2 [.ref (B + h0)] (some (.int z)) σ := by
  refine ez_startip (z := z) (by decide) (Nat.le_of_ble_eq_true rfl) (fun p e R s m args below meth c Q hC hret hS ls hl => ?_)
  have hC : ez_C p R s m args c X B RX12 cX12_isFull 1 2 := hC
  have hx := hC.1.1
  have hb := hC.1.2.1
  have hown := hC.1.2.2.2.1
  have hts := hC.1.2.2.2.2
  have hl : lv_has ls 1 [(0, .ref (B + h0))] := hl
  obtain ⟨n0, e0⟩ : ∃ n0 : Nat, n0 = σ.length := ⟨_, rfl⟩
  rw [← e0] at hret hS
  obtain ⟨-, h⟩ := ez_in h
  have K_217 : ∀ (H : Heap) (locs : List Loc) (ls : Array Slot), ez_S X B s.heap (n0) σ H locs → z_X12_isFull_217 σ = some z → lv_has ls 1 [] → W p l e R s m args below meth c H locs 0 0 Q (F0 m 217 ls []) := by
    intro  H locs ls hS h hl
    refine lv_iconst (v := 0) hx hb dX12_isFull_217 (by decide) ?_
    have hn : narrow .boolean (.int 0) = .int 0 := by decide
    exact hret _ _ _ _ _ (Option.some.inj h) hn hS dX12_isFull_218
  have K_274 : ∀ (y0 : Int32) (H : Heap) (locs : List Loc) (ls : Array Slot), ez_S X B s.heap (n0) σ H locs → z_X12_isFull_274 σ y0 = some z → lv_has ls 1 [] → W p l e R s m args below meth c H locs 0 0 Q (F0 m 274 ls [.int y0]) := by
    intro y0 H locs ls hS h hl
    obtain ⟨hn, h⟩ := ez_nr_sp rfl h
    exact hret _ _ _ _ _ (Option.some.inj h) hn hS dX12_isFull_274
  have K_269 : ∀ (H : Heap) (locs : List Loc) (ls : Array Slot), ez_S X B s.heap (n0) σ H locs → z_X12_isFull_269 σ = some z → lv_has ls 1 [] → W p l e R s m args below meth c H locs 0 0 Q (F0 m 269 ls []) := by
    intro  H locs ls hS h hl
    refine lv_iconst (v := 1) hx hb dX12_isFull_269 (by decide) ?_
    refine lv_goto (tgt := 274) hx hb dX12_isFull_270 (by decide) ?_
    exact K_274  (1 : Int32) _ _ _ hS h (lv_sub hl [] rfl)
  have K_196 : ∀ (y0 : Int32) (H : Heap) (locs : List Loc) (ls : Array Slot), ez_S X B s.heap (n0) σ H locs → z_X12_isFull_196 σ y0 = some z → lv_has ls 1 [] → W p l e R s m args below meth c H locs 0 0 Q (F0 m 196 ls [.int y0]) := by
    intro y0 H locs ls hS h hl
    obtain ⟨hn, h⟩ := ez_nr_sp rfl h
    exact hret _ _ _ _ _ (Option.some.inj h) hn hS dX12_isFull_196
  have K_167 : ∀ (y0 : Int32) (H : Heap) (locs : List Loc) (ls : Array Slot), ez_S X B s.heap (n0) σ H locs → z_X12_isFull_167 σ y0 = some z → lv_has ls 1 [] → W p l e R s m args below meth c H locs 0 0 Q (F0 m 167 ls [.int y0]) := by
    intro y0 H locs ls hS h hl
    obtain ⟨hn, h⟩ := ez_nr_sp rfl h
    exact hret _ _ _ _ _ (Option.some.inj h) hn hS dX12_isFull_167
  have K_137 : ∀ (y0 : Int32) (H : Heap) (locs : List Loc) (ls : Array Slot), ez_S X B s.heap (n0) σ H locs → z_X12_isFull_137 σ y0 = some z → lv_has ls 1 [] → W p l e R s m args below meth c H locs 0 0 Q (F0 m 137 ls [.int y0]) := by
    intro y0 H locs ls hS h hl
    obtain ⟨hn, h⟩ := ez_nr_sp rfl h
    exact hret _ _ _ _ _ (Option.some.inj h) hn hS dX12_isFull_137
  have K_107 : ∀ (y0 : Int32) (H : Heap) (locs : List Loc) (ls : Array Slot), ez_S X B s.heap (n0) σ H locs → z_X12_isFull_107 σ y0 = some z → lv_has ls 1 [] → W p l e R s m args below meth c H locs 0 0 Q (F0 m 107 ls [.int y0]) := by
    intro y0 H locs ls hS h hl
    obtain ⟨hn, h⟩ := ez_nr_sp rfl h
    exact hret _ _ _ _ _ (Option.some.inj h) hn hS dX12_isFull_107
  have K_77 : ∀ (y0 : Int32) (H : Heap) (locs : List Loc) (ls : Array Slot), ez_S X B s.heap (n0) σ H locs → z_X12_isFull_77 σ y0 = some z → lv_has ls 1 [] → W p l e R s m args below meth c H locs 0 0 Q (F0 m 77 ls [.int y0]) := by
    intro y0 H locs ls hS h hl
    obtain ⟨hn, h⟩ := ez_nr_sp rfl h
    exact hret _ _ _ _ _ (Option.some.inj h) hn hS dX12_isFull_77
  refine lv_aload_n hx hb dX12_isFull_0 rfl (lv_at hl 0 rfl) ?_
  refine lv_ldc2 hx hb hown (hts _ qc_RX12_167) dX12_isFull_1 ?_
  refine ez_cVpi (As := [.long 7163082329762919027]) (rest := []) h (fun _ q => c_X12_isWord q) hC k_X12_isWord ql_RX12_280 rfl (by decide) hS (fun _ q => ez_rcv q) rfl hl.1 rfl (Nat.le_of_ble_eq_true rfl) ⟨Nat.zero_le _, Nat.zero_le _⟩ dX12_isFull_4 (fun t_4 H locs hS h => ?_)
  refine lv_if_eq (tgt := 16) hx hb dX12_isFull_7 (by decide) (fun c_7 => ?_) (fun c_7 => ?_)
  · replace h := ez_ifp h c_7
    refine lv_aload_n hx hb dX12_isFull_16 rfl (lv_at hl 0 rfl) ?_
    refine lv_ldc2 hx hb hown (hts _ qc_RX12_169) dX12_isFull_17 ?_
    refine ez_cVpi (As := [.long 110386841151603]) (rest := []) h (fun _ q => c_X12_isWord q) hC k_X12_isWord ql_RX12_280 rfl (by decide) hS (fun _ q => ez_rcv q) rfl hl.1 rfl (Nat.le_of_ble_eq_true rfl) ⟨Nat.zero_le _, Nat.zero_le _⟩ dX12_isFull_20 (fun t_20 H locs hS h => ?_)
    refine lv_if_eq (tgt := 32) hx hb dX12_isFull_23 (by decide) (fun c_23 => ?_) (fun c_23 => ?_)
    · replace h := ez_ifp h c_23
      refine lv_aload_n hx hb dX12_isFull_32 rfl (lv_at hl 0 rfl) ?_
      refine lv_ldc2 hx hb hown (hts _ qc_RX12_171) dX12_isFull_33 ?_
      refine ez_cVpi (As := [.long 1937007984]) (rest := []) h (fun _ q => c_X12_isWord q) hC k_X12_isWord ql_RX12_280 rfl (by decide) hS (fun _ q => ez_rcv q) rfl hl.1 rfl (Nat.le_of_ble_eq_true rfl) ⟨Nat.zero_le _, Nat.zero_le _⟩ dX12_isFull_36 (fun t_36 H locs hS h => ?_)
      refine lv_if_eq (tgt := 48) hx hb dX12_isFull_39 (by decide) (fun c_39 => ?_) (fun c_39 => ?_)
      · replace h := ez_ifp h c_39
        refine lv_aload_n hx hb dX12_isFull_48 rfl (lv_at hl 0 rfl) ?_
        refine lv_ldc2 hx hb hown (hts _ qc_RX12_173) dX12_isFull_49 ?_
        refine ez_cVpi (As := [.long 7038329]) (rest := []) h (fun _ q => c_X12_isWord q) hC k_X12_isWord ql_RX12_280 rfl (by decide) hS (fun _ q => ez_rcv q) rfl hl.1 rfl (Nat.le_of_ble_eq_true rfl) ⟨Nat.zero_le _, Nat.zero_le _⟩ dX12_isFull_52 (fun t_52 H locs hS h => ?_)
        refine lv_if_eq (tgt := 78) hx hb dX12_isFull_55 (by decide) (fun c_55 => ?_) (fun c_55 => ?_)
        · replace h := ez_ifp h c_55
          refine lv_aload_n hx hb dX12_isFull_78 rfl (lv_at hl 0 rfl) ?_
          refine lv_ldc2 hx hb hown (hts _ qc_RX12_175) dX12_isFull_79 ?_
          refine ez_cVpi (As := [.long 1819239275]) (rest := []) h (fun _ q => c_X12_isWord q) hC k_X12_isWord ql_RX12_280 rfl (by decide) hS (fun _ q => ez_rcv q) rfl hl.1 rfl (Nat.le_of_ble_eq_true rfl) ⟨Nat.zero_le _, Nat.zero_le _⟩ dX12_isFull_82 (fun t_82 H locs hS h => ?_)
          refine lv_if_eq (tgt := 108) hx hb dX12_isFull_85 (by decide) (fun c_85 => ?_) (fun c_85 => ?_)
          · replace h := ez_ifp h c_85
            refine lv_aload_n hx hb dX12_isFull_108 rfl (lv_at hl 0 rfl) ?_
            refine lv_ldc2 hx hb hown (hts _ qc_RX12_177) dX12_isFull_109 ?_
            refine ez_cVpi (As := [.long 1919905645]) (rest := []) h (fun _ q => c_X12_isWord q) hC k_X12_isWord ql_RX12_280 rfl (by decide) hS (fun _ q => ez_rcv q) rfl hl.1 rfl (Nat.le_of_ble_eq_true rfl) ⟨Nat.zero_le _, Nat.zero_le _⟩ dX12_isFull_112 (fun t_112 H locs hS h => ?_)
            refine lv_if_eq (tgt := 138) hx hb dX12_isFull_115 (by decide) (fun c_115 => ?_) (fun c_115 => ?_)
            · replace h := ez_ifp h c_115
              refine lv_aload_n hx hb dX12_isFull_138 rfl (lv_at hl 0 rfl) ?_
              refine lv_ldc2 hx hb hown (hts _ qc_RX12_179) dX12_isFull_139 ?_
              refine ez_cVpi (As := [.long 1685024626]) (rest := []) h (fun _ q => c_X12_isWord q) hC k_X12_isWord ql_RX12_280 rfl (by decide) hS (fun _ q => ez_rcv q) rfl hl.1 rfl (Nat.le_of_ble_eq_true rfl) ⟨Nat.zero_le _, Nat.zero_le _⟩ dX12_isFull_142 (fun t_142 H locs hS h => ?_)
              refine lv_if_eq (tgt := 168) hx hb dX12_isFull_145 (by decide) (fun c_145 => ?_) (fun c_145 => ?_)
              · replace h := ez_ifp h c_145
                refine lv_aload_n hx hb dX12_isFull_168 rfl (lv_at hl 0 rfl) ?_
                refine lv_ldc2 hx hb hown (hts _ qc_RX12_185) dX12_isFull_169 ?_
                refine ez_cVpi (As := [.long 123581014175598]) (rest := []) h (fun _ q => c_X12_isWord q) hC k_X12_isWord ql_RX12_280 rfl (by decide) hS (fun _ q => ez_rcv q) rfl hl.1 rfl (Nat.le_of_ble_eq_true rfl) ⟨Nat.zero_le _, Nat.zero_le _⟩ dX12_isFull_172 (fun t_172 H locs hS h => ?_)
                refine lv_if_eq (tgt := 197) hx hb dX12_isFull_175 (by decide) (fun c_175 => ?_) (fun c_175 => ?_)
                · replace h := ez_ifp h c_175
                  refine lv_aload_n hx hb dX12_isFull_197 rfl (lv_at hl 0 rfl) ?_
                  refine lv_ldc2 hx hb hown (hts _ qc_RX12_191) dX12_isFull_198 ?_
                  refine ez_cVpi (As := [.long 1836413812]) (rest := []) h (fun _ q => c_X12_isWord q) hC k_X12_isWord ql_RX12_280 rfl (by decide) hS (fun _ q => ez_rcv q) rfl hl.1 rfl (Nat.le_of_ble_eq_true rfl) ⟨Nat.zero_le _, Nat.zero_le _⟩ dX12_isFull_201 (fun t_201 H locs hS h => ?_)
                  refine lv_if_ne (tgt := 217) hx hb dX12_isFull_204 (by decide) (fun c_204 => ?_) (fun c_204 => ?_)
                  · replace h := ez_ifn h c_204
                    exact K_217   _ _ _ hS h (lv_sub hl [] rfl)
                  · replace h := ez_ifp h c_204
                    refine lv_aload_n hx hb dX12_isFull_207 rfl (lv_at hl 0 rfl) ?_
                    refine lv_ldc2 hx hb hown (hts _ qc_RX12_193) dX12_isFull_208 ?_
                    refine ez_cVpi (As := [.long 474148660594]) (rest := []) h (fun _ q => c_X12_isWord q) hC k_X12_isWord ql_RX12_280 rfl (by decide) hS (fun _ q => ez_rcv q) rfl hl.1 rfl (Nat.le_of_ble_eq_true rfl) ⟨Nat.zero_le _, Nat.zero_le _⟩ dX12_isFull_211 (fun t_211 H locs hS h => ?_)
                    refine lv_if_eq (tgt := 219) hx hb dX12_isFull_214 (by decide) (fun c_214 => ?_) (fun c_214 => ?_)
                    · replace h := ez_ifp h c_214
                      refine lv_aload_n hx hb dX12_isFull_219 rfl (lv_at hl 0 rfl) ?_
                      refine lv_ldc2 hx hb hown (hts _ qc_RX12_195) dX12_isFull_220 ?_
                      refine ez_cVpi (As := [.long 2003132786]) (rest := []) h (fun _ q => c_X12_isWord q) hC k_X12_isWord ql_RX12_280 rfl (by decide) hS (fun _ q => ez_rcv q) rfl hl.1 rfl (Nat.le_of_ble_eq_true rfl) ⟨Nat.zero_le _, Nat.zero_le _⟩ dX12_isFull_223 (fun t_223 H locs hS h => ?_)
                      refine lv_if_eq (tgt := 243) hx hb dX12_isFull_226 (by decide) (fun c_226 => ?_) (fun c_226 => ?_)
                      · replace h := ez_ifp h c_226
                        refine lv_aload_n hx hb dX12_isFull_243 rfl (lv_at hl 0 rfl) ?_
                        refine lv_ldc2 hx hb hown (hts _ qc_RX12_197) dX12_isFull_244 ?_
                        refine ez_cVpi (As := [.long 1685217655]) (rest := []) h (fun _ q => c_X12_isWord q) hC k_X12_isWord ql_RX12_280 rfl (by decide) hS (fun _ q => ez_rcv q) rfl hl.1 rfl (Nat.le_of_ble_eq_true rfl) ⟨Nat.zero_le _, Nat.zero_le _⟩ dX12_isFull_247 (fun t_247 H locs hS h => ?_)
                        refine lv_if_eq (tgt := 269) hx hb dX12_isFull_250 (by decide) (fun c_250 => ?_) (fun c_250 => ?_)
                        · replace h := ez_ifp h c_250
                          exact K_269   _ _ _ hS h (lv_sub hl [] rfl)
                        · replace h := ez_ifn h c_250
                          refine lv_aload_n hx hb dX12_isFull_253 rfl (lv_at hl 0 rfl) ?_
                          refine eg_RX12_51 hC hS h dX12_isFull_254 (fun t_254 h => ?_)
                          refine lv_aload_n hx hb dX12_isFull_257 rfl (lv_at hl 0 rfl) ?_
                          refine eg_RX12_265 hC hS h dX12_isFull_258 (fun t_258 h => ?_)
                          refine ez_ial hC hS h dX12_isFull_261 (fun t_261 h => ?_)
                          refine lv_iconst (v := 4) hx hb dX12_isFull_262 (by decide) ?_
                          refine ez_cSpi (As := [.int t_261, .int 4]) (rest := []) h (fun _ q => c_X12_bit q) hC k_X12_bit ql_RX12_261 rfl (by decide) hS hl.1 rfl (Nat.le_of_ble_eq_true rfl) ⟨Nat.zero_le _, Nat.zero_le _⟩ dX12_isFull_263 (fun t_263 H locs hS h => ?_)
                          refine lv_if_eq (tgt := 273) hx hb dX12_isFull_266 (by decide) (fun c_266 => ?_) (fun c_266 => ?_)
                          · replace h := ez_ifp h c_266
                            refine lv_iconst (v := 0) hx hb dX12_isFull_273 (by decide) ?_
                            exact K_274  (0 : Int32) _ _ _ hS h (lv_sub hl [] rfl)
                          · replace h := ez_ifn h c_266
                            exact K_269   _ _ _ hS h (lv_sub hl [] rfl)
                      · replace h := ez_ifn h c_226
                        refine lv_aload_n hx hb dX12_isFull_229 rfl (lv_at hl 0 rfl) ?_
                        refine eg_RX12_51 hC hS h dX12_isFull_230 (fun t_230 h => ?_)
                        refine lv_aload_n hx hb dX12_isFull_233 rfl (lv_at hl 0 rfl) ?_
                        refine eg_RX12_265 hC hS h dX12_isFull_234 (fun t_234 h => ?_)
                        refine ez_ial hC hS h dX12_isFull_237 (fun t_237 h => ?_)
                        refine lv_iconst (v := 3) hx hb dX12_isFull_238 (by decide) ?_
                        refine ez_cSpi (As := [.int t_237, .int 3]) (rest := []) h (fun _ q => c_X12_bit q) hC k_X12_bit ql_RX12_261 rfl (by decide) hS hl.1 rfl (Nat.le_of_ble_eq_true rfl) ⟨Nat.zero_le _, Nat.zero_le _⟩ dX12_isFull_239 (fun t_239 H locs hS h => ?_)
                        obtain ⟨hn, h⟩ := ez_nr_sp rfl h
                        exact hret _ _ _ _ _ (Option.some.inj h) hn hS dX12_isFull_242
                    · replace h := ez_ifn h c_214
                      exact K_217   _ _ _ hS h (lv_sub hl [] rfl)
                · replace h := ez_ifn h c_175
                  refine lv_aload_n hx hb dX12_isFull_178 rfl (lv_at hl 0 rfl) ?_
                  refine eg_RX12_42 hC hS h dX12_isFull_179 (fun t_179 h => ?_)
                  refine lv_aload_n hx hb dX12_isFull_182 rfl (lv_at hl 0 rfl) ?_
                  refine eg_RX12_265 hC hS h dX12_isFull_183 (fun t_183 h => ?_)
                  refine ez_ial hC hS h dX12_isFull_186 (fun t_186 h => ?_)
                  refine lv_iconst (v := 4) hx hb dX12_isFull_187 (by decide) ?_
                  refine lv_icmp_ne (tgt := 195) hx hb dX12_isFull_188 (by decide) (fun c_188 => ?_) (fun c_188 => ?_)
                  · replace h := ez_ifn h c_188
                    refine lv_iconst (v := 0) hx hb dX12_isFull_195 (by decide) ?_
                    exact K_196  (0 : Int32) _ _ _ hS h (lv_sub hl [] rfl)
                  · replace h := ez_ifp h c_188
                    refine lv_iconst (v := 1) hx hb dX12_isFull_191 (by decide) ?_
                    refine lv_goto (tgt := 196) hx hb dX12_isFull_192 (by decide) ?_
                    exact K_196  (1 : Int32) _ _ _ hS h (lv_sub hl [] rfl)
              · replace h := ez_ifn h c_145
                refine lv_aload_n hx hb dX12_isFull_148 rfl (lv_at hl 0 rfl) ?_
                refine eg_RX12_39 hC hS h dX12_isFull_149 (fun t_149 h => ?_)
                refine lv_aload_n hx hb dX12_isFull_152 rfl (lv_at hl 0 rfl) ?_
                refine eg_RX12_265 hC hS h dX12_isFull_153 (fun t_153 h => ?_)
                refine ez_ial hC hS h dX12_isFull_156 (fun t_156 h => ?_)
                refine lv_bipush (v := 8) hx hb dX12_isFull_157 (by decide) ?_
                refine lv_icmp_ne (tgt := 166) hx hb dX12_isFull_159 (by decide) (fun c_159 => ?_) (fun c_159 => ?_)
                · replace h := ez_ifn h c_159
                  refine lv_iconst (v := 0) hx hb dX12_isFull_166 (by decide) ?_
                  exact K_167  (0 : Int32) _ _ _ hS h (lv_sub hl [] rfl)
                · replace h := ez_ifp h c_159
                  refine lv_iconst (v := 1) hx hb dX12_isFull_162 (by decide) ?_
                  refine lv_goto (tgt := 167) hx hb dX12_isFull_163 (by decide) ?_
                  exact K_167  (1 : Int32) _ _ _ hS h (lv_sub hl [] rfl)
            · replace h := ez_ifn h c_115
              refine lv_aload_n hx hb dX12_isFull_118 rfl (lv_at hl 0 rfl) ?_
              refine eg_RX12_36 hC hS h dX12_isFull_119 (fun t_119 h => ?_)
              refine lv_aload_n hx hb dX12_isFull_122 rfl (lv_at hl 0 rfl) ?_
              refine eg_RX12_265 hC hS h dX12_isFull_123 (fun t_123 h => ?_)
              refine ez_ial hC hS h dX12_isFull_126 (fun t_126 h => ?_)
              refine lv_bipush (v := 6) hx hb dX12_isFull_127 (by decide) ?_
              refine lv_icmp_ne (tgt := 136) hx hb dX12_isFull_129 (by decide) (fun c_129 => ?_) (fun c_129 => ?_)
              · replace h := ez_ifn h c_129
                refine lv_iconst (v := 0) hx hb dX12_isFull_136 (by decide) ?_
                exact K_137  (0 : Int32) _ _ _ hS h (lv_sub hl [] rfl)
              · replace h := ez_ifp h c_129
                refine lv_iconst (v := 1) hx hb dX12_isFull_132 (by decide) ?_
                refine lv_goto (tgt := 137) hx hb dX12_isFull_133 (by decide) ?_
                exact K_137  (1 : Int32) _ _ _ hS h (lv_sub hl [] rfl)
          · replace h := ez_ifn h c_85
            refine lv_aload_n hx hb dX12_isFull_88 rfl (lv_at hl 0 rfl) ?_
            refine eg_RX12_33 hC hS h dX12_isFull_89 (fun t_89 h => ?_)
            refine lv_aload_n hx hb dX12_isFull_92 rfl (lv_at hl 0 rfl) ?_
            refine eg_RX12_265 hC hS h dX12_isFull_93 (fun t_93 h => ?_)
            refine ez_ial hC hS h dX12_isFull_96 (fun t_96 h => ?_)
            refine lv_bipush (v := 6) hx hb dX12_isFull_97 (by decide) ?_
            refine lv_icmp_ne (tgt := 106) hx hb dX12_isFull_99 (by decide) (fun c_99 => ?_) (fun c_99 => ?_)
            · replace h := ez_ifn h c_99
              refine lv_iconst (v := 0) hx hb dX12_isFull_106 (by decide) ?_
              exact K_107  (0 : Int32) _ _ _ hS h (lv_sub hl [] rfl)
            · replace h := ez_ifp h c_99
              refine lv_iconst (v := 1) hx hb dX12_isFull_102 (by decide) ?_
              refine lv_goto (tgt := 107) hx hb dX12_isFull_103 (by decide) ?_
              exact K_107  (1 : Int32) _ _ _ hS h (lv_sub hl [] rfl)
        · replace h := ez_ifn h c_55
          refine lv_aload_n hx hb dX12_isFull_58 rfl (lv_at hl 0 rfl) ?_
          refine eg_RX12_30 hC hS h dX12_isFull_59 (fun t_59 h => ?_)
          refine lv_aload_n hx hb dX12_isFull_62 rfl (lv_at hl 0 rfl) ?_
          refine eg_RX12_265 hC hS h dX12_isFull_63 (fun t_63 h => ?_)
          refine ez_ial hC hS h dX12_isFull_66 (fun t_66 h => ?_)
          refine lv_bipush (v := 8) hx hb dX12_isFull_67 (by decide) ?_
          refine lv_icmp_ne (tgt := 76) hx hb dX12_isFull_69 (by decide) (fun c_69 => ?_) (fun c_69 => ?_)
          · replace h := ez_ifn h c_69
            refine lv_iconst (v := 0) hx hb dX12_isFull_76 (by decide) ?_
            exact K_77  (0 : Int32) _ _ _ hS h (lv_sub hl [] rfl)
          · replace h := ez_ifp h c_69
            refine lv_iconst (v := 1) hx hb dX12_isFull_72 (by decide) ?_
            refine lv_goto (tgt := 77) hx hb dX12_isFull_73 (by decide) ?_
            exact K_77  (1 : Int32) _ _ _ hS h (lv_sub hl [] rfl)
      · replace h := ez_ifn h c_39
        refine lv_aload_n hx hb dX12_isFull_42 rfl (lv_at hl 0 rfl) ?_
        refine lv_iconst (v := 2) hx hb dX12_isFull_43 (by decide) ?_
        refine ez_cVpi (As := [.int 2]) (rest := []) h (fun _ q => c_X12_isLate q) hC k_X12_isLate ql_RX12_283 rfl (by decide) hS (fun _ q => ez_rcv q) rfl hl.1 rfl (Nat.le_of_ble_eq_true rfl) ⟨Nat.zero_le _, Nat.zero_le _⟩ dX12_isFull_44 (fun t_44 H locs hS h => ?_)
        obtain ⟨hn, h⟩ := ez_nr_sp rfl h
        exact hret _ _ _ _ _ (Option.some.inj h) hn hS dX12_isFull_47
    · replace h := ez_ifn h c_23
      refine lv_aload_n hx hb dX12_isFull_26 rfl (lv_at hl 0 rfl) ?_
      refine lv_iconst (v := 1) hx hb dX12_isFull_27 (by decide) ?_
      refine ez_cVpi (As := [.int 1]) (rest := []) h (fun _ q => c_X12_isLate q) hC k_X12_isLate ql_RX12_283 rfl (by decide) hS (fun _ q => ez_rcv q) rfl hl.1 rfl (Nat.le_of_ble_eq_true rfl) ⟨Nat.zero_le _, Nat.zero_le _⟩ dX12_isFull_28 (fun t_28 H locs hS h => ?_)
      obtain ⟨hn, h⟩ := ez_nr_sp rfl h
      exact hret _ _ _ _ _ (Option.some.inj h) hn hS dX12_isFull_31
  · replace h := ez_ifn h c_7
    refine lv_aload_n hx hb dX12_isFull_10 rfl (lv_at hl 0 rfl) ?_
    refine lv_iconst (v := 0) hx hb dX12_isFull_11 (by decide) ?_
    refine ez_cVpi (As := [.int 0]) (rest := []) h (fun _ q => c_X12_isLate q) hC k_X12_isLate ql_RX12_283 rfl (by decide) hS (fun _ q => ez_rcv q) rfl hl.1 rfl (Nat.le_of_ble_eq_true rfl) ⟨Nat.zero_le _, Nat.zero_le _⟩ dX12_isFull_12 (fun t_12 H locs hS h => ?_)
    obtain ⟨hn, h⟩ := ez_nr_sp rfl h
    exact hret _ _ _ _ _ (Option.some.inj h) hn hS dX12_isFull_15
set_option maxHeartbeats 4000000 in
set_option maxRecDepth 100000 in
theorem c_X12_fails {l : Launch} {X : ez_X} {B : Nat} {σ : ez_H} {h0 : Nat} {x1 : Int32} {x2 : Int32} {z : Unit × ez_H} (h : z_X12_fails σ h0 x1 x2 = some z) : ez_M l X B σ yX12_fails cX12_fails 3 (none) 0 [.ref (B + h0), .int x1, .int x2] (none) z.2 := by
  refine ez_startv (z := z) (by decide) (Nat.le_of_ble_eq_true rfl) (fun p e R s m args below meth c Q hC hret hS ls hl => ?_)
  have hC : ez_C p R s m args c X B RX12 cX12_fails 3 0 := hC
  have hx := hC.1.1
  have hb := hC.1.2.1
  have hown := hC.1.2.2.2.1
  have hts := hC.1.2.2.2.2
  have hl : lv_has ls 3 [(0, .ref (B + h0)), (1, .int x1), (2, .int x2)] := hl
  obtain ⟨σ0, eσ⟩ : ∃ σ0 : ez_H, σ0 = σ := ⟨_, rfl⟩
  rw [← eσ] at hret
  have hS : ez_S X B s.heap σ0.length σ s.heap [] := eσ ▸ hS
  obtain ⟨-, h⟩ := ez_in h
  refine lv_aload_n hx hb dX12_fails_0 rfl (lv_at hl 0 rfl) ?_
  refine eg_RX12_164 hC hS h dX12_fails_1 (fun t_1 h => ?_)
  refine lv_if_le (tgt := 8) hx hb dX12_fails_4 (by decide) (fun c_4 => ?_) (fun c_4 => ?_)
  · replace h := ez_ifp h c_4
    refine lv_aload_n hx hb dX12_fails_8 rfl (lv_at hl 0 rfl) ?_
    refine lv_iload_n hx hb dX12_fails_9 rfl (lv_at hl 1 rfl) ?_
    refine ep_RX12_164 hC hS h dX12_fails_10 (fun σ H locs hS h => ?_)
    refine lv_aload_n hx hb dX12_fails_13 rfl (lv_at hl 0 rfl) ?_
    refine lv_iload_n hx hb dX12_fails_14 rfl (lv_at hl 2 rfl) ?_
    refine ep_RX12_16 hC hS h dX12_fails_15 (fun σ H locs hS h => ?_)
    exact hret _ _ _ _ _ _ (Option.some.inj h) hS dX12_fails_18
  · replace h := ez_ifn h c_4
    exact hret _ _ _ _ _ _ (Option.some.inj h) hS dX12_fails_7
set_option maxHeartbeats 4000000 in
set_option maxRecDepth 100000 in
theorem c_X12_misplaced {l : Launch} {X : ez_X} {B : Nat} {σ : ez_H} {h0 : Nat} {z : Unit × ez_H} (h : z_X12_misplaced σ h0 = some z) : ez_M l X B σ yX12_misplaced cX12_misplaced 1 (none) 1 [.ref (B + h0)] (none) z.2 := by
  refine ez_startv (z := z) (by decide) (Nat.le_of_ble_eq_true rfl) (fun p e R s m args below meth c Q hC hret hS ls hl => ?_)
  have hC : ez_C p R s m args c X B RX12 cX12_misplaced 1 1 := hC
  have hx := hC.1.1
  have hb := hC.1.2.1
  have hown := hC.1.2.2.2.1
  have hts := hC.1.2.2.2.2
  have hl : lv_has ls 1 [(0, .ref (B + h0))] := hl
  obtain ⟨σ0, eσ⟩ : ∃ σ0 : ez_H, σ0 = σ := ⟨_, rfl⟩
  rw [← eσ] at hret
  have hS : ez_S X B s.heap σ0.length σ s.heap [] := eσ ▸ hS
  obtain ⟨-, h⟩ := ez_in h
  have K_14 : ∀ (σ : ez_H) (h0 : Nat) (y0 : Nat) (y1 : Int32) (H : Heap) (locs : List Loc) (ls : Array Slot), ez_S X B s.heap (σ0.length) σ H locs → z_X12_misplaced_14 σ h0 y0 y1 = some z → lv_has ls 1 [(0, .ref (B + h0))] → W p l e R s m args below meth c H locs 0 0 Q (F0 m 14 ls [.int y1, .ref (B + y0)]) := by
    intro σ h0 y0 y1 H locs ls hS h hl
    refine lv_aload_n hx hb dX12_misplaced_14 rfl (lv_at hl 0 rfl) ?_
    refine eg_RX12_216 hC hS h dX12_misplaced_15 (fun t_15 h => ?_)
    refine ez_cVv (As := [.int y1, .int t_15]) (rest := []) h (fun _ q => c_X12_fails q) hC k_X12_fails ql_RX12_247 rfl (by decide) hS (fun _ q => ez_rcv q) rfl hl.1 rfl (Nat.le_of_ble_eq_true rfl) ⟨Nat.zero_le _, Nat.zero_le _⟩ dX12_misplaced_18 (fun _ σ H locs hS h => ?_)
    exact hret _ _ _ _ _ _ (Option.some.inj h) hS dX12_misplaced_21
  refine lv_aload_n hx hb dX12_misplaced_0 rfl (lv_at hl 0 rfl) ?_
  refine lv_aload_n hx hb dX12_misplaced_1 rfl (lv_at hl 0 rfl) ?_
  refine eg_RX12_223 hC hS h dX12_misplaced_2 (fun t_2 h => ?_)
  refine lv_iconst (v := 1) hx hb dX12_misplaced_5 (by decide) ?_
  refine lv_icmp_ne (tgt := 13) hx hb dX12_misplaced_6 (by decide) (fun c_6 => ?_) (fun c_6 => ?_)
  · replace h := ez_ifn h c_6
    refine lv_iconst (v := 2) hx hb dX12_misplaced_13 (by decide) ?_
    exact K_14  σ h0 h0 (2 : Int32) _ _ _ hS h (lv_sub hl [0] rfl)
  · replace h := ez_ifp h c_6
    refine lv_iconst (v := 1) hx hb dX12_misplaced_9 (by decide) ?_
    refine lv_goto (tgt := 14) hx hb dX12_misplaced_10 (by decide) ?_
    exact K_14  σ h0 h0 (1 : Int32) _ _ _ hS h (lv_sub hl [0] rfl)
set_option maxHeartbeats 4000000 in
set_option maxRecDepth 100000 in
theorem c_X12_numeral {l : Launch} {X : ez_X} {B : Nat} {σ : ez_H} {h0 : Nat} {x1 : Int32} {x2 : Int32} {x3 : Int32} {z : Int32 × ez_H} (h : z_X12_numeral σ h0 x1 x2 x3 = some z) : ez_M l X B σ yX12_numeral cX12_numeral 5 (some .int) 2 [.ref (B + h0), .int x1, .int x2, .int x3] (some (.int z.1)) z.2 := by
  refine ez_starti (z := z) (by decide) (Nat.le_of_ble_eq_true rfl) (fun p e R s m args below meth c Q hC hret hS ls hl => ?_)
  have hC : ez_C p R s m args c X B RX12 cX12_numeral 5 2 := hC
  have hx := hC.1.1
  have hb := hC.1.2.1
  have hown := hC.1.2.2.2.1
  have hts := hC.1.2.2.2.2
  have hl : lv_has ls 5 [(0, .ref (B + h0)), (1, .int x1), (2, .int x2), (3, .int x3)] := hl
  obtain ⟨σ0, eσ⟩ : ∃ σ0 : ez_H, σ0 = σ := ⟨_, rfl⟩
  rw [← eσ] at hret
  have hS : ez_S X B s.heap σ0.length σ s.heap [] := eσ ▸ hS
  obtain ⟨-, h⟩ := ez_in h
  have K_110 : ∀ (σ : ez_H) (y0 : Int32) (H : Heap) (locs : List Loc) (ls : Array Slot), ez_S X B s.heap (σ0.length) σ H locs → z_X12_numeral_110 σ y0 = some z → lv_has ls 5 [] → W p l e R s m args below meth c H locs 0 0 Q (F0 m 110 ls [.int y0]) := by
    intro σ y0 H locs ls hS h hl
    exact hret _ _ _ _ _ _ (Option.some.inj h) rfl hS dX12_numeral_110
  have K_97 : ∀ (σ : ez_H) (h0 : Nat) (x1 : Int32) (x4 : Int32) (H : Heap) (locs : List Loc) (ls : Array Slot), ez_S X B s.heap (σ0.length) σ H locs → z_X12_numeral_97 σ h0 x1 x4 = some z → lv_has ls 5 [(0, .ref (B + h0)), (1, .int x1), (4, .int x4)] → W p l e R s m args below meth c H locs 0 0 Q (F0 m 97 ls []) := by
    intro σ h0 x1 x4 H locs ls hS h hl
    refine lv_aload_n hx hb dX12_numeral_97 rfl (lv_at hl 0 rfl) ?_
    refine ez_cVpi (As := []) (rest := []) h (fun _ q => c_X12_isGood q) hC k_X12_isGood ql_RX12_251 rfl (by decide) hS (fun _ q => ez_rcv q) rfl hl.1 rfl (Nat.le_of_ble_eq_true rfl) ⟨Nat.zero_le _, Nat.zero_le _⟩ dX12_numeral_98 (fun t_98 H locs hS h => ?_)
    refine lv_if_eq (tgt := 109) hx hb dX12_numeral_101 (by decide) (fun c_101 => ?_) (fun c_101 => ?_)
    · replace h := ez_ifp h c_101
      refine lv_iload_n hx hb dX12_numeral_109 rfl (lv_at hl 1 rfl) ?_
      exact K_110  σ x1 _ _ _ hS h (lv_sub hl [] rfl)
    · replace h := ez_ifn h c_101
      refine lv_iload hx hb dX12_numeral_104 (lv_at hl 2 rfl) ?_
      refine lv_goto (tgt := 110) hx hb dX12_numeral_106 (by decide) ?_
      exact K_110  σ x4 _ _ _ hS h (lv_sub hl [] rfl)
  have K_80 : ∀ (σ : ez_H) (h0 : Nat) (x1 : Int32) (H : Heap) (locs : List Loc) (ls : Array Slot), ez_S X B s.heap (σ0.length) σ H locs → z_X12_numeral_80 σ h0 x1 = some z → lv_has ls 5 [(0, .ref (B + h0)), (1, .int x1)] → W p l e R s m args below meth c H locs 0 0 Q (F0 m 80 ls []) := by
    intro σ h0 x1 H locs ls hS h hl
    refine lv_aload_n hx hb dX12_numeral_80 rfl (lv_at hl 0 rfl) ?_
    refine eg_RX12_241 hC hS h dX12_numeral_81 (fun t_81 h => ?_)
    refine lv_istore (lv' := [(4, .int t_81), (0, .ref (B + h0)), (1, .int x1)]) hx hb dX12_numeral_84 hl (by decide) rfl (fun ls hl => ?_)
    refine lv_aload_n hx hb dX12_numeral_86 rfl (lv_at hl 1 rfl) ?_
    refine ez_cVpi (As := []) (rest := []) h (fun _ q => c_X12_isGood q) hC k_X12_isGood ql_RX12_251 rfl (by decide) hS (fun _ q => ez_rcv q) rfl hl.1 rfl (Nat.le_of_ble_eq_true rfl) ⟨Nat.zero_le _, Nat.zero_le _⟩ dX12_numeral_87 (fun t_87 H locs hS h => ?_)
    refine lv_if_eq (tgt := 97) hx hb dX12_numeral_90 (by decide) (fun c_90 => ?_) (fun c_90 => ?_)
    · replace h := ez_ifp h c_90
      exact K_97  σ h0 x1 t_81 _ _ _ hS h (lv_sub hl [1, 2, 0] rfl)
    · replace h := ez_ifn h c_90
      refine lv_aload_n hx hb dX12_numeral_93 rfl (lv_at hl 1 rfl) ?_
      refine ez_cVv (As := []) (rest := []) h (fun _ q => c_X12_goOn q) hC k_X12_goOn ql_RX12_255 rfl (by decide) hS (fun _ q => ez_rcv q) rfl hl.1 rfl (Nat.le_of_ble_eq_true rfl) ⟨Nat.zero_le _, Nat.zero_le _⟩ dX12_numeral_94 (fun _ σ H locs hS h => ?_)
      exact K_97  σ h0 x1 t_81 _ _ _ hS h (lv_sub hl [1, 2, 0] rfl)
  have K_53 : ∀ (σ : ez_H) (h0 : Nat) (x1 : Int32) (x3 : Int32) (H : Heap) (locs : List Loc) (ls : Array Slot), ez_S X B s.heap (σ0.length) σ H locs → z_X12_numeral_53 σ h0 x1 x3 = some z → lv_has ls 5 [(0, .ref (B + h0)), (1, .int x1), (3, .int x3)] → W p l e R s m args below meth c H locs 0 0 Q (F0 m 53 ls []) := by
    intro σ h0 x1 x3 H locs ls hS h hl
    refine lv_aload_n hx hb dX12_numeral_53 rfl (lv_at hl 0 rfl) ?_
    refine ez_cVpi (As := []) (rest := []) h (fun _ q => c_X12_isGood q) hC k_X12_isGood ql_RX12_251 rfl (by decide) hS (fun _ q => ez_rcv q) rfl hl.1 rfl (Nat.le_of_ble_eq_true rfl) ⟨Nat.zero_le _, Nat.zero_le _⟩ dX12_numeral_54 (fun t_54 H locs hS h => ?_)
    refine lv_if_eq (tgt := 80) hx hb dX12_numeral_57 (by decide) (fun c_57 => ?_) (fun c_57 => ?_)
    · replace h := ez_ifp h c_57
      exact K_80  σ h0 x1 _ _ _ hS h (lv_sub hl [0, 1] rfl)
    · replace h := ez_ifn h c_57
      refine lv_iload_n hx hb dX12_numeral_60 rfl (lv_at hl 2 rfl) ?_
      refine lv_aload_n hx hb dX12_numeral_61 rfl (lv_at hl 0 rfl) ?_
      refine eg_RX12_241 hC hS h dX12_numeral_62 (fun t_62 h => ?_)
      refine ez_cSpi (As := [.int x3, .int t_62]) (rest := []) h (fun _ q => c_X12_bit q) hC k_X12_bit ql_RX12_261 rfl (by decide) hS hl.1 rfl (Nat.le_of_ble_eq_true rfl) ⟨Nat.zero_le _, Nat.zero_le _⟩ dX12_numeral_65 (fun t_65 H locs hS h => ?_)
      refine lv_if_eq (tgt := 80) hx hb dX12_numeral_68 (by decide) (fun c_68 => ?_) (fun c_68 => ?_)
      · replace h := ez_ifp h c_68
        exact K_80  σ h0 x1 _ _ _ hS h (lv_sub hl [0, 1] rfl)
      · replace h := ez_ifn h c_68
        refine lv_aload_n hx hb dX12_numeral_71 rfl (lv_at hl 0 rfl) ?_
        refine lv_iconst (v := 3) hx hb dX12_numeral_72 (by decide) ?_
        refine lv_aload_n hx hb dX12_numeral_73 rfl (lv_at hl 0 rfl) ?_
        refine eg_RX12_216 hC hS h dX12_numeral_74 (fun t_74 h => ?_)
        refine ez_cVv (As := [.int 3, .int t_74]) (rest := []) h (fun _ q => c_X12_fails q) hC k_X12_fails ql_RX12_247 rfl (by decide) hS (fun _ q => ez_rcv q) rfl hl.1 rfl (Nat.le_of_ble_eq_true rfl) ⟨Nat.zero_le _, Nat.zero_le _⟩ dX12_numeral_77 (fun _ σ H locs hS h => ?_)
        exact K_80  σ h0 x1 _ _ _ hS h (lv_sub hl [0, 1] rfl)
  have K_44 : ∀ (σ : ez_H) (h0 : Nat) (x1 : Int32) (x3 : Int32) (H : Heap) (locs : List Loc) (ls : Array Slot), ez_S X B s.heap (σ0.length) σ H locs → z_X12_numeral_44 σ h0 x1 x3 = some z → lv_has ls 5 [(0, .ref (B + h0)), (1, .int x1), (3, .int x3)] → W p l e R s m args below meth c H locs 0 0 Q (F0 m 44 ls []) := by
    intro σ h0 x1 x3 H locs ls hS h hl
    refine lv_aload_n hx hb dX12_numeral_44 rfl (lv_at hl 0 rfl) ?_
    refine lv_iconst (v := 4) hx hb dX12_numeral_45 (by decide) ?_
    refine lv_aload_n hx hb dX12_numeral_46 rfl (lv_at hl 0 rfl) ?_
    refine eg_RX12_216 hC hS h dX12_numeral_47 (fun t_47 h => ?_)
    refine ez_cVv (As := [.int 4, .int t_47]) (rest := []) h (fun _ q => c_X12_fails q) hC k_X12_fails ql_RX12_247 rfl (by decide) hS (fun _ q => ez_rcv q) rfl hl.1 rfl (Nat.le_of_ble_eq_true rfl) ⟨Nat.zero_le _, Nat.zero_le _⟩ dX12_numeral_50 (fun _ σ H locs hS h => ?_)
    exact K_53  σ h0 x1 x3 _ _ _ hS h (lv_sub hl [0, 1, 2] rfl)
  have K_21 : ∀ (σ : ez_H) (h0 : Nat) (x1 : Int32) (x2 : Int32) (x3 : Int32) (H : Heap) (locs : List Loc) (ls : Array Slot), ez_S X B s.heap (σ0.length) σ H locs → z_X12_numeral_21 σ h0 x1 x2 x3 = some z → lv_has ls 5 [(0, .ref (B + h0)), (1, .int x1), (2, .int x2), (3, .int x3)] → W p l e R s m args below meth c H locs 0 0 Q (F0 m 21 ls []) := by
    intro σ h0 x1 x2 x3 H locs ls hS h hl
    refine lv_aload_n hx hb dX12_numeral_21 rfl (lv_at hl 0 rfl) ?_
    refine ez_cVpi (As := []) (rest := []) h (fun _ q => c_X12_isGood q) hC k_X12_isGood ql_RX12_251 rfl (by decide) hS (fun _ q => ez_rcv q) rfl hl.1 rfl (Nat.le_of_ble_eq_true rfl) ⟨Nat.zero_le _, Nat.zero_le _⟩ dX12_numeral_22 (fun t_22 H locs hS h => ?_)
    refine lv_if_eq (tgt := 53) hx hb dX12_numeral_25 (by decide) (fun c_25 => ?_) (fun c_25 => ?_)
    · replace h := ez_ifp h c_25
      exact K_53  σ h0 x1 x3 _ _ _ hS h (lv_sub hl [0, 1, 3] rfl)
    · replace h := ez_ifn h c_25
      refine lv_aload_n hx hb dX12_numeral_28 rfl (lv_at hl 0 rfl) ?_
      refine eg_RX12_241 hC hS h dX12_numeral_29 (fun t_29 h => ?_)
      refine lv_iload_n hx hb dX12_numeral_32 rfl (lv_at hl 1 rfl) ?_
      refine lv_icmp_lt (tgt := 44) hx hb dX12_numeral_33 (by decide) (fun c_33 => ?_) (fun c_33 => ?_)
      · replace h := ez_ifp h c_33
        exact K_44  σ h0 x1 x3 _ _ _ hS h (lv_sub hl [0, 1, 3] rfl)
      · replace h := ez_ifn h c_33
        refine lv_aload_n hx hb dX12_numeral_36 rfl (lv_at hl 0 rfl) ?_
        refine eg_RX12_241 hC hS h dX12_numeral_37 (fun t_37 h => ?_)
        refine lv_iload_n hx hb dX12_numeral_40 rfl (lv_at hl 2 rfl) ?_
        refine lv_icmp_le (tgt := 53) hx hb dX12_numeral_41 (by decide) (fun c_41 => ?_) (fun c_41 => ?_)
        · replace h := ez_ifp h c_41
          exact K_53  σ h0 x1 x3 _ _ _ hS h (lv_sub hl [0, 1, 3] rfl)
        · replace h := ez_ifn h c_41
          exact K_44  σ h0 x1 x3 _ _ _ hS h (lv_sub hl [0, 1, 3] rfl)
  refine lv_aload_n hx hb dX12_numeral_0 rfl (lv_at hl 0 rfl) ?_
  refine ez_cVpi (As := []) (rest := []) h (fun _ q => c_X12_isGood q) hC k_X12_isGood ql_RX12_251 rfl (by decide) hS (fun _ q => ez_rcv q) rfl hl.1 rfl (Nat.le_of_ble_eq_true rfl) ⟨Nat.zero_le _, Nat.zero_le _⟩ dX12_numeral_1 (fun t_1 H locs hS h => ?_)
  refine lv_if_ne (tgt := 9) hx hb dX12_numeral_4 (by decide) (fun c_4 => ?_) (fun c_4 => ?_)
  · replace h := ez_ifn h c_4
    refine lv_aload_n hx hb dX12_numeral_9 rfl (lv_at hl 0 rfl) ?_
    refine eg_RX12_223 hC hS h dX12_numeral_10 (fun t_10 h => ?_)
    refine lv_iconst (v := 4) hx hb dX12_numeral_13 (by decide) ?_
    refine lv_icmp_eq (tgt := 21) hx hb dX12_numeral_14 (by decide) (fun c_14 => ?_) (fun c_14 => ?_)
    · replace h := ez_ifp h c_14
      exact K_21  σ h0 x1 x2 x3 _ _ _ hS h (lv_sub hl [0, 1, 2, 3] rfl)
    · replace h := ez_ifn h c_14
      refine lv_aload_n hx hb dX12_numeral_17 rfl (lv_at hl 0 rfl) ?_
      refine ez_cVv (As := []) (rest := []) h (fun _ q => c_X12_misplaced q) hC k_X12_misplaced ql_RX12_258 rfl (by decide) hS (fun _ q => ez_rcv q) rfl hl.1 rfl (Nat.le_of_ble_eq_true rfl) ⟨Nat.zero_le _, Nat.zero_le _⟩ dX12_numeral_18 (fun _ σ H locs hS h => ?_)
      exact K_21  σ h0 x1 x2 x3 _ _ _ hS h (lv_sub hl [0, 1, 2, 3] rfl)
  · replace h := ez_ifp h c_4
    refine lv_iload_n hx hb dX12_numeral_7 rfl (lv_at hl 1 rfl) ?_
    exact hret _ _ _ _ _ _ (Option.some.inj h) rfl hS dX12_numeral_8
set_option maxHeartbeats 4000000 in
set_option maxRecDepth 100000 in
theorem c_X12_once {l : Launch} {X : ez_X} {B : Nat} {σ : ez_H} {h0 : Nat} {x1 : Int32} {x2 : Int32} {x3 : Int32} {z : Int32 × ez_H} (h : z_X12_once σ h0 x1 x2 x3 = some z) : ez_M l X B σ yX12_once cX12_once 4 (some .int) 3 [.ref (B + h0), .int x1, .int x2, .int x3] (some (.int z.1)) z.2 := by
  refine ez_starti (z := z) (by decide) (Nat.le_of_ble_eq_true rfl) (fun p e R s m args below meth c Q hC hret hS ls hl => ?_)
  have hC : ez_C p R s m args c X B RX12 cX12_once 4 3 := hC
  have hx := hC.1.1
  have hb := hC.1.2.1
  have hown := hC.1.2.2.2.1
  have hts := hC.1.2.2.2.2
  have hl : lv_has ls 4 [(0, .ref (B + h0)), (1, .int x1), (2, .int x2), (3, .int x3)] := hl
  obtain ⟨σ0, eσ⟩ : ∃ σ0 : ez_H, σ0 = σ := ⟨_, rfl⟩
  rw [← eσ] at hret
  have hS : ez_S X B s.heap σ0.length σ s.heap [] := eσ ▸ hS
  obtain ⟨-, h⟩ := ez_in h
  refine lv_aload_n hx hb dX12_once_0 rfl (lv_at hl 0 rfl) ?_
  refine eg_RX12_51 hC hS h dX12_once_1 (fun t_1 h => ?_)
  refine lv_aload_n hx hb dX12_once_4 rfl (lv_at hl 0 rfl) ?_
  refine eg_RX12_265 hC hS h dX12_once_5 (fun t_5 h => ?_)
  refine lv_dup2_11 hx hb dX12_once_8 rfl rfl ?_
  refine ez_ial hC hS h dX12_once_9 (fun t_9 h => ?_)
  refine lv_iconst (v := 1) hx hb dX12_once_10 (by decide) ?_
  refine lv_iload_n hx hb dX12_once_11 rfl (lv_at hl 1 rfl) ?_
  refine lv_ishl hx hb dX12_once_12 ?_
  refine ez_top h (fun t_12 h => ?_)
  refine lv_ior hx hb dX12_once_13 ?_
  refine ez_top h (fun t_13 h => ?_)
  refine ez_ias hC hS h dX12_once_14 (fun σ H locs hS h => ?_)
  refine lv_aload_n hx hb dX12_once_15 rfl (lv_at hl 0 rfl) ?_
  refine lv_iload_n hx hb dX12_once_16 rfl (lv_at hl 2 rfl) ?_
  refine lv_iload_n hx hb dX12_once_17 rfl (lv_at hl 3 rfl) ?_
  refine lv_iconst (v := 0) hx hb dX12_once_18 (by decide) ?_
  refine ez_cVi (As := [.int x2, .int x3, .int 0]) (rest := []) h (fun _ q => c_X12_numeral q) hC k_X12_numeral ql_RX12_286 rfl (by decide) hS (fun _ q => ez_rcv q) rfl hl.1 rfl (Nat.le_of_ble_eq_true rfl) ⟨Nat.zero_le _, Nat.zero_le _⟩ dX12_once_19 (fun t_19 σ H locs hS h => ?_)
  exact hret _ _ _ _ _ _ (Option.some.inj h) rfl hS dX12_once_22
set_option maxHeartbeats 4000000 in
set_option maxRecDepth 100000 in
theorem c_X12_here {l : Launch} {X : ez_X} {B : Nat} {σ : ez_H} {h0 : Nat} {h1 : Nat} {x2 : Int32} {x3 : Int32} {z : Int32} (h : z_X12_here σ h0 h1 x2 x3 = some z) : ez_M l X B σ yX12_here cX12_here 5 (some .int) 0 [.ref (B + h0), .ref (B + h1), .int x2, .int x3] (some (.int z)) σ := by
  refine ez_startip (z := z) (by decide) (Nat.le_of_ble_eq_true rfl) (fun p e R s m args below meth c Q hC hret hS ls hl => ?_)
  have hC : ez_C p R s m args c X B RX12 cX12_here 5 0 := hC
  have hx := hC.1.1
  have hb := hC.1.2.1
  have hown := hC.1.2.2.2.1
  have hts := hC.1.2.2.2.2
  have hl : lv_has ls 5 [(0, .ref (B + h0)), (1, .ref (B + h1)), (2, .int x2), (3, .int x3)] := hl
  obtain ⟨n0, e0⟩ : ∃ n0 : Nat, n0 = σ.length := ⟨_, rfl⟩
  rw [← e0] at hret hS
  obtain ⟨-, h⟩ := ez_in h
  have K_34 : ∀ (k_3 : Nat → Nat → Int32 → Int32 → Int32 → Option (Int32)) (hk_3 : ∀ (h0 : Nat) (h1 : Nat) (x2 : Int32) (x3 : Int32) (x4 : Int32) (H : Heap) (locs : List Loc) (ls : Array Slot), ez_S X B s.heap (n0) σ H locs → k_3 h0 h1 x2 x3 x4 = some z → lv_has ls 5 [(0, .ref (B + h0)), (1, .ref (B + h1)), (2, .int x2), (3, .int x3), (4, .int x4)] → W p l e R s m args below meth c H locs 0 0 Q (F0 m 3 ls [])), ∀ (h0 : Nat) (h1 : Nat) (x2 : Int32) (x3 : Int32) (x4 : Int32) (H : Heap) (locs : List Loc) (ls : Array Slot), ez_S X B s.heap (n0) σ H locs → z_X12_here_34 σ k_3 h0 h1 x2 x3 x4 = some z → lv_has ls 5 [(0, .ref (B + h0)), (1, .ref (B + h1)), (2, .int x2), (3, .int x3), (4, .int x4)] → W p l e R s m args below meth c H locs 0 0 Q (F0 m 34 ls []) := by
    intro k_3 hk_3 h0 h1 x2 x3 x4 H locs ls hS h hl
    obtain ⟨t_34, e_34, h⟩ := ez_let_sp h
    refine lv_iinc (v := t_34) (lv' := [(4, .int t_34), (0, .ref (B + h0)), (1, .ref (B + h1)), (2, .int x2), (3, .int x3)]) hx hb dX12_here_34 hl (k := 4) rfl (by rw [e_34]; rfl) (by decide) rfl (fun ls hl => ?_)
    refine lv_goto (tgt := 3) hx hb dX12_here_37 (by decide) ?_
    exact hk_3 h0 h1 x2 x3 t_34 _ _ _ hS h (lv_sub hl [1, 2, 3, 4, 0] rfl)
  have K_3 : ∀ (k_3 : Nat → Nat → Int32 → Int32 → Int32 → Option (Int32)) (hk_3 : ∀ (h0 : Nat) (h1 : Nat) (x2 : Int32) (x3 : Int32) (x4 : Int32) (H : Heap) (locs : List Loc) (ls : Array Slot), ez_S X B s.heap (n0) σ H locs → k_3 h0 h1 x2 x3 x4 = some z → lv_has ls 5 [(0, .ref (B + h0)), (1, .ref (B + h1)), (2, .int x2), (3, .int x3), (4, .int x4)] → W p l e R s m args below meth c H locs 0 0 Q (F0 m 3 ls [])), ∀ (h0 : Nat) (h1 : Nat) (x2 : Int32) (x3 : Int32) (x4 : Int32) (H : Heap) (locs : List Loc) (ls : Array Slot), ez_S X B s.heap (n0) σ H locs → z_X12_here_3 σ k_3 h0 h1 x2 x3 x4 = some z → lv_has ls 5 [(0, .ref (B + h0)), (1, .ref (B + h1)), (2, .int x2), (3, .int x3), (4, .int x4)] → W p l e R s m args below meth c H locs 0 0 Q (F0 m 3 ls []) := by
    intro k_3 hk_3 h0 h1 x2 x3 x4 H locs ls hS h hl
    refine lv_iload hx hb dX12_here_3 (lv_at hl 4 rfl) ?_
    refine lv_iload_n hx hb dX12_here_5 rfl (lv_at hl 3 rfl) ?_
    refine lv_icmp_ge (tgt := 40) hx hb dX12_here_6 (by decide) (fun c_6 => ?_) (fun c_6 => ?_)
    · replace h := ez_ifp h c_6
      refine lv_iconst (v := -1) hx hb dX12_here_40 (by decide) ?_
      exact hret _ _ _ _ _ (Option.some.inj h) rfl hS dX12_here_41
    · replace h := ez_ifn h c_6
      refine lv_aload_n hx hb dX12_here_9 rfl (lv_at hl 0 rfl) ?_
      refine eg_RX12_223 hC hS h dX12_here_10 (fun t_10 h => ?_)
      refine lv_iconst (v := 2) hx hb dX12_here_13 (by decide) ?_
      refine lv_icmp_ne (tgt := 34) hx hb dX12_here_14 (by decide) (fun c_14 => ?_) (fun c_14 => ?_)
      · replace h := ez_ifn h c_14
        exact K_34 k_3 hk_3 h0 h1 x2 x3 x4 _ _ _ hS h (lv_sub hl [0, 1, 2, 3, 4] rfl)
      · replace h := ez_ifp h c_14
        refine lv_aload_n hx hb dX12_here_17 rfl (lv_at hl 1 rfl) ?_
        refine lv_iload_n hx hb dX12_here_18 rfl (lv_at hl 2 rfl) ?_
        refine lv_iload hx hb dX12_here_19 (lv_at hl 4 rfl) ?_
        refine lv_iadd hx hb dX12_here_21 ?_
        refine ez_top h (fun t_21 h => ?_)
        refine ez_lal hC hS h dX12_here_22 (fun t_22 h => ?_)
        refine lv_aload_n hx hb dX12_here_23 rfl (lv_at hl 0 rfl) ?_
        refine eg_RX12_230 hC hS h dX12_here_24 (fun t_24 h => ?_)
        refine W.lcmp hx hb dX12_here_27 ?_
        refine ez_top h (fun t_27 h => ?_)
        refine lv_if_ne (tgt := 34) hx hb dX12_here_28 (by decide) (fun c_28 => ?_) (fun c_28 => ?_)
        · replace h := ez_ifn h c_28
          exact K_34 k_3 hk_3 h0 h1 x2 x3 x4 _ _ _ hS h (lv_sub hl [0, 1, 2, 3, 4] rfl)
        · replace h := ez_ifp h c_28
          refine lv_iload hx hb dX12_here_31 (lv_at hl 4 rfl) ?_
          exact hret _ _ _ _ _ (Option.some.inj h) rfl hS dX12_here_33
  have E_3 : ∀ (h0 : Nat) (h1 : Nat) (x2 : Int32) (x3 : Int32) (x4 : Int32) (H : Heap) (locs : List Loc) (ls : Array Slot), ez_S X B s.heap (n0) σ H locs → (ez_fix (fun _ _ _ _ _ => none) (z_X12_here_3 σ) ez_N) h0 h1 x2 x3 x4 = some z → lv_has ls 5 [(0, .ref (B + h0)), (1, .ref (B + h1)), (2, .int x2), (3, .int x3), (4, .int x4)] → W p l e R s m args below meth c H locs 0 0 Q (F0 m 3 ls []) := ez_fix_ind (fun k_3 : Nat → Nat → Int32 → Int32 → Int32 → Option (Int32) => ∀ (h0 : Nat) (h1 : Nat) (x2 : Int32) (x3 : Int32) (x4 : Int32) (H : Heap) (locs : List Loc) (ls : Array Slot), ez_S X B s.heap (n0) σ H locs → k_3 h0 h1 x2 x3 x4 = some z → lv_has ls 5 [(0, .ref (B + h0)), (1, .ref (B + h1)), (2, .int x2), (3, .int x3), (4, .int x4)] → W p l e R s m args below meth c H locs 0 0 Q (F0 m 3 ls [])) (fun _ _ _ _ _ _ _ _ _ h _ => by cases h) (fun k_3 hk_3 => K_3 k_3 hk_3) ez_N
  refine lv_iconst (v := 0) hx hb dX12_here_0 (by decide) ?_
  refine lv_istore (lv' := [(4, .int 0), (0, .ref (B + h0)), (1, .ref (B + h1)), (2, .int x2), (3, .int x3)]) hx hb dX12_here_1 hl (by decide) rfl (fun ls hl => ?_)
  exact E_3  h0 h1 x2 x3 (0 : Int32) _ _ _ hS h (lv_sub hl [1, 2, 3, 4, 0] rfl)
set_option maxHeartbeats 4000000 in
set_option maxRecDepth 100000 in
theorem c_X12_keyHere {l : Launch} {X : ez_X} {B : Nat} {σ : ez_H} {h0 : Nat} {z : Int32} (h : z_X12_keyHere σ h0 = some z) : ez_M l X B σ yX12_keyHere cX12_keyHere 1 (some .int) 1 [.ref (B + h0)] (some (.int z)) σ := by
  refine ez_startip (z := z) (by decide) (Nat.le_of_ble_eq_true rfl) (fun p e R s m args below meth c Q hC hret hS ls hl => ?_)
  have hC : ez_C p R s m args c X B RX12 cX12_keyHere 1 1 := hC
  have hx := hC.1.1
  have hb := hC.1.2.1
  have hown := hC.1.2.2.2.1
  have hts := hC.1.2.2.2.2
  have hl : lv_has ls 1 [(0, .ref (B + h0))] := hl
  obtain ⟨n0, e0⟩ : ∃ n0 : Nat, n0 = σ.length := ⟨_, rfl⟩
  rw [← e0] at hret hS
  obtain ⟨-, h⟩ := ez_in h
  refine lv_aload_n hx hb dX12_keyHere_0 rfl (lv_at hl 0 rfl) ?_
  refine lv_aload_n hx hb dX12_keyHere_1 rfl (lv_at hl 0 rfl) ?_
  refine eg_RX12_87 hC hS h dX12_keyHere_2 (fun t_2 h => ?_)
  refine lv_bipush (v := 8) hx hb dX12_keyHere_5 (by decide) ?_
  refine lv_aload_n hx hb dX12_keyHere_7 rfl (lv_at hl 0 rfl) ?_
  refine eg_RX12_265 hC hS h dX12_keyHere_8 (fun t_8 h => ?_)
  refine lv_imul hx hb dX12_keyHere_11 ?_
  refine ez_top h (fun t_11 h => ?_)
  refine lv_aload_n hx hb dX12_keyHere_12 rfl (lv_at hl 0 rfl) ?_
  refine eg_RX12_30 hC hS h dX12_keyHere_13 (fun t_13 h => ?_)
  refine lv_aload_n hx hb dX12_keyHere_16 rfl (lv_at hl 0 rfl) ?_
  refine eg_RX12_265 hC hS h dX12_keyHere_17 (fun t_17 h => ?_)
  refine ez_ial hC hS h dX12_keyHere_20 (fun t_20 h => ?_)
  refine ez_cVpi (As := [.ref (B + t_2), .int t_11, .int t_20]) (rest := []) h (fun _ q => c_X12_here q) hC k_X12_here ql_RX12_325 rfl (by decide) hS (fun _ q => ez_rcv q) rfl hl.1 rfl (Nat.le_of_ble_eq_true rfl) ⟨Nat.zero_le _, Nat.zero_le _⟩ dX12_keyHere_21 (fun t_21 H locs hS h => ?_)
  exact hret _ _ _ _ _ (Option.some.inj h) rfl hS dX12_keyHere_24
set_option maxHeartbeats 4000000 in
set_option maxRecDepth 100000 in
theorem c_X12_fresh {l : Launch} {X : ez_X} {B : Nat} {σ : ez_H} {h0 : Nat} {x1 : Int32} {z : Int64 × ez_H} (h : z_X12_fresh σ h0 x1 = some z) : ez_M l X B σ yX12_fresh cX12_fresh 4 (some .long) 2 [.ref (B + h0), .int x1] (some (.long z.1)) z.2 := by
  refine ez_startl (z := z) (by decide) (Nat.le_of_ble_eq_true rfl) (fun p e R s m args below meth c Q hC hret hS ls hl => ?_)
  have hC : ez_C p R s m args c X B RX12 cX12_fresh 4 2 := hC
  have hx := hC.1.1
  have hb := hC.1.2.1
  have hown := hC.1.2.2.2.1
  have hts := hC.1.2.2.2.2
  have hl : lv_has ls 4 [(0, .ref (B + h0)), (1, .int x1)] := hl
  obtain ⟨σ0, eσ⟩ : ∃ σ0 : ez_H, σ0 = σ := ⟨_, rfl⟩
  rw [← eσ] at hret
  have hS : ez_S X B s.heap σ0.length σ s.heap [] := eσ ▸ hS
  obtain ⟨-, h⟩ := ez_in h
  have K_53 : ∀ (σ : ez_H) (x2 : Int64) (H : Heap) (locs : List Loc) (ls : Array Slot), ez_S X B s.heap (σ0.length) σ H locs → z_X12_fresh_53 σ x2 = some z → lv_has ls 4 [(2, .long x2)] → W p l e R s m args below meth c H locs 0 0 Q (F0 m 53 ls []) := by
    intro σ x2 H locs ls hS h hl
    refine lv_lload_n hx hb dX12_fresh_53 rfl (lv_at hl 0 rfl) ?_
    exact hret _ _ _ _ _ _ (Option.some.inj h) hS dX12_fresh_54
  have K_37 : ∀ (σ : ez_H) (h0 : Nat) (H : Heap) (locs : List Loc) (ls : Array Slot), ez_S X B s.heap (σ0.length) σ H locs → z_X12_fresh_37 σ h0 = some z → lv_has ls 4 [(0, .ref (B + h0))] → W p l e R s m args below meth c H locs 0 0 Q (F0 m 37 ls []) := by
    intro σ h0 H locs ls hS h hl
    refine lv_aload_n hx hb dX12_fresh_37 rfl (lv_at hl 0 rfl) ?_
    refine eg_RX12_230 hC hS h dX12_fresh_38 (fun t_38 h => ?_)
    refine lv_lstore_n (lv' := [(2, .long t_38), (0, .ref (B + h0))]) hx hb dX12_fresh_41 rfl hl (by decide) rfl (fun ls hl => ?_)
    refine lv_aload_n hx hb dX12_fresh_42 rfl (lv_at hl 1 rfl) ?_
    refine ez_cVpi (As := []) (rest := []) h (fun _ q => c_X12_isGood q) hC k_X12_isGood ql_RX12_251 rfl (by decide) hS (fun _ q => ez_rcv q) rfl hl.1 rfl (Nat.le_of_ble_eq_true rfl) ⟨Nat.zero_le _, Nat.zero_le _⟩ dX12_fresh_43 (fun t_43 H locs hS h => ?_)
    refine lv_if_eq (tgt := 53) hx hb dX12_fresh_46 (by decide) (fun c_46 => ?_) (fun c_46 => ?_)
    · replace h := ez_ifp h c_46
      exact K_53  σ t_38 _ _ _ hS h (lv_sub hl [0] rfl)
    · replace h := ez_ifn h c_46
      refine lv_aload_n hx hb dX12_fresh_49 rfl (lv_at hl 1 rfl) ?_
      refine ez_cVv (As := []) (rest := []) h (fun _ q => c_X12_goOn q) hC k_X12_goOn ql_RX12_255 rfl (by decide) hS (fun _ q => ez_rcv q) rfl hl.1 rfl (Nat.le_of_ble_eq_true rfl) ⟨Nat.zero_le _, Nat.zero_le _⟩ dX12_fresh_50 (fun _ σ H locs hS h => ?_)
      exact K_53  σ t_38 _ _ _ hS h (lv_sub hl [0] rfl)
  refine lv_aload_n hx hb dX12_fresh_0 rfl (lv_at hl 0 rfl) ?_
  refine ez_cVpi (As := []) (rest := []) h (fun _ q => c_X12_isGood q) hC k_X12_isGood ql_RX12_251 rfl (by decide) hS (fun _ q => ez_rcv q) rfl hl.1 rfl (Nat.le_of_ble_eq_true rfl) ⟨Nat.zero_le _, Nat.zero_le _⟩ dX12_fresh_1 (fun t_1 H locs hS h => ?_)
  refine lv_if_ne (tgt := 9) hx hb dX12_fresh_4 (by decide) (fun c_4 => ?_) (fun c_4 => ?_)
  · replace h := ez_ifn h c_4
    refine lv_aload_n hx hb dX12_fresh_9 rfl (lv_at hl 0 rfl) ?_
    refine eg_RX12_223 hC hS h dX12_fresh_10 (fun t_10 h => ?_)
    refine lv_iconst (v := 2) hx hb dX12_fresh_13 (by decide) ?_
    refine lv_icmp_eq (tgt := 24) hx hb dX12_fresh_14 (by decide) (fun c_14 => ?_) (fun c_14 => ?_)
    · replace h := ez_ifp h c_14
      refine lv_iload_n hx hb dX12_fresh_24 rfl (lv_at hl 1 rfl) ?_
      refine lv_if_lt (tgt := 37) hx hb dX12_fresh_25 (by decide) (fun c_25 => ?_) (fun c_25 => ?_)
      · replace h := ez_ifp h c_25
        exact K_37  σ h0 _ _ _ hS h (lv_sub hl [0] rfl)
      · replace h := ez_ifn h c_25
        refine lv_aload_n hx hb dX12_fresh_28 rfl (lv_at hl 0 rfl) ?_
        refine lv_iconst (v := 3) hx hb dX12_fresh_29 (by decide) ?_
        refine lv_aload_n hx hb dX12_fresh_30 rfl (lv_at hl 0 rfl) ?_
        refine eg_RX12_216 hC hS h dX12_fresh_31 (fun t_31 h => ?_)
        refine ez_cVv (As := [.int 3, .int t_31]) (rest := []) h (fun _ q => c_X12_fails q) hC k_X12_fails ql_RX12_247 rfl (by decide) hS (fun _ q => ez_rcv q) rfl hl.1 rfl (Nat.le_of_ble_eq_true rfl) ⟨Nat.zero_le _, Nat.zero_le _⟩ dX12_fresh_34 (fun _ σ H locs hS h => ?_)
        exact K_37  σ h0 _ _ _ hS h (lv_sub hl [0] rfl)
    · replace h := ez_ifn h c_14
      refine lv_aload_n hx hb dX12_fresh_17 rfl (lv_at hl 0 rfl) ?_
      refine ez_cVv (As := []) (rest := []) h (fun _ q => c_X12_misplaced q) hC k_X12_misplaced ql_RX12_258 rfl (by decide) hS (fun _ q => ez_rcv q) rfl hl.1 rfl (Nat.le_of_ble_eq_true rfl) ⟨Nat.zero_le _, Nat.zero_le _⟩ dX12_fresh_18 (fun _ σ H locs hS h => ?_)
      refine lv_goto (tgt := 37) hx hb dX12_fresh_21 (by decide) ?_
      exact K_37  σ h0 _ _ _ hS h (lv_sub hl [0] rfl)
  · replace h := ez_ifp h c_4
    refine lv_lconst (v := 0) hx hb dX12_fresh_7 (by decide) ?_
    exact hret _ _ _ _ _ _ (Option.some.inj h) hS dX12_fresh_8
set_option maxHeartbeats 4000000 in
set_option maxRecDepth 100000 in
theorem c_X12_held {l : Launch} {X : ez_X} {B : Nat} {σ : ez_H} {x0 : Int32} {x1 : Int32} {x2 : Int32} {z : Int32} (h : z_X12_held σ x0 x1 x2 = some z) : ez_M l X B σ yX12_held cX12_held 3 (some .int) 0 [.int x0, .int x1, .int x2] (some (.int z)) σ := by
  refine ez_startip (z := z) (by decide) (Nat.le_of_ble_eq_true rfl) (fun p e R s m args below meth c Q hC hret hS ls hl => ?_)
  have hC : ez_C p R s m args c X B RX12 cX12_held 3 0 := hC
  have hx := hC.1.1
  have hb := hC.1.2.1
  have hown := hC.1.2.2.2.1
  have hts := hC.1.2.2.2.2
  have hl : lv_has ls 3 [(0, .int x0), (1, .int x1), (2, .int x2)] := hl
  obtain ⟨n0, e0⟩ : ∃ n0 : Nat, n0 = σ.length := ⟨_, rfl⟩
  rw [← e0] at hret hS
  have K_19 : ∀ (y0 : Int32) (H : Heap) (locs : List Loc) (ls : Array Slot), ez_S X B s.heap (n0) σ H locs → z_X12_held_19 σ y0 = some z → lv_has ls 3 [] → W p l e R s m args below meth c H locs 0 0 Q (F0 m 19 ls [.int y0]) := by
    intro y0 H locs ls hS h hl
    exact hret _ _ _ _ _ (Option.some.inj h) rfl hS dX12_held_19
  refine lv_iload_n hx hb dX12_held_0 rfl (lv_at hl 0 rfl) ?_
  refine lv_iload_n hx hb dX12_held_1 rfl (lv_at hl 1 rfl) ?_
  refine lv_icmp_ge (tgt := 9) hx hb dX12_held_2 (by decide) (fun c_2 => ?_) (fun c_2 => ?_)
  · replace h := ez_ifp h c_2
    refine lv_iload_n hx hb dX12_held_9 rfl (lv_at hl 0 rfl) ?_
    refine lv_iload_n hx hb dX12_held_10 rfl (lv_at hl 2 rfl) ?_
    refine lv_icmp_le (tgt := 18) hx hb dX12_held_11 (by decide) (fun c_11 => ?_) (fun c_11 => ?_)
    · replace h := ez_ifp h c_11
      refine lv_iload_n hx hb dX12_held_18 rfl (lv_at hl 0 rfl) ?_
      exact K_19  x0 _ _ _ hS h (lv_sub hl [] rfl)
    · replace h := ez_ifn h c_11
      refine lv_iload_n hx hb dX12_held_14 rfl (lv_at hl 2 rfl) ?_
      refine lv_goto (tgt := 19) hx hb dX12_held_15 (by decide) ?_
      exact K_19  x2 _ _ _ hS h (lv_sub hl [] rfl)
  · replace h := ez_ifn h c_2
    refine lv_iload_n hx hb dX12_held_5 rfl (lv_at hl 1 rfl) ?_
    refine lv_goto (tgt := 19) hx hb dX12_held_6 (by decide) ?_
    exact K_19  x1 _ _ _ hS h (lv_sub hl [] rfl)
set_option maxHeartbeats 4000000 in
set_option maxRecDepth 100000 in
theorem c_X12_readKey {l : Launch} {X : ez_X} {B : Nat} {σ : ez_H} {h0 : Nat} {z : Unit × ez_H} (h : z_X12_readKey σ h0 = some z) : ez_M l X B σ yX12_readKey cX12_readKey 6 (none) 3 [.ref (B + h0)] (none) z.2 := by
  refine ez_startv (z := z) (by decide) (Nat.le_of_ble_eq_true rfl) (fun p e R s m args below meth c Q hC hret hS ls hl => ?_)
  have hC : ez_C p R s m args c X B RX12 cX12_readKey 6 3 := hC
  have hx := hC.1.1
  have hb := hC.1.2.1
  have hown := hC.1.2.2.2.1
  have hts := hC.1.2.2.2.2
  have hl : lv_has ls 6 [(0, .ref (B + h0))] := hl
  obtain ⟨σ0, eσ⟩ : ∃ σ0 : ez_H, σ0 = σ := ⟨_, rfl⟩
  rw [← eσ] at hret
  have hS : ez_S X B s.heap σ0.length σ s.heap [] := eσ ▸ hS
  obtain ⟨-, h⟩ := ez_in h
  have K_180 : ∀ (σ : ez_H) (h0 : Nat) (H : Heap) (locs : List Loc) (ls : Array Slot), ez_S X B s.heap (σ0.length) σ H locs → z_X12_readKey_180 σ h0 = some z → lv_has ls 6 [(0, .ref (B + h0))] → W p l e R s m args below meth c H locs 0 0 Q (F0 m 180 ls []) := by
    intro σ h0 H locs ls hS h hl
    refine lv_aload_n hx hb dX12_readKey_180 rfl (lv_at hl 0 rfl) ?_
    refine eg_RX12_30 hC hS h dX12_readKey_181 (fun t_181 h => ?_)
    refine lv_aload_n hx hb dX12_readKey_184 rfl (lv_at hl 0 rfl) ?_
    refine eg_RX12_265 hC hS h dX12_readKey_185 (fun t_185 h => ?_)
    refine lv_dup2_11 hx hb dX12_readKey_188 rfl rfl ?_
    refine ez_ial hC hS h dX12_readKey_189 (fun t_189 h => ?_)
    refine lv_iconst (v := 1) hx hb dX12_readKey_190 (by decide) ?_
    refine lv_iadd hx hb dX12_readKey_191 ?_
    refine ez_top h (fun t_191 h => ?_)
    refine ez_ias hC hS h dX12_readKey_192 (fun σ H locs hS h => ?_)
    exact hret _ _ _ _ _ _ (Option.some.inj h) hS dX12_readKey_193
  have K_153 : ∀ (k_41 : ez_H → Nat → Int32 → Int32 → Option (Unit × ez_H)) (hk_41 : ∀ (σ : ez_H) (h0 : Nat) (x1 : Int32) (x2 : Int32) (H : Heap) (locs : List Loc) (ls : Array Slot), ez_S X B s.heap (σ0.length) σ H locs → k_41 σ h0 x1 x2 = some z → lv_has ls 6 [(0, .ref (B + h0)), (1, .int x1), (2, .int x2)] → W p l e R s m args below meth c H locs 0 0 Q (F0 m 41 ls [])), ∀ (σ : ez_H) (h0 : Nat) (x1 : Int32) (x2 : Int32) (x4 : Int32) (y0 : Int32) (H : Heap) (locs : List Loc) (ls : Array Slot), ez_S X B s.heap (σ0.length) σ H locs → z_X12_readKey_153 k_41 σ h0 x1 x2 x4 y0 = some z → lv_has ls 6 [(0, .ref (B + h0)), (1, .int x1), (2, .int x2), (4, .int x4)] → W p l e R s m args below meth c H locs 0 0 Q (F0 m 153 ls [.int y0]) := by
    intro k_41 hk_41 σ h0 x1 x2 x4 y0 H locs ls hS h hl
    refine lv_istore (lv' := [(5, .int y0), (0, .ref (B + h0)), (1, .int x1), (2, .int x2), (4, .int x4)]) hx hb dX12_readKey_153 hl (by decide) rfl (fun ls hl => ?_)
    refine lv_aload_n hx hb dX12_readKey_155 rfl (lv_at hl 1 rfl) ?_
    refine eg_RX12_54 hC hS h dX12_readKey_156 (fun t_156 h => ?_)
    refine lv_iconst (v := 5) hx hb dX12_readKey_159 (by decide) ?_
    refine lv_iload_n hx hb dX12_readKey_160 rfl (lv_at hl 2 rfl) ?_
    refine lv_imul hx hb dX12_readKey_161 ?_
    refine ez_top h (fun t_161 h => ?_)
    refine lv_iload_n hx hb dX12_readKey_162 rfl (lv_at hl 3 rfl) ?_
    refine lv_iadd hx hb dX12_readKey_163 ?_
    refine ez_top h (fun t_163 h => ?_)
    refine lv_aload_n hx hb dX12_readKey_164 rfl (lv_at hl 1 rfl) ?_
    refine lv_iload hx hb dX12_readKey_165 (lv_at hl 4 rfl) ?_
    refine lv_iload hx hb dX12_readKey_167 (lv_at hl 0 rfl) ?_
    refine lv_iconst (v := 0) hx hb dX12_readKey_169 (by decide) ?_
    refine ez_cVi (As := [.int x4, .int y0, .int 0]) (rest := [.int t_163, .ref (B + t_156)]) h (fun _ q => c_X12_numeral q) hC k_X12_numeral ql_RX12_286 rfl (by decide) hS (fun _ q => ez_rcv q) rfl hl.1 rfl (Nat.le_of_ble_eq_true rfl) ⟨Nat.zero_le _, Nat.zero_le _⟩ dX12_readKey_170 (fun t_170 σ H locs hS h => ?_)
    refine ez_ias hC hS h dX12_readKey_173 (fun σ H locs hS h => ?_)
    obtain ⟨t_174, e_174, h⟩ := ez_let_sp h
    refine lv_iinc (v := t_174) (lv' := [(2, .int t_174), (5, .int y0), (0, .ref (B + h0)), (1, .int x1), (4, .int x4)]) hx hb dX12_readKey_174 hl (k := 3) rfl (by rw [e_174]; rfl) (by decide) rfl (fun ls hl => ?_)
    refine lv_goto (tgt := 41) hx hb dX12_readKey_177 (by decide) ?_
    exact hk_41 σ h0 x1 t_174 _ _ _ hS h (lv_sub hl [2, 3, 0] rfl)
  have K_107 : ∀ (k_41 : ez_H → Nat → Int32 → Int32 → Option (Unit × ez_H)) (hk_41 : ∀ (σ : ez_H) (h0 : Nat) (x1 : Int32) (x2 : Int32) (H : Heap) (locs : List Loc) (ls : Array Slot), ez_S X B s.heap (σ0.length) σ H locs → k_41 σ h0 x1 x2 = some z → lv_has ls 6 [(0, .ref (B + h0)), (1, .int x1), (2, .int x2)] → W p l e R s m args below meth c H locs 0 0 Q (F0 m 41 ls [])), ∀ (σ : ez_H) (h0 : Nat) (x1 : Int32) (x2 : Int32) (x3 : Int32) (y0 : Int32) (H : Heap) (locs : List Loc) (ls : Array Slot), ez_S X B s.heap (σ0.length) σ H locs → z_X12_readKey_107 k_41 σ h0 x1 x2 x3 y0 = some z → lv_has ls 6 [(0, .ref (B + h0)), (1, .int x1), (2, .int x2), (3, .int x3)] → W p l e R s m args below meth c H locs 0 0 Q (F0 m 107 ls [.int y0]) := by
    intro k_41 hk_41 σ h0 x1 x2 x3 y0 H locs ls hS h hl
    refine lv_istore (lv' := [(4, .int y0), (0, .ref (B + h0)), (1, .int x1), (2, .int x2), (3, .int x3)]) hx hb dX12_readKey_107 hl (by decide) rfl (fun ls hl => ?_)
    refine lv_iload_n hx hb dX12_readKey_109 rfl (lv_at hl 3 rfl) ?_
    refine lv_if_ne (tgt := 127) hx hb dX12_readKey_110 (by decide) (fun c_110 => ?_) (fun c_110 => ?_)
    · replace h := ez_ifn h c_110
      refine lv_iload_n hx hb dX12_readKey_127 rfl (lv_at hl 4 rfl) ?_
      refine lv_aload_n hx hb dX12_readKey_128 rfl (lv_at hl 1 rfl) ?_
      refine eg_RX12_27 hC hS h dX12_readKey_129 (fun t_129 h => ?_)
      refine lv_aload_n hx hb dX12_readKey_132 rfl (lv_at hl 1 rfl) ?_
      refine eg_RX12_265 hC hS h dX12_readKey_133 (fun t_133 h => ?_)
      refine ez_ial hC hS h dX12_readKey_136 (fun t_136 h => ?_)
      refine lv_iadd hx hb dX12_readKey_137 ?_
      refine ez_top h (fun t_137 h => ?_)
      refine lv_iconst (v := 0) hx hb dX12_readKey_138 (by decide) ?_
      refine lv_aload_n hx hb dX12_readKey_139 rfl (lv_at hl 1 rfl) ?_
      refine eg_RX12_24 hC hS h dX12_readKey_140 (fun t_140 h => ?_)
      refine lv_aload_n hx hb dX12_readKey_143 rfl (lv_at hl 1 rfl) ?_
      refine eg_RX12_265 hC hS h dX12_readKey_144 (fun t_144 h => ?_)
      refine ez_ial hC hS h dX12_readKey_147 (fun t_147 h => ?_)
      refine lv_iconst (v := 1) hx hb dX12_readKey_148 (by decide) ?_
      refine lv_isub hx hb dX12_readKey_149 ?_
      refine ez_top h (fun t_149 h => ?_)
      refine ez_cSpi (As := [.int t_137, .int 0, .int t_149]) (rest := []) h (fun _ q => c_X12_held q) hC k_X12_held ql_RX12_337 rfl (by decide) hS hl.1 rfl (Nat.le_of_ble_eq_true rfl) ⟨Nat.zero_le _, Nat.zero_le _⟩ dX12_readKey_150 (fun t_150 H locs hS h => ?_)
      exact K_153 k_41 hk_41 σ h0 x1 x2 y0 t_150 _ _ _ hS h (lv_sub hl [1, 2, 3, 0] rfl)
    · replace h := ez_ifp h c_110
      refine lv_aload_n hx hb dX12_readKey_113 rfl (lv_at hl 1 rfl) ?_
      refine eg_RX12_24 hC hS h dX12_readKey_114 (fun t_114 h => ?_)
      refine lv_aload_n hx hb dX12_readKey_117 rfl (lv_at hl 1 rfl) ?_
      refine eg_RX12_265 hC hS h dX12_readKey_118 (fun t_118 h => ?_)
      refine ez_ial hC hS h dX12_readKey_121 (fun t_121 h => ?_)
      refine lv_iconst (v := 1) hx hb dX12_readKey_122 (by decide) ?_
      refine lv_isub hx hb dX12_readKey_123 ?_
      refine ez_top h (fun t_123 h => ?_)
      refine lv_goto (tgt := 153) hx hb dX12_readKey_124 (by decide) ?_
      exact K_153 k_41 hk_41 σ h0 x1 x2 y0 t_123 _ _ _ hS h (lv_sub hl [1, 2, 3, 0] rfl)
  have K_81 : ∀ (k_41 : ez_H → Nat → Int32 → Int32 → Option (Unit × ez_H)) (hk_41 : ∀ (σ : ez_H) (h0 : Nat) (x1 : Int32) (x2 : Int32) (H : Heap) (locs : List Loc) (ls : Array Slot), ez_S X B s.heap (σ0.length) σ H locs → k_41 σ h0 x1 x2 = some z → lv_has ls 6 [(0, .ref (B + h0)), (1, .int x1), (2, .int x2)] → W p l e R s m args below meth c H locs 0 0 Q (F0 m 41 ls [])), ∀ (σ : ez_H) (h0 : Nat) (x1 : Int32) (x2 : Int32) (y0 : Int32) (H : Heap) (locs : List Loc) (ls : Array Slot), ez_S X B s.heap (σ0.length) σ H locs → z_X12_readKey_81 k_41 σ h0 x1 x2 y0 = some z → lv_has ls 6 [(0, .ref (B + h0)), (1, .int x1), (2, .int x2)] → W p l e R s m args below meth c H locs 0 0 Q (F0 m 81 ls [.int y0]) := by
    intro k_41 hk_41 σ h0 x1 x2 y0 H locs ls hS h hl
    refine lv_istore_n (lv' := [(3, .int y0), (0, .ref (B + h0)), (1, .int x1), (2, .int x2)]) hx hb dX12_readKey_81 rfl hl (by decide) rfl (fun ls hl => ?_)
    refine lv_iload_n hx hb dX12_readKey_82 rfl (lv_at hl 3 rfl) ?_
    refine lv_if_ne (tgt := 90) hx hb dX12_readKey_83 (by decide) (fun c_83 => ?_) (fun c_83 => ?_)
    · replace h := ez_ifn h c_83
      refine lv_iload_n hx hb dX12_readKey_90 rfl (lv_at hl 0 rfl) ?_
      refine lv_aload_n hx hb dX12_readKey_91 rfl (lv_at hl 1 rfl) ?_
      refine eg_RX12_27 hC hS h dX12_readKey_92 (fun t_92 h => ?_)
      refine lv_aload_n hx hb dX12_readKey_95 rfl (lv_at hl 1 rfl) ?_
      refine eg_RX12_265 hC hS h dX12_readKey_96 (fun t_96 h => ?_)
      refine ez_ial hC hS h dX12_readKey_99 (fun t_99 h => ?_)
      refine lv_isub hx hb dX12_readKey_100 ?_
      refine ez_top h (fun t_100 h => ?_)
      refine lv_iconst (v := 0) hx hb dX12_readKey_101 (by decide) ?_
      refine lv_bipush (v := 6) hx hb dX12_readKey_102 (by decide) ?_
      refine ez_cSpi (As := [.int t_100, .int 0, .int 6]) (rest := []) h (fun _ q => c_X12_held q) hC k_X12_held ql_RX12_337 rfl (by decide) hS hl.1 rfl (Nat.le_of_ble_eq_true rfl) ⟨Nat.zero_le _, Nat.zero_le _⟩ dX12_readKey_104 (fun t_104 H locs hS h => ?_)
      exact K_107 k_41 hk_41 σ h0 x1 x2 y0 t_104 _ _ _ hS h (lv_sub hl [1, 2, 3, 0] rfl)
    · replace h := ez_ifp h c_83
      refine lv_iconst (v := 0) hx hb dX12_readKey_86 (by decide) ?_
      refine lv_goto (tgt := 107) hx hb dX12_readKey_87 (by decide) ?_
      exact K_107 k_41 hk_41 σ h0 x1 x2 y0 (0 : Int32) _ _ _ hS h (lv_sub hl [1, 2, 3, 0] rfl)
  have K_41 : ∀ (k_41 : ez_H → Nat → Int32 → Int32 → Option (Unit × ez_H)) (hk_41 : ∀ (σ : ez_H) (h0 : Nat) (x1 : Int32) (x2 : Int32) (H : Heap) (locs : List Loc) (ls : Array Slot), ez_S X B s.heap (σ0.length) σ H locs → k_41 σ h0 x1 x2 = some z → lv_has ls 6 [(0, .ref (B + h0)), (1, .int x1), (2, .int x2)] → W p l e R s m args below meth c H locs 0 0 Q (F0 m 41 ls [])), ∀ (σ : ez_H) (h0 : Nat) (x1 : Int32) (x2 : Int32) (H : Heap) (locs : List Loc) (ls : Array Slot), ez_S X B s.heap (σ0.length) σ H locs → z_X12_readKey_41 k_41 σ h0 x1 x2 = some z → lv_has ls 6 [(0, .ref (B + h0)), (1, .int x1), (2, .int x2)] → W p l e R s m args below meth c H locs 0 0 Q (F0 m 41 ls []) := by
    intro k_41 hk_41 σ h0 x1 x2 H locs ls hS h hl
    refine lv_iload_n hx hb dX12_readKey_41 rfl (lv_at hl 2 rfl) ?_
    refine lv_aload_n hx hb dX12_readKey_42 rfl (lv_at hl 0 rfl) ?_
    refine eg_RX12_20 hC hS h dX12_readKey_43 (fun t_43 h => ?_)
    refine lv_aload_n hx hb dX12_readKey_46 rfl (lv_at hl 0 rfl) ?_
    refine eg_RX12_265 hC hS h dX12_readKey_47 (fun t_47 h => ?_)
    refine ez_ial hC hS h dX12_readKey_50 (fun t_50 h => ?_)
    refine lv_icmp_ge (tgt := 180) hx hb dX12_readKey_51 (by decide) (fun c_51 => ?_) (fun c_51 => ?_)
    · replace h := ez_ifp h c_51
      exact K_180  σ h0 _ _ _ hS h (lv_sub hl [0] rfl)
    · replace h := ez_ifn h c_51
      refine lv_aload_n hx hb dX12_readKey_54 rfl (lv_at hl 0 rfl) ?_
      refine ez_cVpi (As := []) (rest := []) h (fun _ q => c_X12_isGood q) hC k_X12_isGood ql_RX12_251 rfl (by decide) hS (fun _ q => ez_rcv q) rfl hl.1 rfl (Nat.le_of_ble_eq_true rfl) ⟨Nat.zero_le _, Nat.zero_le _⟩ dX12_readKey_55 (fun t_55 H locs hS h => ?_)
      refine lv_if_eq (tgt := 180) hx hb dX12_readKey_58 (by decide) (fun c_58 => ?_) (fun c_58 => ?_)
      · replace h := ez_ifp h c_58
        exact K_180  σ h0 _ _ _ hS h (lv_sub hl [0] rfl)
      · replace h := ez_ifn h c_58
        refine lv_iload_n hx hb dX12_readKey_61 rfl (lv_at hl 2 rfl) ?_
        refine lv_if_ne (tgt := 69) hx hb dX12_readKey_62 (by decide) (fun c_62 => ?_) (fun c_62 => ?_)
        · replace h := ez_ifn h c_62
          refine lv_aload_n hx hb dX12_readKey_69 rfl (lv_at hl 0 rfl) ?_
          refine eg_RX12_54 hC hS h dX12_readKey_70 (fun t_70 h => ?_)
          refine lv_iconst (v := 5) hx hb dX12_readKey_73 (by decide) ?_
          refine lv_iload_n hx hb dX12_readKey_74 rfl (lv_at hl 1 rfl) ?_
          refine lv_imul hx hb dX12_readKey_75 ?_
          refine ez_top h (fun t_75 h => ?_)
          refine lv_iload_n hx hb dX12_readKey_76 rfl (lv_at hl 2 rfl) ?_
          refine lv_iadd hx hb dX12_readKey_77 ?_
          refine ez_top h (fun t_77 h => ?_)
          refine lv_iconst (v := 1) hx hb dX12_readKey_78 (by decide) ?_
          refine lv_isub hx hb dX12_readKey_79 ?_
          refine ez_top h (fun t_79 h => ?_)
          refine ez_ial hC hS h dX12_readKey_80 (fun t_80 h => ?_)
          exact K_81 k_41 hk_41 σ h0 x1 x2 t_80 _ _ _ hS h (lv_sub hl [0, 1, 2] rfl)
        · replace h := ez_ifp h c_62
          refine lv_iconst (v := 0) hx hb dX12_readKey_65 (by decide) ?_
          refine lv_goto (tgt := 81) hx hb dX12_readKey_66 (by decide) ?_
          exact K_81 k_41 hk_41 σ h0 x1 x2 (0 : Int32) _ _ _ hS h (lv_sub hl [0, 1, 2] rfl)
  have E_41 : ∀ (σ : ez_H) (h0 : Nat) (x1 : Int32) (x2 : Int32) (H : Heap) (locs : List Loc) (ls : Array Slot), ez_S X B s.heap (σ0.length) σ H locs → (ez_fix (fun _ _ _ _ => none) (z_X12_readKey_41) ez_N) σ h0 x1 x2 = some z → lv_has ls 6 [(0, .ref (B + h0)), (1, .int x1), (2, .int x2)] → W p l e R s m args below meth c H locs 0 0 Q (F0 m 41 ls []) := ez_fix_ind (fun k_41 : ez_H → Nat → Int32 → Int32 → Option (Unit × ez_H) => ∀ (σ : ez_H) (h0 : Nat) (x1 : Int32) (x2 : Int32) (H : Heap) (locs : List Loc) (ls : Array Slot), ez_S X B s.heap (σ0.length) σ H locs → k_41 σ h0 x1 x2 = some z → lv_has ls 6 [(0, .ref (B + h0)), (1, .int x1), (2, .int x2)] → W p l e R s m args below meth c H locs 0 0 Q (F0 m 41 ls [])) (fun _ _ _ _ _ _ _ _ h _ => by cases h) (fun k_41 hk_41 => K_41 k_41 hk_41) ez_N
  refine lv_bipush (v := 8) hx hb dX12_readKey_0 (by decide) ?_
  refine lv_aload_n hx hb dX12_readKey_2 rfl (lv_at hl 0 rfl) ?_
  refine eg_RX12_265 hC hS h dX12_readKey_3 (fun t_3 h => ?_)
  refine lv_imul hx hb dX12_readKey_6 ?_
  refine ez_top h (fun t_6 h => ?_)
  refine lv_aload_n hx hb dX12_readKey_7 rfl (lv_at hl 0 rfl) ?_
  refine eg_RX12_30 hC hS h dX12_readKey_8 (fun t_8 h => ?_)
  refine lv_aload_n hx hb dX12_readKey_11 rfl (lv_at hl 0 rfl) ?_
  refine eg_RX12_265 hC hS h dX12_readKey_12 (fun t_12 h => ?_)
  refine ez_ial hC hS h dX12_readKey_15 (fun t_15 h => ?_)
  refine lv_iadd hx hb dX12_readKey_16 ?_
  refine ez_top h (fun t_16 h => ?_)
  refine lv_istore_n (lv' := [(1, .int t_16), (0, .ref (B + h0))]) hx hb dX12_readKey_17 rfl hl (by decide) rfl (fun ls hl => ?_)
  refine lv_aload_n hx hb dX12_readKey_18 rfl (lv_at hl 1 rfl) ?_
  refine eg_RX12_87 hC hS h dX12_readKey_19 (fun t_19 h => ?_)
  refine lv_iload_n hx hb dX12_readKey_22 rfl (lv_at hl 0 rfl) ?_
  refine lv_aload_n hx hb dX12_readKey_23 rfl (lv_at hl 1 rfl) ?_
  refine lv_aload_n hx hb dX12_readKey_24 rfl (lv_at hl 1 rfl) ?_
  refine ez_cVpi (As := []) (rest := [.ref (B + h0), .int t_16, .ref (B + t_19)]) h (fun _ q => c_X12_keyHere q) hC k_X12_keyHere ql_RX12_329 rfl (by decide) hS (fun _ q => ez_rcv q) rfl hl.1 rfl (Nat.le_of_ble_eq_true rfl) ⟨Nat.zero_le _, Nat.zero_le _⟩ dX12_readKey_25 (fun t_25 H locs hS h => ?_)
  refine ez_cVl (As := [.int t_25]) (rest := [.int t_16, .ref (B + t_19)]) h (fun _ q => c_X12_fresh q) hC k_X12_fresh ql_RX12_333 rfl (by decide) hS (fun _ q => ez_rcv q) rfl hl.1 rfl (Nat.le_of_ble_eq_true rfl) ⟨Nat.zero_le _, Nat.zero_le _⟩ dX12_readKey_28 (fun t_28 σ H locs hS h => ?_)
  refine ez_las hC hS h dX12_readKey_31 (fun σ H locs hS h => ?_)
  refine lv_aload_n hx hb dX12_readKey_32 rfl (lv_at hl 1 rfl) ?_
  refine eg_RX12_72 hC hS h dX12_readKey_33 (fun t_33 h => ?_)
  refine lv_iload_n hx hb dX12_readKey_36 rfl (lv_at hl 0 rfl) ?_
  refine lv_iconst (v := -1) hx hb dX12_readKey_37 (by decide) ?_
  refine ez_ias hC hS h dX12_readKey_38 (fun σ H locs hS h => ?_)
  refine lv_iconst (v := 0) hx hb dX12_readKey_39 (by decide) ?_
  refine lv_istore_n (lv' := [(2, .int 0), (1, .int t_16), (0, .ref (B + h0))]) hx hb dX12_readKey_40 rfl hl (by decide) rfl (fun ls hl => ?_)
  exact E_41  σ h0 t_16 (0 : Int32) _ _ _ hS h (lv_sub hl [2, 1, 0] rfl)
set_option maxHeartbeats 4000000 in
set_option maxRecDepth 100000 in
theorem c_X12_lockHere {l : Launch} {X : ez_X} {B : Nat} {σ : ez_H} {h0 : Nat} {z : Int32} (h : z_X12_lockHere σ h0 = some z) : ez_M l X B σ yX12_lockHere cX12_lockHere 1 (some .int) 1 [.ref (B + h0)] (some (.int z)) σ := by
  refine ez_startip (z := z) (by decide) (Nat.le_of_ble_eq_true rfl) (fun p e R s m args below meth c Q hC hret hS ls hl => ?_)
  have hC : ez_C p R s m args c X B RX12 cX12_lockHere 1 1 := hC
  have hx := hC.1.1
  have hb := hC.1.2.1
  have hown := hC.1.2.2.2.1
  have hts := hC.1.2.2.2.2
  have hl : lv_has ls 1 [(0, .ref (B + h0))] := hl
  obtain ⟨n0, e0⟩ : ∃ n0 : Nat, n0 = σ.length := ⟨_, rfl⟩
  rw [← e0] at hret hS
  obtain ⟨-, h⟩ := ez_in h
  refine lv_aload_n hx hb dX12_lockHere_0 rfl (lv_at hl 0 rfl) ?_
  refine lv_aload_n hx hb dX12_lockHere_1 rfl (lv_at hl 0 rfl) ?_
  refine eg_RX12_91 hC hS h dX12_lockHere_2 (fun t_2 h => ?_)
  refine lv_bipush (v := 6) hx hb dX12_lockHere_5 (by decide) ?_
  refine lv_aload_n hx hb dX12_lockHere_7 rfl (lv_at hl 0 rfl) ?_
  refine eg_RX12_265 hC hS h dX12_lockHere_8 (fun t_8 h => ?_)
  refine lv_imul hx hb dX12_lockHere_11 ?_
  refine ez_top h (fun t_11 h => ?_)
  refine lv_aload_n hx hb dX12_lockHere_12 rfl (lv_at hl 0 rfl) ?_
  refine eg_RX12_33 hC hS h dX12_lockHere_13 (fun t_13 h => ?_)
  refine lv_aload_n hx hb dX12_lockHere_16 rfl (lv_at hl 0 rfl) ?_
  refine eg_RX12_265 hC hS h dX12_lockHere_17 (fun t_17 h => ?_)
  refine ez_ial hC hS h dX12_lockHere_20 (fun t_20 h => ?_)
  refine ez_cVpi (As := [.ref (B + t_2), .int t_11, .int t_20]) (rest := []) h (fun _ q => c_X12_here q) hC k_X12_here ql_RX12_325 rfl (by decide) hS (fun _ q => ez_rcv q) rfl hl.1 rfl (Nat.le_of_ble_eq_true rfl) ⟨Nat.zero_le _, Nat.zero_le _⟩ dX12_lockHere_21 (fun t_21 H locs hS h => ?_)
  exact hret _ _ _ _ _ (Option.some.inj h) rfl hS dX12_lockHere_24
set_option maxHeartbeats 4000000 in
set_option maxRecDepth 100000 in
theorem c_X12_isSignHere {l : Launch} {X : ez_X} {B : Nat} {σ : ez_H} {h0 : Nat} {x1 : Int32} {z : Int32} (h : z_X12_isSignHere σ h0 x1 = some z) : ez_M l X B σ yX12_isSignHere cX12_isSignHere 2 (some .boolean) 1 [.ref (B + h0), .int x1] (some (.int z)) σ := by
  refine ez_startip (z := z) (by decide) (Nat.le_of_ble_eq_true rfl) (fun p e R s m args below meth c Q hC hret hS ls hl => ?_)
  have hC : ez_C p R s m args c X B RX12 cX12_isSignHere 2 1 := hC
  have hx := hC.1.1
  have hb := hC.1.2.1
  have hown := hC.1.2.2.2.1
  have hts := hC.1.2.2.2.2
  have hl : lv_has ls 2 [(0, .ref (B + h0)), (1, .int x1)] := hl
  obtain ⟨n0, e0⟩ : ∃ n0 : Nat, n0 = σ.length := ⟨_, rfl⟩
  rw [← e0] at hret hS
  obtain ⟨-, h⟩ := ez_in h
  have K_25 : ∀ (y0 : Int32) (H : Heap) (locs : List Loc) (ls : Array Slot), ez_S X B s.heap (n0) σ H locs → z_X12_isSignHere_25 σ y0 = some z → lv_has ls 2 [] → W p l e R s m args below meth c H locs 0 0 Q (F0 m 25 ls [.int y0]) := by
    intro y0 H locs ls hS h hl
    obtain ⟨hn, h⟩ := ez_nr_sp rfl h
    exact hret _ _ _ _ _ (Option.some.inj h) hn hS dX12_isSignHere_25
  have K_24 : ∀ (H : Heap) (locs : List Loc) (ls : Array Slot), ez_S X B s.heap (n0) σ H locs → z_X12_isSignHere_24 σ = some z → lv_has ls 2 [] → W p l e R s m args below meth c H locs 0 0 Q (F0 m 24 ls []) := by
    intro  H locs ls hS h hl
    refine lv_iconst (v := 0) hx hb dX12_isSignHere_24 (by decide) ?_
    exact K_25  (0 : Int32) _ _ _ hS h (lv_sub hl [] rfl)
  refine lv_aload_n hx hb dX12_isSignHere_0 rfl (lv_at hl 0 rfl) ?_
  refine eg_RX12_223 hC hS h dX12_isSignHere_1 (fun t_1 h => ?_)
  refine lv_iconst (v := 5) hx hb dX12_isSignHere_4 (by decide) ?_
  refine lv_icmp_ne (tgt := 24) hx hb dX12_isSignHere_5 (by decide) (fun c_5 => ?_) (fun c_5 => ?_)
  · replace h := ez_ifn h c_5
    exact K_24   _ _ _ hS h (lv_sub hl [] rfl)
  · replace h := ez_ifp h c_5
    refine lv_aload_n hx hb dX12_isSignHere_8 rfl (lv_at hl 0 rfl) ?_
    refine lv_aload_n hx hb dX12_isSignHere_9 rfl (lv_at hl 0 rfl) ?_
    refine eg_RX12_216 hC hS h dX12_isSignHere_10 (fun t_10 h => ?_)
    refine ez_cVpi (As := [.int t_10]) (rest := []) h (fun _ q => c_X12_sign q) hC k_X12_sign ql_RX12_219 rfl (by decide) hS (fun _ q => ez_rcv q) rfl hl.1 rfl (Nat.le_of_ble_eq_true rfl) ⟨Nat.zero_le _, Nat.zero_le _⟩ dX12_isSignHere_13 (fun t_13 H locs hS h => ?_)
    refine lv_iload_n hx hb dX12_isSignHere_16 rfl (lv_at hl 1 rfl) ?_
    refine lv_icmp_ne (tgt := 24) hx hb dX12_isSignHere_17 (by decide) (fun c_17 => ?_) (fun c_17 => ?_)
    · replace h := ez_ifn h c_17
      exact K_24   _ _ _ hS h (lv_sub hl [] rfl)
    · replace h := ez_ifp h c_17
      refine lv_iconst (v := 1) hx hb dX12_isSignHere_20 (by decide) ?_
      refine lv_goto (tgt := 25) hx hb dX12_isSignHere_21 (by decide) ?_
      exact K_25  (1 : Int32) _ _ _ hS h (lv_sub hl [] rfl)
set_option maxHeartbeats 4000000 in
set_option maxRecDepth 100000 in
theorem c_X12_readLock {l : Launch} {X : ez_X} {B : Nat} {σ : ez_H} {h0 : Nat} {z : Unit × ez_H} (h : z_X12_readLock σ h0 = some z) : ez_M l X B σ yX12_readLock cX12_readLock 4 (none) 3 [.ref (B + h0)] (none) z.2 := by
  refine ez_startv (z := z) (by decide) (Nat.le_of_ble_eq_true rfl) (fun p e R s m args below meth c Q hC hret hS ls hl => ?_)
  have hC : ez_C p R s m args c X B RX12 cX12_readLock 4 3 := hC
  have hx := hC.1.1
  have hb := hC.1.2.1
  have hown := hC.1.2.2.2.1
  have hts := hC.1.2.2.2.2
  have hl : lv_has ls 4 [(0, .ref (B + h0))] := hl
  obtain ⟨σ0, eσ⟩ : ∃ σ0 : ez_H, σ0 = σ := ⟨_, rfl⟩
  rw [← eσ] at hret
  have hS : ez_S X B s.heap σ0.length σ s.heap [] := eσ ▸ hS
  obtain ⟨-, h⟩ := ez_in h
  have K_136 : ∀ (σ : ez_H) (h0 : Nat) (H : Heap) (locs : List Loc) (ls : Array Slot), ez_S X B s.heap (σ0.length) σ H locs → z_X12_readLock_136 σ h0 = some z → lv_has ls 4 [(0, .ref (B + h0))] → W p l e R s m args below meth c H locs 0 0 Q (F0 m 136 ls []) := by
    intro σ h0 H locs ls hS h hl
    refine lv_aload_n hx hb dX12_readLock_136 rfl (lv_at hl 0 rfl) ?_
    refine eg_RX12_33 hC hS h dX12_readLock_137 (fun t_137 h => ?_)
    refine lv_aload_n hx hb dX12_readLock_140 rfl (lv_at hl 0 rfl) ?_
    refine eg_RX12_265 hC hS h dX12_readLock_141 (fun t_141 h => ?_)
    refine lv_dup2_11 hx hb dX12_readLock_144 rfl rfl ?_
    refine ez_ial hC hS h dX12_readLock_145 (fun t_145 h => ?_)
    refine lv_iconst (v := 1) hx hb dX12_readLock_146 (by decide) ?_
    refine lv_iadd hx hb dX12_readLock_147 ?_
    refine ez_top h (fun t_147 h => ?_)
    refine ez_ias hC hS h dX12_readLock_148 (fun σ H locs hS h => ?_)
    exact hret _ _ _ _ _ _ (Option.some.inj h) hS dX12_readLock_149
  have K_119 : ∀ (k_34 : ez_H → Nat → Int32 → Int32 → Option (Unit × ez_H)) (hk_34 : ∀ (σ : ez_H) (h0 : Nat) (x1 : Int32) (x2 : Int32) (H : Heap) (locs : List Loc) (ls : Array Slot), ez_S X B s.heap (σ0.length) σ H locs → k_34 σ h0 x1 x2 = some z → lv_has ls 4 [(0, .ref (B + h0)), (1, .int x1), (2, .int x2)] → W p l e R s m args below meth c H locs 0 0 Q (F0 m 34 ls [])), ∀ (σ : ez_H) (h0 : Nat) (x1 : Int32) (x2 : Int32) (x3 : Int32) (H : Heap) (locs : List Loc) (ls : Array Slot), ez_S X B s.heap (σ0.length) σ H locs → z_X12_readLock_119 k_34 σ h0 x1 x2 x3 = some z → lv_has ls 4 [(0, .ref (B + h0)), (1, .int x1), (2, .int x2), (3, .int x3)] → W p l e R s m args below meth c H locs 0 0 Q (F0 m 119 ls []) := by
    intro k_34 hk_34 σ h0 x1 x2 x3 H locs ls hS h hl
    refine lv_aload_n hx hb dX12_readLock_119 rfl (lv_at hl 0 rfl) ?_
    refine eg_RX12_57 hC hS h dX12_readLock_120 (fun t_120 h => ?_)
    refine lv_iconst (v := 5) hx hb dX12_readLock_123 (by decide) ?_
    refine lv_iload_n hx hb dX12_readLock_124 rfl (lv_at hl 1 rfl) ?_
    refine lv_imul hx hb dX12_readLock_125 ?_
    refine ez_top h (fun t_125 h => ?_)
    refine lv_iload_n hx hb dX12_readLock_126 rfl (lv_at hl 2 rfl) ?_
    refine lv_iadd hx hb dX12_readLock_127 ?_
    refine ez_top h (fun t_127 h => ?_)
    refine lv_iload_n hx hb dX12_readLock_128 rfl (lv_at hl 3 rfl) ?_
    refine ez_ias hC hS h dX12_readLock_129 (fun σ H locs hS h => ?_)
    obtain ⟨t_130, e_130, h⟩ := ez_let_sp h
    refine lv_iinc (v := t_130) (lv' := [(2, .int t_130), (0, .ref (B + h0)), (1, .int x1), (3, .int x3)]) hx hb dX12_readLock_130 hl (k := 2) rfl (by rw [e_130]; rfl) (by decide) rfl (fun ls hl => ?_)
    refine lv_goto (tgt := 34) hx hb dX12_readLock_133 (by decide) ?_
    exact hk_34 σ h0 x1 t_130 _ _ _ hS h (lv_sub hl [1, 2, 0] rfl)
  have K_74 : ∀ (k_34 : ez_H → Nat → Int32 → Int32 → Option (Unit × ez_H)) (hk_34 : ∀ (σ : ez_H) (h0 : Nat) (x1 : Int32) (x2 : Int32) (H : Heap) (locs : List Loc) (ls : Array Slot), ez_S X B s.heap (σ0.length) σ H locs → k_34 σ h0 x1 x2 = some z → lv_has ls 4 [(0, .ref (B + h0)), (1, .int x1), (2, .int x2)] → W p l e R s m args below meth c H locs 0 0 Q (F0 m 34 ls [])) (k_74 : ez_H → Nat → Int32 → Int32 → Int32 → Option (Unit × ez_H)) (hk_74 : ∀ (σ : ez_H) (h0 : Nat) (x1 : Int32) (x2 : Int32) (x3 : Int32) (H : Heap) (locs : List Loc) (ls : Array Slot), ez_S X B s.heap (σ0.length) σ H locs → k_74 σ h0 x1 x2 x3 = some z → lv_has ls 4 [(0, .ref (B + h0)), (1, .int x1), (2, .int x2), (3, .int x3)] → W p l e R s m args below meth c H locs 0 0 Q (F0 m 74 ls [])), ∀ (σ : ez_H) (h0 : Nat) (x1 : Int32) (x2 : Int32) (x3 : Int32) (H : Heap) (locs : List Loc) (ls : Array Slot), ez_S X B s.heap (σ0.length) σ H locs → z_X12_readLock_74 k_34 k_74 σ h0 x1 x2 x3 = some z → lv_has ls 4 [(0, .ref (B + h0)), (1, .int x1), (2, .int x2), (3, .int x3)] → W p l e R s m args below meth c H locs 0 0 Q (F0 m 74 ls []) := by
    intro k_34 hk_34 k_74 hk_74 σ h0 x1 x2 x3 H locs ls hS h hl
    refine lv_aload_n hx hb dX12_readLock_74 rfl (lv_at hl 0 rfl) ?_
    refine ez_cVpi (As := []) (rest := []) h (fun _ q => c_X12_isGood q) hC k_X12_isGood ql_RX12_251 rfl (by decide) hS (fun _ q => ez_rcv q) rfl hl.1 rfl (Nat.le_of_ble_eq_true rfl) ⟨Nat.zero_le _, Nat.zero_le _⟩ dX12_readLock_75 (fun t_75 H locs hS h => ?_)
    refine lv_if_eq (tgt := 119) hx hb dX12_readLock_78 (by decide) (fun c_78 => ?_) (fun c_78 => ?_)
    · replace h := ez_ifp h c_78
      exact K_119 k_34 hk_34 σ h0 x1 x2 x3 _ _ _ hS h (lv_sub hl [0, 1, 2, 3] rfl)
    · replace h := ez_ifn h c_78
      refine lv_aload_n hx hb dX12_readLock_81 rfl (lv_at hl 0 rfl) ?_
      refine lv_bipush (v := 47) hx hb dX12_readLock_82 (by decide) ?_
      refine ez_cVpi (As := [.int 47]) (rest := []) h (fun _ q => c_X12_isSignHere q) hC k_X12_isSignHere ql_RX12_318 rfl (by decide) hS (fun _ q => ez_rcv q) rfl hl.1 rfl (Nat.le_of_ble_eq_true rfl) ⟨Nat.zero_le _, Nat.zero_le _⟩ dX12_readLock_84 (fun t_84 H locs hS h => ?_)
      refine lv_if_eq (tgt := 119) hx hb dX12_readLock_87 (by decide) (fun c_87 => ?_) (fun c_87 => ?_)
      · replace h := ez_ifp h c_87
        exact K_119 k_34 hk_34 σ h0 x1 x2 x3 _ _ _ hS h (lv_sub hl [0, 1, 2, 3] rfl)
      · replace h := ez_ifn h c_87
        refine lv_aload_n hx hb dX12_readLock_90 rfl (lv_at hl 0 rfl) ?_
        refine ez_cVv (As := []) (rest := []) h (fun _ q => c_X12_goOn q) hC k_X12_goOn ql_RX12_255 rfl (by decide) hS (fun _ q => ez_rcv q) rfl hl.1 rfl (Nat.le_of_ble_eq_true rfl) ⟨Nat.zero_le _, Nat.zero_le _⟩ dX12_readLock_91 (fun _ σ H locs hS h => ?_)
        refine lv_iload_n hx hb dX12_readLock_94 rfl (lv_at hl 3 rfl) ?_
        refine lv_iconst (v := 1) hx hb dX12_readLock_95 (by decide) ?_
        refine lv_aload_n hx hb dX12_readLock_96 rfl (lv_at hl 0 rfl) ?_
        refine lv_iconst (v := 0) hx hb dX12_readLock_97 (by decide) ?_
        refine lv_aload_n hx hb dX12_readLock_98 rfl (lv_at hl 0 rfl) ?_
        refine eg_RX12_24 hC hS h dX12_readLock_99 (fun t_99 h => ?_)
        refine lv_aload_n hx hb dX12_readLock_102 rfl (lv_at hl 0 rfl) ?_
        refine eg_RX12_265 hC hS h dX12_readLock_103 (fun t_103 h => ?_)
        refine ez_ial hC hS h dX12_readLock_106 (fun t_106 h => ?_)
        refine lv_iconst (v := 1) hx hb dX12_readLock_107 (by decide) ?_
        refine lv_isub hx hb dX12_readLock_108 ?_
        refine ez_top h (fun t_108 h => ?_)
        refine lv_iload_n hx hb dX12_readLock_109 rfl (lv_at hl 3 rfl) ?_
        refine ez_cVi (As := [.int 0, .int t_108, .int x3]) (rest := [.int 1, .int x3]) h (fun _ q => c_X12_numeral q) hC k_X12_numeral ql_RX12_286 rfl (by decide) hS (fun _ q => ez_rcv q) rfl hl.1 rfl (Nat.le_of_ble_eq_true rfl) ⟨Nat.zero_le _, Nat.zero_le _⟩ dX12_readLock_110 (fun t_110 σ H locs hS h => ?_)
        refine lv_ishl hx hb dX12_readLock_113 ?_
        refine ez_top h (fun t_113 h => ?_)
        refine lv_ior hx hb dX12_readLock_114 ?_
        refine ez_top h (fun t_114 h => ?_)
        refine lv_istore_n (lv' := [(3, .int t_114), (0, .ref (B + h0)), (1, .int x1), (2, .int x2)]) hx hb dX12_readLock_115 rfl hl (by decide) rfl (fun ls hl => ?_)
        refine lv_goto (tgt := 74) hx hb dX12_readLock_116 (by decide) ?_
        exact hk_74 σ h0 x1 x2 t_114 _ _ _ hS h (lv_sub hl [1, 2, 3, 0] rfl)
  have E_74 : ∀ (k_34 : ez_H → Nat → Int32 → Int32 → Option (Unit × ez_H)) (hk_34 : ∀ (σ : ez_H) (h0 : Nat) (x1 : Int32) (x2 : Int32) (H : Heap) (locs : List Loc) (ls : Array Slot), ez_S X B s.heap (σ0.length) σ H locs → k_34 σ h0 x1 x2 = some z → lv_has ls 4 [(0, .ref (B + h0)), (1, .int x1), (2, .int x2)] → W p l e R s m args below meth c H locs 0 0 Q (F0 m 34 ls [])), ∀ (σ : ez_H) (h0 : Nat) (x1 : Int32) (x2 : Int32) (x3 : Int32) (H : Heap) (locs : List Loc) (ls : Array Slot), ez_S X B s.heap (σ0.length) σ H locs → (ez_fix (fun _ _ _ _ _ => none) (z_X12_readLock_74 k_34) ez_N) σ h0 x1 x2 x3 = some z → lv_has ls 4 [(0, .ref (B + h0)), (1, .int x1), (2, .int x2), (3, .int x3)] → W p l e R s m args below meth c H locs 0 0 Q (F0 m 74 ls []) := fun k_34 hk_34 => ez_fix_ind (fun k_74 : ez_H → Nat → Int32 → Int32 → Int32 → Option (Unit × ez_H) => ∀ (σ : ez_H) (h0 : Nat) (x1 : Int32) (x2 : Int32) (x3 : Int32) (H : Heap) (locs : List Loc) (ls : Array Slot), ez_S X B s.heap (σ0.length) σ H locs → k_74 σ h0 x1 x2 x3 = some z → lv_has ls 4 [(0, .ref (B + h0)), (1, .int x1), (2, .int x2), (3, .int x3)] → W p l e R s m args below meth c H locs 0 0 Q (F0 m 74 ls [])) (fun _ _ _ _ _ _ _ _ _ h _ => by cases h) (fun k_74 hk_74 => K_74 k_34 hk_34 k_74 hk_74) ez_N
  have K_34 : ∀ (k_34 : ez_H → Nat → Int32 → Int32 → Option (Unit × ez_H)) (hk_34 : ∀ (σ : ez_H) (h0 : Nat) (x1 : Int32) (x2 : Int32) (H : Heap) (locs : List Loc) (ls : Array Slot), ez_S X B s.heap (σ0.length) σ H locs → k_34 σ h0 x1 x2 = some z → lv_has ls 4 [(0, .ref (B + h0)), (1, .int x1), (2, .int x2)] → W p l e R s m args below meth c H locs 0 0 Q (F0 m 34 ls [])), ∀ (σ : ez_H) (h0 : Nat) (x1 : Int32) (x2 : Int32) (H : Heap) (locs : List Loc) (ls : Array Slot), ez_S X B s.heap (σ0.length) σ H locs → z_X12_readLock_34 k_34 σ h0 x1 x2 = some z → lv_has ls 4 [(0, .ref (B + h0)), (1, .int x1), (2, .int x2)] → W p l e R s m args below meth c H locs 0 0 Q (F0 m 34 ls []) := by
    intro k_34 hk_34 σ h0 x1 x2 H locs ls hS h hl
    refine lv_iload_n hx hb dX12_readLock_34 rfl (lv_at hl 2 rfl) ?_
    refine lv_aload_n hx hb dX12_readLock_35 rfl (lv_at hl 0 rfl) ?_
    refine eg_RX12_20 hC hS h dX12_readLock_36 (fun t_36 h => ?_)
    refine lv_aload_n hx hb dX12_readLock_39 rfl (lv_at hl 0 rfl) ?_
    refine eg_RX12_265 hC hS h dX12_readLock_40 (fun t_40 h => ?_)
    refine ez_ial hC hS h dX12_readLock_43 (fun t_43 h => ?_)
    refine lv_icmp_ge (tgt := 136) hx hb dX12_readLock_44 (by decide) (fun c_44 => ?_) (fun c_44 => ?_)
    · replace h := ez_ifp h c_44
      exact K_136  σ h0 _ _ _ hS h (lv_sub hl [0] rfl)
    · replace h := ez_ifn h c_44
      refine lv_aload_n hx hb dX12_readLock_47 rfl (lv_at hl 0 rfl) ?_
      refine ez_cVpi (As := []) (rest := []) h (fun _ q => c_X12_isGood q) hC k_X12_isGood ql_RX12_251 rfl (by decide) hS (fun _ q => ez_rcv q) rfl hl.1 rfl (Nat.le_of_ble_eq_true rfl) ⟨Nat.zero_le _, Nat.zero_le _⟩ dX12_readLock_48 (fun t_48 H locs hS h => ?_)
      refine lv_if_eq (tgt := 136) hx hb dX12_readLock_51 (by decide) (fun c_51 => ?_) (fun c_51 => ?_)
      · replace h := ez_ifp h c_51
        exact K_136  σ h0 _ _ _ hS h (lv_sub hl [0] rfl)
      · replace h := ez_ifn h c_51
        refine lv_iconst (v := 1) hx hb dX12_readLock_54 (by decide) ?_
        refine lv_aload_n hx hb dX12_readLock_55 rfl (lv_at hl 0 rfl) ?_
        refine lv_iconst (v := 0) hx hb dX12_readLock_56 (by decide) ?_
        refine lv_aload_n hx hb dX12_readLock_57 rfl (lv_at hl 0 rfl) ?_
        refine eg_RX12_24 hC hS h dX12_readLock_58 (fun t_58 h => ?_)
        refine lv_aload_n hx hb dX12_readLock_61 rfl (lv_at hl 0 rfl) ?_
        refine eg_RX12_265 hC hS h dX12_readLock_62 (fun t_62 h => ?_)
        refine ez_ial hC hS h dX12_readLock_65 (fun t_65 h => ?_)
        refine lv_iconst (v := 1) hx hb dX12_readLock_66 (by decide) ?_
        refine lv_isub hx hb dX12_readLock_67 ?_
        refine ez_top h (fun t_67 h => ?_)
        refine lv_iconst (v := 0) hx hb dX12_readLock_68 (by decide) ?_
        refine ez_cVi (As := [.int 0, .int t_67, .int 0]) (rest := [.int 1]) h (fun _ q => c_X12_numeral q) hC k_X12_numeral ql_RX12_286 rfl (by decide) hS (fun _ q => ez_rcv q) rfl hl.1 rfl (Nat.le_of_ble_eq_true rfl) ⟨Nat.zero_le _, Nat.zero_le _⟩ dX12_readLock_69 (fun t_69 σ H locs hS h => ?_)
        refine lv_ishl hx hb dX12_readLock_72 ?_
        refine ez_top h (fun t_72 h => ?_)
        refine lv_istore_n (lv' := [(3, .int t_72), (0, .ref (B + h0)), (1, .int x1), (2, .int x2)]) hx hb dX12_readLock_73 rfl hl (by decide) rfl (fun ls hl => ?_)
        exact E_74 k_34 hk_34 σ h0 x1 x2 t_72 _ _ _ hS h (lv_sub hl [1, 2, 3, 0] rfl)
  have E_34 : ∀ (σ : ez_H) (h0 : Nat) (x1 : Int32) (x2 : Int32) (H : Heap) (locs : List Loc) (ls : Array Slot), ez_S X B s.heap (σ0.length) σ H locs → (ez_fix (fun _ _ _ _ => none) (z_X12_readLock_34) ez_N) σ h0 x1 x2 = some z → lv_has ls 4 [(0, .ref (B + h0)), (1, .int x1), (2, .int x2)] → W p l e R s m args below meth c H locs 0 0 Q (F0 m 34 ls []) := ez_fix_ind (fun k_34 : ez_H → Nat → Int32 → Int32 → Option (Unit × ez_H) => ∀ (σ : ez_H) (h0 : Nat) (x1 : Int32) (x2 : Int32) (H : Heap) (locs : List Loc) (ls : Array Slot), ez_S X B s.heap (σ0.length) σ H locs → k_34 σ h0 x1 x2 = some z → lv_has ls 4 [(0, .ref (B + h0)), (1, .int x1), (2, .int x2)] → W p l e R s m args below meth c H locs 0 0 Q (F0 m 34 ls [])) (fun _ _ _ _ _ _ _ _ h _ => by cases h) (fun k_34 hk_34 => K_34 k_34 hk_34) ez_N
  refine lv_bipush (v := 6) hx hb dX12_readLock_0 (by decide) ?_
  refine lv_aload_n hx hb dX12_readLock_2 rfl (lv_at hl 0 rfl) ?_
  refine eg_RX12_265 hC hS h dX12_readLock_3 (fun t_3 h => ?_)
  refine lv_imul hx hb dX12_readLock_6 ?_
  refine ez_top h (fun t_6 h => ?_)
  refine lv_aload_n hx hb dX12_readLock_7 rfl (lv_at hl 0 rfl) ?_
  refine eg_RX12_33 hC hS h dX12_readLock_8 (fun t_8 h => ?_)
  refine lv_aload_n hx hb dX12_readLock_11 rfl (lv_at hl 0 rfl) ?_
  refine eg_RX12_265 hC hS h dX12_readLock_12 (fun t_12 h => ?_)
  refine ez_ial hC hS h dX12_readLock_15 (fun t_15 h => ?_)
  refine lv_iadd hx hb dX12_readLock_16 ?_
  refine ez_top h (fun t_16 h => ?_)
  refine lv_istore_n (lv' := [(1, .int t_16), (0, .ref (B + h0))]) hx hb dX12_readLock_17 rfl hl (by decide) rfl (fun ls hl => ?_)
  refine lv_aload_n hx hb dX12_readLock_18 rfl (lv_at hl 1 rfl) ?_
  refine eg_RX12_91 hC hS h dX12_readLock_19 (fun t_19 h => ?_)
  refine lv_iload_n hx hb dX12_readLock_22 rfl (lv_at hl 0 rfl) ?_
  refine lv_aload_n hx hb dX12_readLock_23 rfl (lv_at hl 1 rfl) ?_
  refine lv_aload_n hx hb dX12_readLock_24 rfl (lv_at hl 1 rfl) ?_
  refine ez_cVpi (As := []) (rest := [.ref (B + h0), .int t_16, .ref (B + t_19)]) h (fun _ q => c_X12_lockHere q) hC k_X12_lockHere ql_RX12_340 rfl (by decide) hS (fun _ q => ez_rcv q) rfl hl.1 rfl (Nat.le_of_ble_eq_true rfl) ⟨Nat.zero_le _, Nat.zero_le _⟩ dX12_readLock_25 (fun t_25 H locs hS h => ?_)
  refine ez_cVl (As := [.int t_25]) (rest := [.int t_16, .ref (B + t_19)]) h (fun _ q => c_X12_fresh q) hC k_X12_fresh ql_RX12_333 rfl (by decide) hS (fun _ q => ez_rcv q) rfl hl.1 rfl (Nat.le_of_ble_eq_true rfl) ⟨Nat.zero_le _, Nat.zero_le _⟩ dX12_readLock_28 (fun t_28 σ H locs hS h => ?_)
  refine ez_las hC hS h dX12_readLock_31 (fun σ H locs hS h => ?_)
  refine lv_iconst (v := 0) hx hb dX12_readLock_32 (by decide) ?_
  refine lv_istore_n (lv' := [(2, .int 0), (1, .int t_16), (0, .ref (B + h0))]) hx hb dX12_readLock_33 rfl hl (by decide) rfl (fun ls hl => ?_)
  exact E_34  σ h0 t_16 (0 : Int32) _ _ _ hS h (lv_sub hl [2, 1, 0] rfl)
set_option maxHeartbeats 4000000 in
set_option maxRecDepth 100000 in
theorem c_X12_roomHere {l : Launch} {X : ez_X} {B : Nat} {σ : ez_H} {h0 : Nat} {z : Int32} (h : z_X12_roomHere σ h0 = some z) : ez_M l X B σ yX12_roomHere cX12_roomHere 1 (some .int) 1 [.ref (B + h0)] (some (.int z)) σ := by
  refine ez_startip (z := z) (by decide) (Nat.le_of_ble_eq_true rfl) (fun p e R s m args below meth c Q hC hret hS ls hl => ?_)
  have hC : ez_C p R s m args c X B RX12 cX12_roomHere 1 1 := hC
  have hx := hC.1.1
  have hb := hC.1.2.1
  have hown := hC.1.2.2.2.1
  have hts := hC.1.2.2.2.2
  have hl : lv_has ls 1 [(0, .ref (B + h0))] := hl
  obtain ⟨n0, e0⟩ : ∃ n0 : Nat, n0 = σ.length := ⟨_, rfl⟩
  rw [← e0] at hret hS
  obtain ⟨-, h⟩ := ez_in h
  refine lv_aload_n hx hb dX12_roomHere_0 rfl (lv_at hl 0 rfl) ?_
  refine lv_aload_n hx hb dX12_roomHere_1 rfl (lv_at hl 0 rfl) ?_
  refine eg_RX12_94 hC hS h dX12_roomHere_2 (fun t_2 h => ?_)
  refine lv_bipush (v := 6) hx hb dX12_roomHere_5 (by decide) ?_
  refine lv_aload_n hx hb dX12_roomHere_7 rfl (lv_at hl 0 rfl) ?_
  refine eg_RX12_265 hC hS h dX12_roomHere_8 (fun t_8 h => ?_)
  refine lv_imul hx hb dX12_roomHere_11 ?_
  refine ez_top h (fun t_11 h => ?_)
  refine lv_aload_n hx hb dX12_roomHere_12 rfl (lv_at hl 0 rfl) ?_
  refine eg_RX12_36 hC hS h dX12_roomHere_13 (fun t_13 h => ?_)
  refine lv_aload_n hx hb dX12_roomHere_16 rfl (lv_at hl 0 rfl) ?_
  refine eg_RX12_265 hC hS h dX12_roomHere_17 (fun t_17 h => ?_)
  refine ez_ial hC hS h dX12_roomHere_20 (fun t_20 h => ?_)
  refine ez_cVpi (As := [.ref (B + t_2), .int t_11, .int t_20]) (rest := []) h (fun _ q => c_X12_here q) hC k_X12_here ql_RX12_325 rfl (by decide) hS (fun _ q => ez_rcv q) rfl hl.1 rfl (Nat.le_of_ble_eq_true rfl) ⟨Nat.zero_le _, Nat.zero_le _⟩ dX12_roomHere_21 (fun t_21 H locs hS h => ?_)
  exact hret _ _ _ _ _ (Option.some.inj h) rfl hS dX12_roomHere_24
