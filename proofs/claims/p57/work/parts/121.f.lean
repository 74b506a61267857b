set_option maxHeartbeats 4000000 in
set_option maxRecDepth 100000 in
theorem c_X12_filing {l : Launch} {X : ez_X} {B : Nat} {σ : ez_H} {h0 : Nat} {x1 : Int32} {x2 : Int32} {x3 : Int32} {z : Int32} (h : z_X12_filing σ h0 x1 x2 x3 = some z) : ez_M l X B σ yX12_filing cX12_filing 8 (some .int) 3 [.ref (B + h0), .int x1, .int x2, .int x3] (some (.int z)) σ := by
  refine ez_startip (z := z) (by decide) (Nat.le_of_ble_eq_true rfl) (fun p e R s m args below meth c Q hC hret hS ls hl => ?_)
  have hC : ez_C p R s m args c X B RX12 cX12_filing 8 3 := hC
  have hx := hC.1.1
  have hb := hC.1.2.1
  have hown := hC.1.2.2.2.1
  have hts := hC.1.2.2.2.2
  have hl : lv_has ls 8 [(0, .ref (B + h0)), (1, .int x1), (2, .int x2), (3, .int x3)] := hl
  obtain ⟨n0, e0⟩ : ∃ n0 : Nat, n0 = σ.length := ⟨_, rfl⟩
  rw [← e0] at hret hS
  obtain ⟨-, h⟩ := ez_in h
  have K_25 : ∀ (H : Heap) (locs : List Loc) (ls : Array Slot), ez_S X B s.heap (n0) σ H locs → z_X12_filing_25 σ = some z → lv_has ls 8 [] → W p l e R s m args below meth c H locs 0 0 Q (F0 m 25 ls []) := by
    intro  H locs ls hS h hl
    refine lv_iconst (v := -1) hx hb dX12_filing_25 (by decide) ?_
    exact hret _ _ _ _ _ (Option.some.inj h) rfl hS dX12_filing_26
  have K_127 : ∀ (y0 : Int32) (H : Heap) (locs : List Loc) (ls : Array Slot), ez_S X B s.heap (n0) σ H locs → z_X12_filing_127 σ y0 = some z → lv_has ls 8 [] → W p l e R s m args below meth c H locs 0 0 Q (F0 m 127 ls [.int y0]) := by
    intro y0 H locs ls hS h hl
    exact hret _ _ _ _ _ (Option.some.inj h) rfl hS dX12_filing_127
  have K_101 : ∀ (k_38 : Nat → Int32 → Int32 → Int32 → Int32 → Int32 → Int32 → Option (Int32)) (hk_38 : ∀ (h0 : Nat) (x1 : Int32) (x2 : Int32) (x3 : Int32) (x4 : Int32) (x5 : Int32) (x6 : Int32) (H : Heap) (locs : List Loc) (ls : Array Slot), ez_S X B s.heap (n0) σ H locs → k_38 h0 x1 x2 x3 x4 x5 x6 = some z → lv_has ls 8 [(0, .ref (B + h0)), (1, .int x1), (2, .int x2), (3, .int x3), (4, .int x4), (5, .int x5), (6, .int x6)] → W p l e R s m args below meth c H locs 0 0 Q (F0 m 38 ls [])), ∀ (h0 : Nat) (x1 : Int32) (x2 : Int32) (x3 : Int32) (x4 : Int32) (x5 : Int32) (x6 : Int32) (H : Heap) (locs : List Loc) (ls : Array Slot), ez_S X B s.heap (n0) σ H locs → z_X12_filing_101 σ k_38 h0 x1 x2 x3 x4 x5 x6 = some z → lv_has ls 8 [(0, .ref (B + h0)), (1, .int x1), (2, .int x2), (3, .int x3), (4, .int x4), (5, .int x5), (6, .int x6)] → W p l e R s m args below meth c H locs 0 0 Q (F0 m 101 ls []) := by
    intro k_38 hk_38 h0 x1 x2 x3 x4 x5 x6 H locs ls hS h hl
    obtain ⟨t_101, e_101, h⟩ := ez_let_sp h
    refine lv_iinc (v := t_101) (lv' := [(6, .int t_101), (0, .ref (B + h0)), (1, .int x1), (2, .int x2), (3, .int x3), (4, .int x4), (5, .int x5)]) hx hb dX12_filing_101 hl (k := 6) rfl (by rw [e_101]; rfl) (by decide) rfl (fun ls hl => ?_)
    refine lv_goto (tgt := 38) hx hb dX12_filing_104 (by decide) ?_
    exact hk_38 h0 x1 x2 x3 x4 x5 t_101 _ _ _ hS h (lv_sub hl [1, 2, 3, 4, 5, 6, 0] rfl)
  have K_38 : ∀ (k_38 : Nat → Int32 → Int32 → Int32 → Int32 → Int32 → Int32 → Option (Int32)) (hk_38 : ∀ (h0 : Nat) (x1 : Int32) (x2 : Int32) (x3 : Int32) (x4 : Int32) (x5 : Int32) (x6 : Int32) (H : Heap) (locs : List Loc) (ls : Array Slot), ez_S X B s.heap (n0) σ H locs → k_38 h0 x1 x2 x3 x4 x5 x6 = some z → lv_has ls 8 [(0, .ref (B + h0)), (1, .int x1), (2, .int x2), (3, .int x3), (4, .int x4), (5, .int x5), (6, .int x6)] → W p l e R s m args below meth c H locs 0 0 Q (F0 m 38 ls [])), ∀ (h0 : Nat) (x1 : Int32) (x2 : Int32) (x3 : Int32) (x4 : Int32) (x5 : Int32) (x6 : Int32) (H : Heap) (locs : List Loc) (ls : Array Slot), ez_S X B s.heap (n0) σ H locs → z_X12_filing_38 σ k_38 h0 x1 x2 x3 x4 x5 x6 = some z → lv_has ls 8 [(0, .ref (B + h0)), (1, .int x1), (2, .int x2), (3, .int x3), (4, .int x4), (5, .int x5), (6, .int x6)] → W p l e R s m args below meth c H locs 0 0 Q (F0 m 38 ls []) := by
    intro k_38 hk_38 h0 x1 x2 x3 x4 x5 x6 H locs ls hS h hl
    refine lv_iload hx hb dX12_filing_38 (lv_at hl 6 rfl) ?_
    refine lv_aload_n hx hb dX12_filing_40 rfl (lv_at hl 0 rfl) ?_
    refine ez_cVpi (As := []) (rest := [.int x6]) h (fun _ q => c_X12_bittings q) hC k_X12_bittings ql_RX12_438 rfl (by decide) hS (fun _ q => ez_rcv q) rfl hl.1 rfl (Nat.le_of_ble_eq_true rfl) ⟨Nat.zero_le _, Nat.zero_le _⟩ dX12_filing_41 (fun t_41 H locs hS h => ?_)
    refine lv_icmp_ge (tgt := 107) hx hb dX12_filing_44 (by decide) (fun c_44 => ?_) (fun c_44 => ?_)
    · replace h := ez_ifp h c_44
      refine lv_iload hx hb dX12_filing_107 (lv_at hl 4 rfl) ?_
      refine lv_if_ge (tgt := 116) hx hb dX12_filing_109 (by decide) (fun c_109 => ?_) (fun c_109 => ?_)
      · replace h := ez_ifp h c_109
        refine lv_iload_n hx hb dX12_filing_116 rfl (lv_at hl 3 rfl) ?_
        refine lv_if_ne (tgt := 125) hx hb dX12_filing_117 (by decide) (fun c_117 => ?_) (fun c_117 => ?_)
        · replace h := ez_ifn h c_117
          refine lv_iload hx hb dX12_filing_125 (lv_at hl 4 rfl) ?_
          exact K_127  x4 _ _ _ hS h (lv_sub hl [] rfl)
        · replace h := ez_ifp h c_117
          refine lv_iload hx hb dX12_filing_120 (lv_at hl 5 rfl) ?_
          refine lv_goto (tgt := 127) hx hb dX12_filing_122 (by decide) ?_
          exact K_127  x5 _ _ _ hS h (lv_sub hl [] rfl)
      · replace h := ez_ifn h c_109
        refine lv_iconst (v := -1) hx hb dX12_filing_112 (by decide) ?_
        refine lv_goto (tgt := 127) hx hb dX12_filing_113 (by decide) ?_
        exact K_127  (-1 : Int32) _ _ _ hS h (lv_sub hl [] rfl)
    · replace h := ez_ifn h c_44
      refine lv_aload_n hx hb dX12_filing_47 rfl (lv_at hl 0 rfl) ?_
      refine lv_iload hx hb dX12_filing_48 (lv_at hl 6 rfl) ?_
      refine ez_cVpi (As := [.int x6]) (rest := []) h (fun _ q => c_X12_isLegal q) hC k_X12_isLegal ql_RX12_456 rfl (by decide) hS (fun _ q => ez_rcv q) rfl hl.1 rfl (Nat.le_of_ble_eq_true rfl) ⟨Nat.zero_le _, Nat.zero_le _⟩ dX12_filing_50 (fun t_50 H locs hS h => ?_)
      refine lv_if_eq (tgt := 101) hx hb dX12_filing_53 (by decide) (fun c_53 => ?_) (fun c_53 => ?_)
      · replace h := ez_ifp h c_53
        exact K_101 k_38 hk_38 h0 x1 x2 x3 x4 x5 x6 _ _ _ hS h (lv_sub hl [0, 1, 2, 3, 4, 5, 6] rfl)
      · replace h := ez_ifn h c_53
        refine lv_aload_n hx hb dX12_filing_56 rfl (lv_at hl 0 rfl) ?_
        refine lv_iload hx hb dX12_filing_57 (lv_at hl 6 rfl) ?_
        refine lv_iload_n hx hb dX12_filing_59 rfl (lv_at hl 2 rfl) ?_
        refine ez_cVpi (As := [.int x6, .int x2]) (rest := []) h (fun _ q => c_X12_doesOpen q) hC k_X12_doesOpen ql_RX12_453 rfl (by decide) hS (fun _ q => ez_rcv q) rfl hl.1 rfl (Nat.le_of_ble_eq_true rfl) ⟨Nat.zero_le _, Nat.zero_le _⟩ dX12_filing_60 (fun t_60 H locs hS h => ?_)
        refine lv_if_ne (tgt := 69) hx hb dX12_filing_63 (by decide) (fun c_63 => ?_) (fun c_63 => ?_)
        · replace h := ez_ifn h c_63
          refine lv_aload_n hx hb dX12_filing_69 rfl (lv_at hl 0 rfl) ?_
          refine lv_iload_n hx hb dX12_filing_70 rfl (lv_at hl 1 rfl) ?_
          refine lv_iload hx hb dX12_filing_71 (lv_at hl 6 rfl) ?_
          refine ez_cVpi (As := [.int x1, .int x6]) (rest := []) h (fun _ q => c_X12_filedTo q) hC k_X12_filedTo ql_RX12_529 rfl (by decide) hS (fun _ q => ez_rcv q) rfl hl.1 rfl (Nat.le_of_ble_eq_true rfl) ⟨Nat.zero_le _, Nat.zero_le _⟩ dX12_filing_73 (fun t_73 H locs hS h => ?_)
          refine lv_istore (lv' := [(7, .int t_73), (0, .ref (B + h0)), (1, .int x1), (2, .int x2), (3, .int x3), (4, .int x4), (5, .int x5), (6, .int x6)]) hx hb dX12_filing_76 hl (by decide) rfl (fun ls hl => ?_)
          refine lv_iload hx hb dX12_filing_78 (lv_at hl 0 rfl) ?_
          refine lv_if_lt (tgt := 101) hx hb dX12_filing_80 (by decide) (fun c_80 => ?_) (fun c_80 => ?_)
          · replace h := ez_ifp h c_80
            exact K_101 k_38 hk_38 h0 x1 x2 x3 x4 x5 x6 _ _ _ hS h (lv_sub hl [1, 2, 3, 4, 5, 6, 7] rfl)
          · replace h := ez_ifn h c_80
            refine lv_iload hx hb dX12_filing_83 (lv_at hl 0 rfl) ?_
            refine lv_iload hx hb dX12_filing_85 (lv_at hl 6 rfl) ?_
            refine lv_icmp_lt (tgt := 93) hx hb dX12_filing_87 (by decide) (fun c_87 => ?_) (fun c_87 => ?_)
            · replace h := ez_ifp h c_87
              refine lv_iload hx hb dX12_filing_93 (lv_at hl 7 rfl) ?_
              refine lv_istore (lv' := [(4, .int x6), (7, .int t_73), (0, .ref (B + h0)), (1, .int x1), (2, .int x2), (3, .int x3), (5, .int x5), (6, .int x6)]) hx hb dX12_filing_95 hl (by decide) rfl (fun ls hl => ?_)
              refine lv_iload hx hb dX12_filing_97 (lv_at hl 1 rfl) ?_
              refine lv_istore (lv' := [(5, .int t_73), (4, .int x6), (7, .int t_73), (0, .ref (B + h0)), (1, .int x1), (2, .int x2), (3, .int x3), (6, .int x6)]) hx hb dX12_filing_99 hl (by decide) rfl (fun ls hl => ?_)
              exact K_101 k_38 hk_38 h0 x1 x2 x3 x6 t_73 x6 _ _ _ hS h (lv_sub hl [3, 4, 5, 6, 1, 0, 7] rfl)
            · replace h := ez_ifn h c_87
              refine lv_goto (tgt := 101) hx hb dX12_filing_90 (by decide) ?_
              exact K_101 k_38 hk_38 h0 x1 x2 x3 x4 x5 x6 _ _ _ hS h (lv_sub hl [1, 2, 3, 4, 5, 6, 7] rfl)
        · replace h := ez_ifp h c_63
          refine lv_goto (tgt := 101) hx hb dX12_filing_66 (by decide) ?_
          exact K_101 k_38 hk_38 h0 x1 x2 x3 x4 x5 x6 _ _ _ hS h (lv_sub hl [0, 1, 2, 3, 4, 5, 6] rfl)
  have E_38 : ∀ (h0 : Nat) (x1 : Int32) (x2 : Int32) (x3 : Int32) (x4 : Int32) (x5 : Int32) (x6 : Int32) (H : Heap) (locs : List Loc) (ls : Array Slot), ez_S X B s.heap (n0) σ H locs → (ez_fix (fun _ _ _ _ _ _ _ => none) (z_X12_filing_38 σ) ez_N) h0 x1 x2 x3 x4 x5 x6 = some z → lv_has ls 8 [(0, .ref (B + h0)), (1, .int x1), (2, .int x2), (3, .int x3), (4, .int x4), (5, .int x5), (6, .int x6)] → W p l e R s m args below meth c H locs 0 0 Q (F0 m 38 ls []) := ez_fix_ind (fun k_38 : Nat → Int32 → Int32 → Int32 → Int32 → Int32 → Int32 → Option (Int32) => ∀ (h0 : Nat) (x1 : Int32) (x2 : Int32) (x3 : Int32) (x4 : Int32) (x5 : Int32) (x6 : Int32) (H : Heap) (locs : List Loc) (ls : Array Slot), ez_S X B s.heap (n0) σ H locs → k_38 h0 x1 x2 x3 x4 x5 x6 = some z → lv_has ls 8 [(0, .ref (B + h0)), (1, .int x1), (2, .int x2), (3, .int x3), (4, .int x4), (5, .int x5), (6, .int x6)] → W p l e R s m args below meth c H locs 0 0 Q (F0 m 38 ls [])) (fun _ _ _ _ _ _ _ _ _ _ _ h _ => by cases h) (fun k_38 hk_38 => K_38 k_38 hk_38) ez_N
  refine lv_aload_n hx hb dX12_filing_0 rfl (lv_at hl 0 rfl) ?_
  refine lv_iload_n hx hb dX12_filing_1 rfl (lv_at hl 1 rfl) ?_
  refine ez_cVpi (As := [.int x1]) (rest := []) h (fun _ q => c_X12_isKey q) hC k_X12_isKey ql_RX12_462 rfl (by decide) hS (fun _ q => ez_rcv q) rfl hl.1 rfl (Nat.le_of_ble_eq_true rfl) ⟨Nat.zero_le _, Nat.zero_le _⟩ dX12_filing_2 (fun t_2 H locs hS h => ?_)
  refine lv_if_eq (tgt := 25) hx hb dX12_filing_5 (by decide) (fun c_5 => ?_) (fun c_5 => ?_)
  · replace h := ez_ifp h c_5
    exact K_25   _ _ _ hS h (lv_sub hl [] rfl)
  · replace h := ez_ifn h c_5
    refine lv_aload_n hx hb dX12_filing_8 rfl (lv_at hl 0 rfl) ?_
    refine lv_iload_n hx hb dX12_filing_9 rfl (lv_at hl 2 rfl) ?_
    refine ez_cVpi (As := [.int x2]) (rest := []) h (fun _ q => c_X12_isLock q) hC k_X12_isLock ql_RX12_477 rfl (by decide) hS (fun _ q => ez_rcv q) rfl hl.1 rfl (Nat.le_of_ble_eq_true rfl) ⟨Nat.zero_le _, Nat.zero_le _⟩ dX12_filing_10 (fun t_10 H locs hS h => ?_)
    refine lv_if_eq (tgt := 25) hx hb dX12_filing_13 (by decide) (fun c_13 => ?_) (fun c_13 => ?_)
    · replace h := ez_ifp h c_13
      exact K_25   _ _ _ hS h (lv_sub hl [] rfl)
    · replace h := ez_ifn h c_13
      refine lv_iload_n hx hb dX12_filing_16 rfl (lv_at hl 3 rfl) ?_
      refine lv_iconst (v := 0) hx hb dX12_filing_17 (by decide) ?_
      refine lv_iconst (v := 1) hx hb dX12_filing_18 (by decide) ?_
      refine ez_cSpi (As := [.int x3, .int 0, .int 1]) (rest := []) h (fun _ q => c_X12_isIn q) hC k_X12_isIn ql_RX12_407 rfl (by decide) hS hl.1 rfl (Nat.le_of_ble_eq_true rfl) ⟨Nat.zero_le _, Nat.zero_le _⟩ dX12_filing_19 (fun t_19 H locs hS h => ?_)
      refine lv_if_ne (tgt := 27) hx hb dX12_filing_22 (by decide) (fun c_22 => ?_) (fun c_22 => ?_)
      · replace h := ez_ifn h c_22
        refine lv_iconst (v := -1) hx hb dX12_filing_27 (by decide) ?_
        refine lv_istore (lv' := [(4, .int (-1)), (0, .ref (B + h0)), (1, .int x1), (2, .int x2), (3, .int x3)]) hx hb dX12_filing_28 hl (by decide) rfl (fun ls hl => ?_)
        refine lv_ldcw hx hb hown (hts _ qc_RX12_528) dX12_filing_30 ?_
        refine lv_istore (lv' := [(5, .int 100000), (4, .int (-1)), (0, .ref (B + h0)), (1, .int x1), (2, .int x2), (3, .int x3)]) hx hb dX12_filing_33 hl (by decide) rfl (fun ls hl => ?_)
        refine lv_iconst (v := 0) hx hb dX12_filing_35 (by decide) ?_
        refine lv_istore (lv' := [(6, .int 0), (5, .int 100000), (4, .int (-1)), (0, .ref (B + h0)), (1, .int x1), (2, .int x2), (3, .int x3)]) hx hb dX12_filing_36 hl (by decide) rfl (fun ls hl => ?_)
        exact E_38  h0 x1 x2 x3 (-1 : Int32) (100000 : Int32) (0 : Int32) _ _ _ hS h (lv_sub hl [3, 4, 5, 6, 2, 1, 0] rfl)
      · replace h := ez_ifp h c_22
        exact K_25   _ _ _ hS h (lv_sub hl [] rfl)
set_option maxHeartbeats 4000000 in
set_option maxRecDepth 100000 in
theorem c_X12_isPerson {l : Launch} {X : ez_X} {B : Nat} {σ : ez_H} {h0 : Nat} {x1 : Int32} {z : Int32} (h : z_X12_isPerson σ h0 x1 = some z) : ez_M l X B σ yX12_isPerson cX12_isPerson 2 (some .boolean) 1 [.ref (B + h0), .int x1] (some (.int z)) σ := by
  refine ez_startip (z := z) (by decide) (Nat.le_of_ble_eq_true rfl) (fun p e R s m args below meth c Q hC hret hS ls hl => ?_)
  have hC : ez_C p R s m args c X B RX12 cX12_isPerson 2 1 := hC
  have hx := hC.1.1
  have hb := hC.1.2.1
  have hown := hC.1.2.2.2.1
  have hts := hC.1.2.2.2.2
  have hl : lv_has ls 2 [(0, .ref (B + h0)), (1, .int x1)] := hl
  obtain ⟨n0, e0⟩ : ∃ n0 : Nat, n0 = σ.length := ⟨_, rfl⟩
  rw [← e0] at hret hS
  obtain ⟨-, h⟩ := ez_in h
  refine lv_iload_n hx hb dX12_isPerson_0 rfl (lv_at hl 1 rfl) ?_
  refine lv_iconst (v := 0) hx hb dX12_isPerson_1 (by decide) ?_
  refine lv_aload_n hx hb dX12_isPerson_2 rfl (lv_at hl 0 rfl) ?_
  refine eg_RX12_42 hC hS h dX12_isPerson_3 (fun t_3 h => ?_)
  refine lv_aload_n hx hb dX12_isPerson_6 rfl (lv_at hl 0 rfl) ?_
  refine eg_RX12_274 hC hS h dX12_isPerson_7 (fun t_7 h => ?_)
  refine ez_ial hC hS h dX12_isPerson_10 (fun t_10 h => ?_)
  refine lv_iconst (v := 1) hx hb dX12_isPerson_11 (by decide) ?_
  refine lv_isub hx hb dX12_isPerson_12 ?_
  refine ez_top h (fun t_12 h => ?_)
  refine ez_cSpi (As := [.int x1, .int 0, .int t_12]) (rest := []) h (fun _ q => c_X12_isIn q) hC k_X12_isIn ql_RX12_407 rfl (by decide) hS hl.1 rfl (Nat.le_of_ble_eq_true rfl) ⟨Nat.zero_le _, Nat.zero_le _⟩ dX12_isPerson_13 (fun t_13 H locs hS h => ?_)
  obtain ⟨hn, h⟩ := ez_nr_sp rfl h
  exact hret _ _ _ _ _ (Option.some.inj h) hn hS dX12_isPerson_16
set_option maxHeartbeats 4000000 in
set_option maxRecDepth 100000 in
theorem c_X12_hand {l : Launch} {X : ez_X} {B : Nat} {σ : ez_H} {h0 : Nat} {x1 : Int32} {x2 : Int32} {z : Int32 × ez_H} (h : z_X12_hand σ h0 x1 x2 = some z) : ez_M l X B σ yX12_hand cX12_hand 4 (some .int) 1 [.ref (B + h0), .int x1, .int x2] (some (.int z.1)) z.2 := by
  refine ez_starti (z := z) (by decide) (Nat.le_of_ble_eq_true rfl) (fun p e R s m args below meth c Q hC hret hS ls hl => ?_)
  have hC : ez_C p R s m args c X B RX12 cX12_hand 4 1 := hC
  have hx := hC.1.1
  have hb := hC.1.2.1
  have hown := hC.1.2.2.2.1
  have hts := hC.1.2.2.2.2
  have hl : lv_has ls 4 [(0, .ref (B + h0)), (1, .int x1), (2, .int x2)] := hl
  obtain ⟨σ0, eσ⟩ : ∃ σ0 : ez_H, σ0 = σ := ⟨_, rfl⟩
  rw [← eσ] at hret
  have hS : ez_S X B s.heap σ0.length σ s.heap [] := eσ ▸ hS
  obtain ⟨-, h⟩ := ez_in h
  refine lv_aload_n hx hb dX12_hand_0 rfl (lv_at hl 0 rfl) ?_
  refine ez_cVv (As := []) (rest := []) h (fun _ q => c_X12_keepAct q) hC k_X12_keepAct ql_RX12_600 rfl (by decide) hS (fun _ q => ez_rcv q) rfl hl.1 rfl (Nat.le_of_ble_eq_true rfl) ⟨Nat.zero_le _, Nat.zero_le _⟩ dX12_hand_1 (fun _ σ H locs hS h => ?_)
  refine lv_aload_n hx hb dX12_hand_4 rfl (lv_at hl 0 rfl) ?_
  refine lv_iload_n hx hb dX12_hand_5 rfl (lv_at hl 1 rfl) ?_
  refine ez_cVpi (As := [.int x1]) (rest := []) h (fun _ q => c_X12_holderOf q) hC k_X12_holderOf ql_RX12_465 rfl (by decide) hS (fun _ q => ez_rcv q) rfl hl.1 rfl (Nat.le_of_ble_eq_true rfl) ⟨Nat.zero_le _, Nat.zero_le _⟩ dX12_hand_6 (fun t_6 H locs hS h => ?_)
  refine lv_istore_n (lv' := [(3, .int t_6), (0, .ref (B + h0)), (1, .int x1), (2, .int x2)]) hx hb dX12_hand_9 rfl hl (by decide) rfl (fun ls hl => ?_)
  refine lv_aload_n hx hb dX12_hand_10 rfl (lv_at hl 1 rfl) ?_
  refine eg_RX12_118 hC hS h dX12_hand_11 (fun t_11 h => ?_)
  refine lv_bipush (v := 48) hx hb dX12_hand_14 (by decide) ?_
  refine lv_iload_n hx hb dX12_hand_16 rfl (lv_at hl 2 rfl) ?_
  refine lv_iadd hx hb dX12_hand_17 ?_
  refine ez_top h (fun t_17 h => ?_)
  refine lv_iload_n hx hb dX12_hand_18 rfl (lv_at hl 3 rfl) ?_
  refine ez_ias hC hS h dX12_hand_19 (fun σ H locs hS h => ?_)
  refine lv_iload_n hx hb dX12_hand_20 rfl (lv_at hl 0 rfl) ?_
  exact hret _ _ _ _ _ _ (Option.some.inj h) rfl hS dX12_hand_21
set_option maxHeartbeats 4000000 in
set_option maxRecDepth 100000 in
theorem c_X12_find {l : Launch} {X : ez_X} {B : Nat} {σ : ez_H} {h0 : Nat} {x1 : Int32} {x2 : Int32} {z : Int32 × ez_H} (h : z_X12_find σ h0 x1 x2 = some z) : ez_M l X B σ yX12_find cX12_find 4 (some .int) 3 [.ref (B + h0), .int x1, .int x2] (some (.int z.1)) z.2 := by
  refine ez_starti (z := z) (by decide) (Nat.le_of_ble_eq_true rfl) (fun p e R s m args below meth c Q hC hret hS ls hl => ?_)
  have hC : ez_C p R s m args c X B RX12 cX12_find 4 3 := hC
  have hx := hC.1.1
  have hb := hC.1.2.1
  have hown := hC.1.2.2.2.1
  have hts := hC.1.2.2.2.2
  have hl : lv_has ls 4 [(0, .ref (B + h0)), (1, .int x1), (2, .int x2)] := hl
  obtain ⟨σ0, eσ⟩ : ∃ σ0 : ez_H, σ0 = σ := ⟨_, rfl⟩
  rw [← eσ] at hret
  have hS : ez_S X B s.heap σ0.length σ s.heap [] := eσ ▸ hS
  obtain ⟨-, h⟩ := ez_in h
  have K_26 : ∀ (σ : ez_H) (H : Heap) (locs : List Loc) (ls : Array Slot), ez_S X B s.heap (σ0.length) σ H locs → z_X12_find_26 σ = some z → lv_has ls 4 [] → W p l e R s m args below meth c H locs 0 0 Q (F0 m 26 ls []) := by
    intro σ H locs ls hS h hl
    refine lv_iconst (v := -1) hx hb dX12_find_26 (by decide) ?_
    exact hret _ _ _ _ _ _ (Option.some.inj h) rfl hS dX12_find_27
  refine lv_aload_n hx hb dX12_find_0 rfl (lv_at hl 0 rfl) ?_
  refine lv_iload_n hx hb dX12_find_1 rfl (lv_at hl 1 rfl) ?_
  refine ez_cVpi (As := [.int x1]) (rest := []) h (fun _ q => c_X12_isKey q) hC k_X12_isKey ql_RX12_462 rfl (by decide) hS (fun _ q => ez_rcv q) rfl hl.1 rfl (Nat.le_of_ble_eq_true rfl) ⟨Nat.zero_le _, Nat.zero_le _⟩ dX12_find_2 (fun t_2 H locs hS h => ?_)
  refine lv_if_eq (tgt := 26) hx hb dX12_find_5 (by decide) (fun c_5 => ?_) (fun c_5 => ?_)
  · replace h := ez_ifp h c_5
    exact K_26  σ _ _ _ hS h (lv_sub hl [] rfl)
  · replace h := ez_ifn h c_5
    refine lv_aload_n hx hb dX12_find_8 rfl (lv_at hl 0 rfl) ?_
    refine lv_iload_n hx hb dX12_find_9 rfl (lv_at hl 2 rfl) ?_
    refine ez_cVpi (As := [.int x2]) (rest := []) h (fun _ q => c_X12_isPerson q) hC k_X12_isPerson ql_RX12_495 rfl (by decide) hS (fun _ q => ez_rcv q) rfl hl.1 rfl (Nat.le_of_ble_eq_true rfl) ⟨Nat.zero_le _, Nat.zero_le _⟩ dX12_find_10 (fun t_10 H locs hS h => ?_)
    refine lv_if_eq (tgt := 26) hx hb dX12_find_13 (by decide) (fun c_13 => ?_) (fun c_13 => ?_)
    · replace h := ez_ifp h c_13
      exact K_26  σ _ _ _ hS h (lv_sub hl [] rfl)
    · replace h := ez_ifn h c_13
      refine lv_aload_n hx hb dX12_find_16 rfl (lv_at hl 0 rfl) ?_
      refine lv_iload_n hx hb dX12_find_17 rfl (lv_at hl 1 rfl) ?_
      refine ez_cVpi (As := [.int x1]) (rest := []) h (fun _ q => c_X12_holderOf q) hC k_X12_holderOf ql_RX12_465 rfl (by decide) hS (fun _ q => ez_rcv q) rfl hl.1 rfl (Nat.le_of_ble_eq_true rfl) ⟨Nat.zero_le _, Nat.zero_le _⟩ dX12_find_18 (fun t_18 H locs hS h => ?_)
      refine lv_bipush (v := -2) hx hb dX12_find_21 (by decide) ?_
      refine lv_icmp_eq (tgt := 28) hx hb dX12_find_23 (by decide) (fun c_23 => ?_) (fun c_23 => ?_)
      · replace h := ez_ifp h c_23
        refine lv_aload_n hx hb dX12_find_28 rfl (lv_at hl 0 rfl) ?_
        refine lv_iload_n hx hb dX12_find_29 rfl (lv_at hl 1 rfl) ?_
        refine lv_iload_n hx hb dX12_find_30 rfl (lv_at hl 2 rfl) ?_
        refine ez_cVi (As := [.int x1, .int x2]) (rest := []) h (fun _ q => c_X12_hand q) hC k_X12_hand ql_RX12_603 rfl (by decide) hS (fun _ q => ez_rcv q) rfl hl.1 rfl (Nat.le_of_ble_eq_true rfl) ⟨Nat.zero_le _, Nat.zero_le _⟩ dX12_find_31 (fun t_31 σ H locs hS h => ?_)
        refine lv_istore_n (lv' := [(3, .int t_31), (0, .ref (B + h0)), (1, .int x1), (2, .int x2)]) hx hb dX12_find_34 rfl hl (by decide) rfl (fun ls hl => ?_)
        refine lv_aload_n hx hb dX12_find_35 rfl (lv_at hl 1 rfl) ?_
        refine lv_iload_n hx hb dX12_find_36 rfl (lv_at hl 3 rfl) ?_
        refine ez_cVpi (As := [.int x2]) (rest := []) h (fun _ q => c_X12_keysOf q) hC k_X12_keysOf ql_RX12_498 rfl (by decide) hS (fun _ q => ez_rcv q) rfl hl.1 rfl (Nat.le_of_ble_eq_true rfl) ⟨Nat.zero_le _, Nat.zero_le _⟩ dX12_find_37 (fun t_37 H locs hS h => ?_)
        refine ez_cSpi (As := [.int t_37]) (rest := []) h (fun _ q => c_X12_bitsOf q) hC k_X12_bitsOf ql_RX12_471 rfl (by decide) hS hl.1 rfl (Nat.le_of_ble_eq_true rfl) ⟨Nat.zero_le _, Nat.zero_le _⟩ dX12_find_40 (fun t_40 H locs hS h => ?_)
        exact hret _ _ _ _ _ _ (Option.some.inj h) rfl hS dX12_find_43
      · replace h := ez_ifn h c_23
        exact K_26  σ _ _ _ hS h (lv_sub hl [] rfl)
set_option maxHeartbeats 4000000 in
set_option maxRecDepth 100000 in
theorem c_X12_isCut {l : Launch} {X : ez_X} {B : Nat} {σ : ez_H} {h0 : Nat} {x1 : Int32} {z : Int32} (h : z_X12_isCut σ h0 x1 = some z) : ez_M l X B σ yX12_isCut cX12_isCut 3 (some .boolean) 2 [.ref (B + h0), .int x1] (some (.int z)) σ := by
  refine ez_startip (z := z) (by decide) (Nat.le_of_ble_eq_true rfl) (fun p e R s m args below meth c Q hC hret hS ls hl => ?_)
  have hC : ez_C p R s m args c X B RX12 cX12_isCut 3 2 := hC
  have hx := hC.1.1
  have hb := hC.1.2.1
  have hown := hC.1.2.2.2.1
  have hts := hC.1.2.2.2.2
  have hl : lv_has ls 3 [(0, .ref (B + h0)), (1, .int x1)] := hl
  obtain ⟨n0, e0⟩ : ∃ n0 : Nat, n0 = σ.length := ⟨_, rfl⟩
  rw [← e0] at hret hS
  obtain ⟨-, h⟩ := ez_in h
  have K_2 : ∀ (k_2 : Nat → Int32 → Int32 → Option (Int32)) (hk_2 : ∀ (h0 : Nat) (x1 : Int32) (x2 : Int32) (H : Heap) (locs : List Loc) (ls : Array Slot), ez_S X B s.heap (n0) σ H locs → k_2 h0 x1 x2 = some z → lv_has ls 3 [(0, .ref (B + h0)), (1, .int x1), (2, .int x2)] → W p l e R s m args below meth c H locs 0 0 Q (F0 m 2 ls [])), ∀ (h0 : Nat) (x1 : Int32) (x2 : Int32) (H : Heap) (locs : List Loc) (ls : Array Slot), ez_S X B s.heap (n0) σ H locs → z_X12_isCut_2 σ k_2 h0 x1 x2 = some z → lv_has ls 3 [(0, .ref (B + h0)), (1, .int x1), (2, .int x2)] → W p l e R s m args below meth c H locs 0 0 Q (F0 m 2 ls []) := by
    intro k_2 hk_2 h0 x1 x2 H locs ls hS h hl
    refine lv_iload_n hx hb dX12_isCut_2 rfl (lv_at hl 2 rfl) ?_
    refine lv_aload_n hx hb dX12_isCut_3 rfl (lv_at hl 0 rfl) ?_
    refine ez_cVpi (As := []) (rest := [.int x2]) h (fun _ q => c_X12_many q) hC k_X12_many ql_RX12_404 rfl (by decide) hS (fun _ q => ez_rcv q) rfl hl.1 rfl (Nat.le_of_ble_eq_true rfl) ⟨Nat.zero_le _, Nat.zero_le _⟩ dX12_isCut_4 (fun t_4 H locs hS h => ?_)
    refine lv_icmp_ge (tgt := 27) hx hb dX12_isCut_7 (by decide) (fun c_7 => ?_) (fun c_7 => ?_)
    · replace h := ez_ifp h c_7
      refine lv_iconst (v := 0) hx hb dX12_isCut_27 (by decide) ?_
      have hn : narrow .boolean (.int 0) = .int 0 := by decide
      exact hret _ _ _ _ _ (Option.some.inj h) hn hS dX12_isCut_28
    · replace h := ez_ifn h c_7
      refine lv_aload_n hx hb dX12_isCut_10 rfl (lv_at hl 0 rfl) ?_
      refine lv_iload_n hx hb dX12_isCut_11 rfl (lv_at hl 2 rfl) ?_
      refine ez_cVpi (As := [.int x2]) (rest := []) h (fun _ q => c_X12_numberOf q) hC k_X12_numberOf ql_RX12_450 rfl (by decide) hS (fun _ q => ez_rcv q) rfl hl.1 rfl (Nat.le_of_ble_eq_true rfl) ⟨Nat.zero_le _, Nat.zero_le _⟩ dX12_isCut_12 (fun t_12 H locs hS h => ?_)
      refine lv_iload_n hx hb dX12_isCut_15 rfl (lv_at hl 1 rfl) ?_
      refine lv_icmp_ne (tgt := 21) hx hb dX12_isCut_16 (by decide) (fun c_16 => ?_) (fun c_16 => ?_)
      · replace h := ez_ifn h c_16
        obtain ⟨t_21, e_21, h⟩ := ez_let_sp h
        refine lv_iinc (v := t_21) (lv' := [(2, .int t_21), (0, .ref (B + h0)), (1, .int x1)]) hx hb dX12_isCut_21 hl (k := 2) rfl (by rw [e_21]; rfl) (by decide) rfl (fun ls hl => ?_)
        refine lv_goto (tgt := 2) hx hb dX12_isCut_24 (by decide) ?_
        exact hk_2 h0 x1 t_21 _ _ _ hS h (lv_sub hl [1, 2, 0] rfl)
      · replace h := ez_ifp h c_16
        refine lv_iconst (v := 1) hx hb dX12_isCut_19 (by decide) ?_
        have hn : narrow .boolean (.int 1) = .int 1 := by decide
        exact hret _ _ _ _ _ (Option.some.inj h) hn hS dX12_isCut_20
  have E_2 : ∀ (h0 : Nat) (x1 : Int32) (x2 : Int32) (H : Heap) (locs : List Loc) (ls : Array Slot), ez_S X B s.heap (n0) σ H locs → (ez_fix (fun _ _ _ => none) (z_X12_isCut_2 σ) ez_N) h0 x1 x2 = some z → lv_has ls 3 [(0, .ref (B + h0)), (1, .int x1), (2, .int x2)] → W p l e R s m args below meth c H locs 0 0 Q (F0 m 2 ls []) := ez_fix_ind (fun k_2 : Nat → Int32 → Int32 → Option (Int32) => ∀ (h0 : Nat) (x1 : Int32) (x2 : Int32) (H : Heap) (locs : List Loc) (ls : Array Slot), ez_S X B s.heap (n0) σ H locs → k_2 h0 x1 x2 = some z → lv_has ls 3 [(0, .ref (B + h0)), (1, .int x1), (2, .int x2)] → W p l e R s m args below meth c H locs 0 0 Q (F0 m 2 ls [])) (fun _ _ _ _ _ _ _ h _ => by cases h) (fun k_2 hk_2 => K_2 k_2 hk_2) ez_N
  refine lv_iconst (v := 0) hx hb dX12_isCut_0 (by decide) ?_
  refine lv_istore_n (lv' := [(2, .int 0), (0, .ref (B + h0)), (1, .int x1)]) hx hb dX12_isCut_1 rfl hl (by decide) rfl (fun ls hl => ?_)
  exact E_2  h0 x1 (0 : Int32) _ _ _ hS h (lv_sub hl [1, 2, 0] rfl)
set_option maxHeartbeats 4000000 in
set_option maxRecDepth 100000 in
theorem c_X12_isGhost {l : Launch} {X : ez_X} {B : Nat} {σ : ez_H} {h0 : Nat} {x1 : Int32} {x2 : Int32} {z : Int32} (h : z_X12_isGhost σ h0 x1 x2 = some z) : ez_M l X B σ yX12_isGhost cX12_isGhost 3 (some .boolean) 3 [.ref (B + h0), .int x1, .int x2] (some (.int z)) σ := by
  refine ez_startip (z := z) (by decide) (Nat.le_of_ble_eq_true rfl) (fun p e R s m args below meth c Q hC hret hS ls hl => ?_)
  have hC : ez_C p R s m args c X B RX12 cX12_isGhost 3 3 := hC
  have hx := hC.1.1
  have hb := hC.1.2.1
  have hown := hC.1.2.2.2.1
  have hts := hC.1.2.2.2.2
  have hl : lv_has ls 3 [(0, .ref (B + h0)), (1, .int x1), (2, .int x2)] := hl
  obtain ⟨n0, e0⟩ : ∃ n0 : Nat, n0 = σ.length := ⟨_, rfl⟩
  rw [← e0] at hret hS
  obtain ⟨-, h⟩ := ez_in h
  have K_30 : ∀ (y0 : Int32) (H : Heap) (locs : List Loc) (ls : Array Slot), ez_S X B s.heap (n0) σ H locs → z_X12_isGhost_30 σ y0 = some z → lv_has ls 3 [] → W p l e R s m args below meth c H locs 0 0 Q (F0 m 30 ls [.int y0]) := by
    intro y0 H locs ls hS h hl
    obtain ⟨hn, h⟩ := ez_nr_sp rfl h
    exact hret _ _ _ _ _ (Option.some.inj h) hn hS dX12_isGhost_30
  have K_29 : ∀ (H : Heap) (locs : List Loc) (ls : Array Slot), ez_S X B s.heap (n0) σ H locs → z_X12_isGhost_29 σ = some z → lv_has ls 3 [] → W p l e R s m args below meth c H locs 0 0 Q (F0 m 29 ls []) := by
    intro  H locs ls hS h hl
    refine lv_iconst (v := 0) hx hb dX12_isGhost_29 (by decide) ?_
    exact K_30  (0 : Int32) _ _ _ hS h (lv_sub hl [] rfl)
  refine lv_aload_n hx hb dX12_isGhost_0 rfl (lv_at hl 0 rfl) ?_
  refine lv_iload_n hx hb dX12_isGhost_1 rfl (lv_at hl 1 rfl) ?_
  refine ez_cVpi (As := [.int x1]) (rest := []) h (fun _ q => c_X12_isLegal q) hC k_X12_isLegal ql_RX12_456 rfl (by decide) hS (fun _ q => ez_rcv q) rfl hl.1 rfl (Nat.le_of_ble_eq_true rfl) ⟨Nat.zero_le _, Nat.zero_le _⟩ dX12_isGhost_2 (fun t_2 H locs hS h => ?_)
  refine lv_if_eq (tgt := 29) hx hb dX12_isGhost_5 (by decide) (fun c_5 => ?_) (fun c_5 => ?_)
  · replace h := ez_ifp h c_5
    exact K_29   _ _ _ hS h (lv_sub hl [] rfl)
  · replace h := ez_ifn h c_5
    refine lv_aload_n hx hb dX12_isGhost_8 rfl (lv_at hl 0 rfl) ?_
    refine lv_iload_n hx hb dX12_isGhost_9 rfl (lv_at hl 1 rfl) ?_
    refine lv_iload_n hx hb dX12_isGhost_10 rfl (lv_at hl 2 rfl) ?_
    refine ez_cVpi (As := [.int x1, .int x2]) (rest := []) h (fun _ q => c_X12_doesOpen q) hC k_X12_doesOpen ql_RX12_453 rfl (by decide) hS (fun _ q => ez_rcv q) rfl hl.1 rfl (Nat.le_of_ble_eq_true rfl) ⟨Nat.zero_le _, Nat.zero_le _⟩ dX12_isGhost_11 (fun t_11 H locs hS h => ?_)
    refine lv_if_eq (tgt := 29) hx hb dX12_isGhost_14 (by decide) (fun c_14 => ?_) (fun c_14 => ?_)
    · replace h := ez_ifp h c_14
      exact K_29   _ _ _ hS h (lv_sub hl [] rfl)
    · replace h := ez_ifn h c_14
      refine lv_aload_n hx hb dX12_isGhost_17 rfl (lv_at hl 0 rfl) ?_
      refine lv_iload_n hx hb dX12_isGhost_18 rfl (lv_at hl 1 rfl) ?_
      refine ez_cVpi (As := [.int x1]) (rest := []) h (fun _ q => c_X12_isCut q) hC k_X12_isCut ql_RX12_507 rfl (by decide) hS (fun _ q => ez_rcv q) rfl hl.1 rfl (Nat.le_of_ble_eq_true rfl) ⟨Nat.zero_le _, Nat.zero_le _⟩ dX12_isGhost_19 (fun t_19 H locs hS h => ?_)
      refine lv_if_ne (tgt := 29) hx hb dX12_isGhost_22 (by decide) (fun c_22 => ?_) (fun c_22 => ?_)
      · replace h := ez_ifn h c_22
        exact K_29   _ _ _ hS h (lv_sub hl [] rfl)
      · replace h := ez_ifp h c_22
        refine lv_iconst (v := 1) hx hb dX12_isGhost_25 (by decide) ?_
        refine lv_goto (tgt := 30) hx hb dX12_isGhost_26 (by decide) ?_
        exact K_30  (1 : Int32) _ _ _ hS h (lv_sub hl [] rfl)
set_option maxHeartbeats 4000000 in
set_option maxRecDepth 100000 in
theorem c_X12_ghost {l : Launch} {X : ez_X} {B : Nat} {σ : ez_H} {h0 : Nat} {x1 : Int32} {x2 : Int32} {z : Int32} (h : z_X12_ghost σ h0 x1 x2 = some z) : ez_M l X B σ yX12_ghost cX12_ghost 5 (some .int) 4 [.ref (B + h0), .int x1, .int x2] (some (.int z)) σ := by
  refine ez_startip (z := z) (by decide) (Nat.le_of_ble_eq_true rfl) (fun p e R s m args below meth c Q hC hret hS ls hl => ?_)
  have hC : ez_C p R s m args c X B RX12 cX12_ghost 5 4 := hC
  have hx := hC.1.1
  have hb := hC.1.2.1
  have hown := hC.1.2.2.2.1
  have hts := hC.1.2.2.2.2
  have hl : lv_has ls 5 [(0, .ref (B + h0)), (1, .int x1), (2, .int x2)] := hl
  obtain ⟨n0, e0⟩ : ∃ n0 : Nat, n0 = σ.length := ⟨_, rfl⟩
  rw [← e0] at hret hS
  obtain ⟨-, h⟩ := ez_in h
  have K_12 : ∀ (H : Heap) (locs : List Loc) (ls : Array Slot), ez_S X B s.heap (n0) σ H locs → z_X12_ghost_12 σ = some z → lv_has ls 5 [] → W p l e R s m args below meth c H locs 0 0 Q (F0 m 12 ls []) := by
    intro  H locs ls hS h hl
    refine lv_iconst (v := -1) hx hb dX12_ghost_12 (by decide) ?_
    exact hret _ _ _ _ _ (Option.some.inj h) rfl hS dX12_ghost_13
  have K_51 : ∀ (k_19 : Nat → Int32 → Int32 → Int32 → Option (Int32)) (hk_19 : ∀ (h0 : Nat) (x1 : Int32) (x3 : Int32) (x4 : Int32) (H : Heap) (locs : List Loc) (ls : Array Slot), ez_S X B s.heap (n0) σ H locs → k_19 h0 x1 x3 x4 = some z → lv_has ls 5 [(0, .ref (B + h0)), (1, .int x1), (3, .int x3), (4, .int x4)] → W p l e R s m args below meth c H locs 0 0 Q (F0 m 19 ls [])), ∀ (h0 : Nat) (x1 : Int32) (x3 : Int32) (x4 : Int32) (H : Heap) (locs : List Loc) (ls : Array Slot), ez_S X B s.heap (n0) σ H locs → z_X12_ghost_51 σ k_19 h0 x1 x3 x4 = some z → lv_has ls 5 [(0, .ref (B + h0)), (1, .int x1), (3, .int x3), (4, .int x4)] → W p l e R s m args below meth c H locs 0 0 Q (F0 m 51 ls []) := by
    intro k_19 hk_19 h0 x1 x3 x4 H locs ls hS h hl
    obtain ⟨t_51, e_51, h⟩ := ez_let_sp h
    refine lv_iinc (v := t_51) (lv' := [(4, .int t_51), (0, .ref (B + h0)), (1, .int x1), (3, .int x3)]) hx hb dX12_ghost_51 hl (k := 3) rfl (by rw [e_51]; rfl) (by decide) rfl (fun ls hl => ?_)
    refine lv_goto (tgt := 19) hx hb dX12_ghost_54 (by decide) ?_
    exact hk_19 h0 x1 x3 t_51 _ _ _ hS h (lv_sub hl [1, 2, 3, 0] rfl)
  have K_19 : ∀ (k_19 : Nat → Int32 → Int32 → Int32 → Option (Int32)) (hk_19 : ∀ (h0 : Nat) (x1 : Int32) (x3 : Int32) (x4 : Int32) (H : Heap) (locs : List Loc) (ls : Array Slot), ez_S X B s.heap (n0) σ H locs → k_19 h0 x1 x3 x4 = some z → lv_has ls 5 [(0, .ref (B + h0)), (1, .int x1), (3, .int x3), (4, .int x4)] → W p l e R s m args below meth c H locs 0 0 Q (F0 m 19 ls [])), ∀ (h0 : Nat) (x1 : Int32) (x3 : Int32) (x4 : Int32) (H : Heap) (locs : List Loc) (ls : Array Slot), ez_S X B s.heap (n0) σ H locs → z_X12_ghost_19 σ k_19 h0 x1 x3 x4 = some z → lv_has ls 5 [(0, .ref (B + h0)), (1, .int x1), (3, .int x3), (4, .int x4)] → W p l e R s m args below meth c H locs 0 0 Q (F0 m 19 ls []) := by
    intro k_19 hk_19 h0 x1 x3 x4 H locs ls hS h hl
    refine lv_iload hx hb dX12_ghost_19 (lv_at hl 3 rfl) ?_
    refine lv_aload_n hx hb dX12_ghost_21 rfl (lv_at hl 0 rfl) ?_
    refine ez_cVpi (As := []) (rest := [.int x4]) h (fun _ q => c_X12_bittings q) hC k_X12_bittings ql_RX12_438 rfl (by decide) hS (fun _ q => ez_rcv q) rfl hl.1 rfl (Nat.le_of_ble_eq_true rfl) ⟨Nat.zero_le _, Nat.zero_le _⟩ dX12_ghost_22 (fun t_22 H locs hS h => ?_)
    refine lv_icmp_ge (tgt := 57) hx hb dX12_ghost_25 (by decide) (fun c_25 => ?_) (fun c_25 => ?_)
    · replace h := ez_ifp h c_25
      refine lv_iconst (v := -1) hx hb dX12_ghost_57 (by decide) ?_
      exact hret _ _ _ _ _ (Option.some.inj h) rfl hS dX12_ghost_58
    · replace h := ez_ifn h c_25
      refine lv_aload_n hx hb dX12_ghost_28 rfl (lv_at hl 0 rfl) ?_
      refine lv_iload hx hb dX12_ghost_29 (lv_at hl 3 rfl) ?_
      refine lv_iload_n hx hb dX12_ghost_31 rfl (lv_at hl 1 rfl) ?_
      refine ez_cVpi (As := [.int x4, .int x1]) (rest := []) h (fun _ q => c_X12_isGhost q) hC k_X12_isGhost ql_RX12_510 rfl (by decide) hS (fun _ q => ez_rcv q) rfl hl.1 rfl (Nat.le_of_ble_eq_true rfl) ⟨Nat.zero_le _, Nat.zero_le _⟩ dX12_ghost_32 (fun t_32 H locs hS h => ?_)
      refine lv_if_ne (tgt := 41) hx hb dX12_ghost_35 (by decide) (fun c_35 => ?_) (fun c_35 => ?_)
      · replace h := ez_ifn h c_35
        refine lv_iload_n hx hb dX12_ghost_41 rfl (lv_at hl 2 rfl) ?_
        refine lv_if_ne (tgt := 48) hx hb dX12_ghost_42 (by decide) (fun c_42 => ?_) (fun c_42 => ?_)
        · replace h := ez_ifn h c_42
          obtain ⟨t_48, e_48, h⟩ := ez_let_sp h
          refine lv_iinc (v := t_48) (lv' := [(3, .int t_48), (0, .ref (B + h0)), (1, .int x1), (4, .int x4)]) hx hb dX12_ghost_48 hl (k := 2) rfl (by rw [e_48]; rfl) (by decide) rfl (fun ls hl => ?_)
          exact K_51 k_19 hk_19 h0 x1 t_48 x4 _ _ _ hS h (lv_sub hl [1, 2, 0, 3] rfl)
        · replace h := ez_ifp h c_42
          refine lv_iload hx hb dX12_ghost_45 (lv_at hl 3 rfl) ?_
          exact hret _ _ _ _ _ (Option.some.inj h) rfl hS dX12_ghost_47
      · replace h := ez_ifp h c_35
        refine lv_goto (tgt := 51) hx hb dX12_ghost_38 (by decide) ?_
        exact K_51 k_19 hk_19 h0 x1 x3 x4 _ _ _ hS h (lv_sub hl [0, 1, 2, 3] rfl)
  have E_19 : ∀ (h0 : Nat) (x1 : Int32) (x3 : Int32) (x4 : Int32) (H : Heap) (locs : List Loc) (ls : Array Slot), ez_S X B s.heap (n0) σ H locs → (ez_fix (fun _ _ _ _ => none) (z_X12_ghost_19 σ) ez_N) h0 x1 x3 x4 = some z → lv_has ls 5 [(0, .ref (B + h0)), (1, .int x1), (3, .int x3), (4, .int x4)] → W p l e R s m args below meth c H locs 0 0 Q (F0 m 19 ls []) := ez_fix_ind (fun k_19 : Nat → Int32 → Int32 → Int32 → Option (Int32) => ∀ (h0 : Nat) (x1 : Int32) (x3 : Int32) (x4 : Int32) (H : Heap) (locs : List Loc) (ls : Array Slot), ez_S X B s.heap (n0) σ H locs → k_19 h0 x1 x3 x4 = some z → lv_has ls 5 [(0, .ref (B + h0)), (1, .int x1), (3, .int x3), (4, .int x4)] → W p l e R s m args below meth c H locs 0 0 Q (F0 m 19 ls [])) (fun _ _ _ _ _ _ _ _ h _ => by cases h) (fun k_19 hk_19 => K_19 k_19 hk_19) ez_N
  refine lv_aload_n hx hb dX12_ghost_0 rfl (lv_at hl 0 rfl) ?_
  refine lv_iload_n hx hb dX12_ghost_1 rfl (lv_at hl 1 rfl) ?_
  refine ez_cVpi (As := [.int x1]) (rest := []) h (fun _ q => c_X12_isLock q) hC k_X12_isLock ql_RX12_477 rfl (by decide) hS (fun _ q => ez_rcv q) rfl hl.1 rfl (Nat.le_of_ble_eq_true rfl) ⟨Nat.zero_le _, Nat.zero_le _⟩ dX12_ghost_2 (fun t_2 H locs hS h => ?_)
  refine lv_if_eq (tgt := 12) hx hb dX12_ghost_5 (by decide) (fun c_5 => ?_) (fun c_5 => ?_)
  · replace h := ez_ifp h c_5
    exact K_12   _ _ _ hS h (lv_sub hl [] rfl)
  · replace h := ez_ifn h c_5
    refine lv_iload_n hx hb dX12_ghost_8 rfl (lv_at hl 2 rfl) ?_
    refine lv_if_ge (tgt := 14) hx hb dX12_ghost_9 (by decide) (fun c_9 => ?_) (fun c_9 => ?_)
    · replace h := ez_ifp h c_9
      refine lv_iload_n hx hb dX12_ghost_14 rfl (lv_at hl 2 rfl) ?_
      refine lv_istore_n (lv' := [(3, .int x2), (0, .ref (B + h0)), (1, .int x1), (2, .int x2)]) hx hb dX12_ghost_15 rfl hl (by decide) rfl (fun ls hl => ?_)
      refine lv_iconst (v := 0) hx hb dX12_ghost_16 (by decide) ?_
      refine lv_istore (lv' := [(4, .int 0), (3, .int x2), (0, .ref (B + h0)), (1, .int x1), (2, .int x2)]) hx hb dX12_ghost_17 hl (by decide) rfl (fun ls hl => ?_)
      exact E_19  h0 x1 x2 (0 : Int32) _ _ _ hS h (lv_sub hl [2, 3, 1, 0] rfl)
    · replace h := ez_ifn h c_9
      exact K_12   _ _ _ hS h (lv_sub hl [] rfl)
set_option maxHeartbeats 4000000 in
set_option maxRecDepth 100000 in
theorem c_X12_ghostsOf {l : Launch} {X : ez_X} {B : Nat} {σ : ez_H} {h0 : Nat} {x1 : Int32} {z : Int32} (h : z_X12_ghostsOf σ h0 x1 = some z) : ez_M l X B σ yX12_ghostsOf cX12_ghostsOf 4 (some .int) 4 [.ref (B + h0), .int x1] (some (.int z)) σ := by
  refine ez_startip (z := z) (by decide) (Nat.le_of_ble_eq_true rfl) (fun p e R s m args below meth c Q hC hret hS ls hl => ?_)
  have hC : ez_C p R s m args c X B RX12 cX12_ghostsOf 4 4 := hC
  have hx := hC.1.1
  have hb := hC.1.2.1
  have hown := hC.1.2.2.2.1
  have hts := hC.1.2.2.2.2
  have hl : lv_has ls 4 [(0, .ref (B + h0)), (1, .int x1)] := hl
  obtain ⟨n0, e0⟩ : ∃ n0 : Nat, n0 = σ.length := ⟨_, rfl⟩
  rw [← e0] at hret hS
  obtain ⟨-, h⟩ := ez_in h
  have K_24 : ∀ (k_4 : Nat → Int32 → Int32 → Int32 → Option (Int32)) (hk_4 : ∀ (h0 : Nat) (x1 : Int32) (x2 : Int32) (x3 : Int32) (H : Heap) (locs : List Loc) (ls : Array Slot), ez_S X B s.heap (n0) σ H locs → k_4 h0 x1 x2 x3 = some z → lv_has ls 4 [(0, .ref (B + h0)), (1, .int x1), (2, .int x2), (3, .int x3)] → W p l e R s m args below meth c H locs 0 0 Q (F0 m 4 ls [])), ∀ (h0 : Nat) (x1 : Int32) (x2 : Int32) (x3 : Int32) (H : Heap) (locs : List Loc) (ls : Array Slot), ez_S X B s.heap (n0) σ H locs → z_X12_ghostsOf_24 σ k_4 h0 x1 x2 x3 = some z → lv_has ls 4 [(0, .ref (B + h0)), (1, .int x1), (2, .int x2), (3, .int x3)] → W p l e R s m args below meth c H locs 0 0 Q (F0 m 24 ls []) := by
    intro k_4 hk_4 h0 x1 x2 x3 H locs ls hS h hl
    obtain ⟨t_24, e_24, h⟩ := ez_let_sp h
    refine lv_iinc (v := t_24) (lv' := [(3, .int t_24), (0, .ref (B + h0)), (1, .int x1), (2, .int x2)]) hx hb dX12_ghostsOf_24 hl (k := 3) rfl (by rw [e_24]; rfl) (by decide) rfl (fun ls hl => ?_)
    refine lv_goto (tgt := 4) hx hb dX12_ghostsOf_27 (by decide) ?_
    exact hk_4 h0 x1 x2 t_24 _ _ _ hS h (lv_sub hl [1, 2, 3, 0] rfl)
  have K_4 : ∀ (k_4 : Nat → Int32 → Int32 → Int32 → Option (Int32)) (hk_4 : ∀ (h0 : Nat) (x1 : Int32) (x2 : Int32) (x3 : Int32) (H : Heap) (locs : List Loc) (ls : Array Slot), ez_S X B s.heap (n0) σ H locs → k_4 h0 x1 x2 x3 = some z → lv_has ls 4 [(0, .ref (B + h0)), (1, .int x1), (2, .int x2), (3, .int x3)] → W p l e R s m args below meth c H locs 0 0 Q (F0 m 4 ls [])), ∀ (h0 : Nat) (x1 : Int32) (x2 : Int32) (x3 : Int32) (H : Heap) (locs : List Loc) (ls : Array Slot), ez_S X B s.heap (n0) σ H locs → z_X12_ghostsOf_4 σ k_4 h0 x1 x2 x3 = some z → lv_has ls 4 [(0, .ref (B + h0)), (1, .int x1), (2, .int x2), (3, .int x3)] → W p l e R s m args below meth c H locs 0 0 Q (F0 m 4 ls []) := by
    intro k_4 hk_4 h0 x1 x2 x3 H locs ls hS h hl
    refine lv_iload_n hx hb dX12_ghostsOf_4 rfl (lv_at hl 3 rfl) ?_
    refine lv_aload_n hx hb dX12_ghostsOf_5 rfl (lv_at hl 0 rfl) ?_
    refine ez_cVpi (As := []) (rest := [.int x3]) h (fun _ q => c_X12_bittings q) hC k_X12_bittings ql_RX12_438 rfl (by decide) hS (fun _ q => ez_rcv q) rfl hl.1 rfl (Nat.le_of_ble_eq_true rfl) ⟨Nat.zero_le _, Nat.zero_le _⟩ dX12_ghostsOf_6 (fun t_6 H locs hS h => ?_)
    refine lv_icmp_ge (tgt := 30) hx hb dX12_ghostsOf_9 (by decide) (fun c_9 => ?_) (fun c_9 => ?_)
    · replace h := ez_ifp h c_9
      refine lv_iload_n hx hb dX12_ghostsOf_30 rfl (lv_at hl 2 rfl) ?_
      exact hret _ _ _ _ _ (Option.some.inj h) rfl hS dX12_ghostsOf_31
    · replace h := ez_ifn h c_9
      refine lv_aload_n hx hb dX12_ghostsOf_12 rfl (lv_at hl 0 rfl) ?_
      refine lv_iload_n hx hb dX12_ghostsOf_13 rfl (lv_at hl 3 rfl) ?_
      refine lv_iload_n hx hb dX12_ghostsOf_14 rfl (lv_at hl 1 rfl) ?_
      refine ez_cVpi (As := [.int x3, .int x1]) (rest := []) h (fun _ q => c_X12_isGhost q) hC k_X12_isGhost ql_RX12_510 rfl (by decide) hS (fun _ q => ez_rcv q) rfl hl.1 rfl (Nat.le_of_ble_eq_true rfl) ⟨Nat.zero_le _, Nat.zero_le _⟩ dX12_ghostsOf_15 (fun t_15 H locs hS h => ?_)
      refine lv_if_eq (tgt := 24) hx hb dX12_ghostsOf_18 (by decide) (fun c_18 => ?_) (fun c_18 => ?_)
      · replace h := ez_ifp h c_18
        exact K_24 k_4 hk_4 h0 x1 x2 x3 _ _ _ hS h (lv_sub hl [0, 1, 2, 3] rfl)
      · replace h := ez_ifn h c_18
        obtain ⟨t_21, e_21, h⟩ := ez_let_sp h
        refine lv_iinc (v := t_21) (lv' := [(2, .int t_21), (0, .ref (B + h0)), (1, .int x1), (3, .int x3)]) hx hb dX12_ghostsOf_21 hl (k := 2) rfl (by rw [e_21]; rfl) (by decide) rfl (fun ls hl => ?_)
        exact K_24 k_4 hk_4 h0 x1 t_21 x3 _ _ _ hS h (lv_sub hl [1, 2, 0, 3] rfl)
  have E_4 : ∀ (h0 : Nat) (x1 : Int32) (x2 : Int32) (x3 : Int32) (H : Heap) (locs : List Loc) (ls : Array Slot), ez_S X B s.heap (n0) σ H locs → (ez_fix (fun _ _ _ _ => none) (z_X12_ghostsOf_4 σ) ez_N) h0 x1 x2 x3 = some z → lv_has ls 4 [(0, .ref (B + h0)), (1, .int x1), (2, .int x2), (3, .int x3)] → W p l e R s m args below meth c H locs 0 0 Q (F0 m 4 ls []) := ez_fix_ind (fun k_4 : Nat → Int32 → Int32 → Int32 → Option (Int32) => ∀ (h0 : Nat) (x1 : Int32) (x2 : Int32) (x3 : Int32) (H : Heap) (locs : List Loc) (ls : Array Slot), ez_S X B s.heap (n0) σ H locs → k_4 h0 x1 x2 x3 = some z → lv_has ls 4 [(0, .ref (B + h0)), (1, .int x1), (2, .int x2), (3, .int x3)] → W p l e R s m args below meth c H locs 0 0 Q (F0 m 4 ls [])) (fun _ _ _ _ _ _ _ _ h _ => by cases h) (fun k_4 hk_4 => K_4 k_4 hk_4) ez_N
  refine lv_iconst (v := 0) hx hb dX12_ghostsOf_0 (by decide) ?_
  refine lv_istore_n (lv' := [(2, .int 0), (0, .ref (B + h0)), (1, .int x1)]) hx hb dX12_ghostsOf_1 rfl hl (by decide) rfl (fun ls hl => ?_)
  refine lv_iconst (v := 0) hx hb dX12_ghostsOf_2 (by decide) ?_
  refine lv_istore_n (lv' := [(3, .int 0), (2, .int 0), (0, .ref (B + h0)), (1, .int x1)]) hx hb dX12_ghostsOf_3 rfl hl (by decide) rfl (fun ls hl => ?_)
  exact E_4  h0 x1 (0 : Int32) (0 : Int32) _ _ _ hS h (lv_sub hl [2, 3, 1, 0] rfl)
set_option maxHeartbeats 4000000 in
set_option maxRecDepth 100000 in
theorem c_X12_ghosts {l : Launch} {X : ez_X} {B : Nat} {σ : ez_H} {h0 : Nat} {x1 : Int32} {z : Int32} (h : z_X12_ghosts σ h0 x1 = some z) : ez_M l X B σ yX12_ghosts cX12_ghosts 2 (some .int) 5 [.ref (B + h0), .int x1] (some (.int z)) σ := by
  refine ez_startip (z := z) (by decide) (Nat.le_of_ble_eq_true rfl) (fun p e R s m args below meth c Q hC hret hS ls hl => ?_)
  have hC : ez_C p R s m args c X B RX12 cX12_ghosts 2 5 := hC
  have hx := hC.1.1
  have hb := hC.1.2.1
  have hown := hC.1.2.2.2.1
  have hts := hC.1.2.2.2.2
  have hl : lv_has ls 2 [(0, .ref (B + h0)), (1, .int x1)] := hl
  obtain ⟨n0, e0⟩ : ∃ n0 : Nat, n0 = σ.length := ⟨_, rfl⟩
  rw [← e0] at hret hS
  obtain ⟨-, h⟩ := ez_in h
  have K_17 : ∀ (y0 : Int32) (H : Heap) (locs : List Loc) (ls : Array Slot), ez_S X B s.heap (n0) σ H locs → z_X12_ghosts_17 σ y0 = some z → lv_has ls 2 [] → W p l e R s m args below meth c H locs 0 0 Q (F0 m 17 ls [.int y0]) := by
    intro y0 H locs ls hS h hl
    exact hret _ _ _ _ _ (Option.some.inj h) rfl hS dX12_ghosts_17
  refine lv_aload_n hx hb dX12_ghosts_0 rfl (lv_at hl 0 rfl) ?_
  refine lv_iload_n hx hb dX12_ghosts_1 rfl (lv_at hl 1 rfl) ?_
  refine ez_cVpi (As := [.int x1]) (rest := []) h (fun _ q => c_X12_isLock q) hC k_X12_isLock ql_RX12_477 rfl (by decide) hS (fun _ q => ez_rcv q) rfl hl.1 rfl (Nat.le_of_ble_eq_true rfl) ⟨Nat.zero_le _, Nat.zero_le _⟩ dX12_ghosts_2 (fun t_2 H locs hS h => ?_)
  refine lv_if_eq (tgt := 16) hx hb dX12_ghosts_5 (by decide) (fun c_5 => ?_) (fun c_5 => ?_)
  · replace h := ez_ifp h c_5
    refine lv_iconst (v := -1) hx hb dX12_ghosts_16 (by decide) ?_
    exact K_17  (-1 : Int32) _ _ _ hS h (lv_sub hl [] rfl)
  · replace h := ez_ifn h c_5
    refine lv_aload_n hx hb dX12_ghosts_8 rfl (lv_at hl 0 rfl) ?_
    refine lv_iload_n hx hb dX12_ghosts_9 rfl (lv_at hl 1 rfl) ?_
    refine ez_cVpi (As := [.int x1]) (rest := []) h (fun _ q => c_X12_ghostsOf q) hC k_X12_ghostsOf ql_RX12_513 rfl (by decide) hS (fun _ q => ez_rcv q) rfl hl.1 rfl (Nat.le_of_ble_eq_true rfl) ⟨Nat.zero_le _, Nat.zero_le _⟩ dX12_ghosts_10 (fun t_10 H locs hS h => ?_)
    refine lv_goto (tgt := 17) hx hb dX12_ghosts_13 (by decide) ?_
    exact K_17  t_10 _ _ _ hS h (lv_sub hl [] rfl)
set_option maxHeartbeats 4000000 in
set_option maxRecDepth 100000 in
theorem c_X12_give {l : Launch} {X : ez_X} {B : Nat} {σ : ez_H} {h0 : Nat} {x1 : Int32} {x2 : Int32} {z : Int32 × ez_H} (h : z_X12_give σ h0 x1 x2 = some z) : ez_M l X B σ yX12_give cX12_give 3 (some .int) 2 [.ref (B + h0), .int x1, .int x2] (some (.int z.1)) z.2 := by
  refine ez_starti (z := z) (by decide) (Nat.le_of_ble_eq_true rfl) (fun p e R s m args below meth c Q hC hret hS ls hl => ?_)
  have hC : ez_C p R s m args c X B RX12 cX12_give 3 2 := hC
  have hx := hC.1.1
  have hb := hC.1.2.1
  have hown := hC.1.2.2.2.1
  have hts := hC.1.2.2.2.2
  have hl : lv_has ls 3 [(0, .ref (B + h0)), (1, .int x1), (2, .int x2)] := hl
  obtain ⟨σ0, eσ⟩ : ∃ σ0 : ez_H, σ0 = σ := ⟨_, rfl⟩
  rw [← eσ] at hret
  have hS : ez_S X B s.heap σ0.length σ s.heap [] := eσ ▸ hS
  obtain ⟨-, h⟩ := ez_in h
  have K_35 : ∀ (σ : ez_H) (H : Heap) (locs : List Loc) (ls : Array Slot), ez_S X B s.heap (σ0.length) σ H locs → z_X12_give_35 σ = some z → lv_has ls 3 [] → W p l e R s m args below meth c H locs 0 0 Q (F0 m 35 ls []) := by
    intro σ H locs ls hS h hl
    refine lv_bipush (v := -3) hx hb dX12_give_35 (by decide) ?_
    exact hret _ _ _ _ _ _ (Option.some.inj h) rfl hS dX12_give_37
  have K_74 : ∀ (σ : ez_H) (h0 : Nat) (x1 : Int32) (x2 : Int32) (H : Heap) (locs : List Loc) (ls : Array Slot), ez_S X B s.heap (σ0.length) σ H locs → z_X12_give_74 σ h0 x1 x2 = some z → lv_has ls 3 [(0, .ref (B + h0)), (1, .int x1), (2, .int x2)] → W p l e R s m args below meth c H locs 0 0 Q (F0 m 74 ls []) := by
    intro σ h0 x1 x2 H locs ls hS h hl
    refine lv_aload_n hx hb dX12_give_74 rfl (lv_at hl 0 rfl) ?_
    refine lv_iload_n hx hb dX12_give_75 rfl (lv_at hl 1 rfl) ?_
    refine lv_iload_n hx hb dX12_give_76 rfl (lv_at hl 2 rfl) ?_
    refine ez_cVi (As := [.int x1, .int x2]) (rest := []) h (fun _ q => c_X12_hand q) hC k_X12_hand ql_RX12_603 rfl (by decide) hS (fun _ q => ez_rcv q) rfl hl.1 rfl (Nat.le_of_ble_eq_true rfl) ⟨Nat.zero_le _, Nat.zero_le _⟩ dX12_give_77 (fun t_77 σ H locs hS h => ?_)
    exact hret _ _ _ _ _ _ (Option.some.inj h) rfl hS dX12_give_80
  refine lv_aload_n hx hb dX12_give_0 rfl (lv_at hl 0 rfl) ?_
  refine lv_iload_n hx hb dX12_give_1 rfl (lv_at hl 1 rfl) ?_
  refine ez_cVpi (As := [.int x1]) (rest := []) h (fun _ q => c_X12_isKey q) hC k_X12_isKey ql_RX12_462 rfl (by decide) hS (fun _ q => ez_rcv q) rfl hl.1 rfl (Nat.le_of_ble_eq_true rfl) ⟨Nat.zero_le _, Nat.zero_le _⟩ dX12_give_2 (fun t_2 H locs hS h => ?_)
  refine lv_if_eq (tgt := 35) hx hb dX12_give_5 (by decide) (fun c_5 => ?_) (fun c_5 => ?_)
  · replace h := ez_ifp h c_5
    exact K_35  σ _ _ _ hS h (lv_sub hl [] rfl)
  · replace h := ez_ifn h c_5
    refine lv_aload_n hx hb dX12_give_8 rfl (lv_at hl 0 rfl) ?_
    refine lv_iload_n hx hb dX12_give_9 rfl (lv_at hl 2 rfl) ?_
    refine ez_cVpi (As := [.int x2]) (rest := []) h (fun _ q => c_X12_isPerson q) hC k_X12_isPerson ql_RX12_495 rfl (by decide) hS (fun _ q => ez_rcv q) rfl hl.1 rfl (Nat.le_of_ble_eq_true rfl) ⟨Nat.zero_le _, Nat.zero_le _⟩ dX12_give_10 (fun t_10 H locs hS h => ?_)
    refine lv_if_eq (tgt := 35) hx hb dX12_give_13 (by decide) (fun c_13 => ?_) (fun c_13 => ?_)
    · replace h := ez_ifp h c_13
      exact K_35  σ _ _ _ hS h (lv_sub hl [] rfl)
    · replace h := ez_ifn h c_13
      refine lv_aload_n hx hb dX12_give_16 rfl (lv_at hl 0 rfl) ?_
      refine lv_iload_n hx hb dX12_give_17 rfl (lv_at hl 1 rfl) ?_
      refine ez_cVpi (As := [.int x1]) (rest := []) h (fun _ q => c_X12_holderOf q) hC k_X12_holderOf ql_RX12_465 rfl (by decide) hS (fun _ q => ez_rcv q) rfl hl.1 rfl (Nat.le_of_ble_eq_true rfl) ⟨Nat.zero_le _, Nat.zero_le _⟩ dX12_give_18 (fun t_18 H locs hS h => ?_)
      refine lv_iload_n hx hb dX12_give_21 rfl (lv_at hl 2 rfl) ?_
      refine lv_icmp_eq (tgt := 35) hx hb dX12_give_22 (by decide) (fun c_22 => ?_) (fun c_22 => ?_)
      · replace h := ez_ifp h c_22
        exact K_35  σ _ _ _ hS h (lv_sub hl [] rfl)
      · replace h := ez_ifn h c_22
        refine lv_aload_n hx hb dX12_give_25 rfl (lv_at hl 0 rfl) ?_
        refine lv_iload_n hx hb dX12_give_26 rfl (lv_at hl 1 rfl) ?_
        refine ez_cVpi (As := [.int x1]) (rest := []) h (fun _ q => c_X12_holderOf q) hC k_X12_holderOf ql_RX12_465 rfl (by decide) hS (fun _ q => ez_rcv q) rfl hl.1 rfl (Nat.le_of_ble_eq_true rfl) ⟨Nat.zero_le _, Nat.zero_le _⟩ dX12_give_27 (fun t_27 H locs hS h => ?_)
        refine lv_bipush (v := -2) hx hb dX12_give_30 (by decide) ?_
        refine lv_icmp_ne (tgt := 38) hx hb dX12_give_32 (by decide) (fun c_32 => ?_) (fun c_32 => ?_)
        · replace h := ez_ifn h c_32
          refine lv_aload_n hx hb dX12_give_38 rfl (lv_at hl 0 rfl) ?_
          refine lv_iload_n hx hb dX12_give_39 rfl (lv_at hl 1 rfl) ?_
          refine ez_cVpi (As := [.int x1]) (rest := []) h (fun _ q => c_X12_holderOf q) hC k_X12_holderOf ql_RX12_465 rfl (by decide) hS (fun _ q => ez_rcv q) rfl hl.1 rfl (Nat.le_of_ble_eq_true rfl) ⟨Nat.zero_le _, Nat.zero_le _⟩ dX12_give_40 (fun t_40 H locs hS h => ?_)
          refine lv_if_lt (tgt := 74) hx hb dX12_give_43 (by decide) (fun c_43 => ?_) (fun c_43 => ?_)
          · replace h := ez_ifp h c_43
            exact K_74  σ h0 x1 x2 _ _ _ hS h (lv_sub hl [0, 1, 2] rfl)
          · replace h := ez_ifn h c_43
            refine lv_aload_n hx hb dX12_give_46 rfl (lv_at hl 0 rfl) ?_
            refine eg_RX12_118 hC hS h dX12_give_47 (fun t_47 h => ?_)
            refine lv_bipush (v := 86) hx hb dX12_give_50 (by decide) ?_
            refine lv_aload_n hx hb dX12_give_52 rfl (lv_at hl 0 rfl) ?_
            refine lv_iload_n hx hb dX12_give_53 rfl (lv_at hl 1 rfl) ?_
            refine ez_cVpi (As := [.int x1]) (rest := [.int 86, .ref (B + t_47)]) h (fun _ q => c_X12_holderOf q) hC k_X12_holderOf ql_RX12_465 rfl (by decide) hS (fun _ q => ez_rcv q) rfl hl.1 rfl (Nat.le_of_ble_eq_true rfl) ⟨Nat.zero_le _, Nat.zero_le _⟩ dX12_give_54 (fun t_54 H locs hS h => ?_)
            refine lv_iadd hx hb dX12_give_57 ?_
            refine ez_top h (fun t_57 h => ?_)
            refine ez_ial hC hS h dX12_give_58 (fun t_58 h => ?_)
            refine lv_aload_n hx hb dX12_give_59 rfl (lv_at hl 0 rfl) ?_
            refine eg_RX12_118 hC hS h dX12_give_60 (fun t_60 h => ?_)
            refine lv_bipush (v := 86) hx hb dX12_give_63 (by decide) ?_
            refine lv_iload_n hx hb dX12_give_65 rfl (lv_at hl 2 rfl) ?_
            refine lv_iadd hx hb dX12_give_66 ?_
            refine ez_top h (fun t_66 h => ?_)
            refine ez_ial hC hS h dX12_give_67 (fun t_67 h => ?_)
            refine lv_icmp_eq (tgt := 74) hx hb dX12_give_68 (by decide) (fun c_68 => ?_) (fun c_68 => ?_)
            · replace h := ez_ifp h c_68
              exact K_74  σ h0 x1 x2 _ _ _ hS h (lv_sub hl [0, 1, 2] rfl)
            · replace h := ez_ifn h c_68
              refine lv_bipush (v := -3) hx hb dX12_give_71 (by decide) ?_
              exact hret _ _ _ _ _ _ (Option.some.inj h) rfl hS dX12_give_73
        · replace h := ez_ifp h c_32
          exact K_35  σ _ _ _ hS h (lv_sub hl [] rfl)
set_option maxHeartbeats 4000000 in
set_option maxRecDepth 100000 in
theorem c_X12_hang {l : Launch} {X : ez_X} {B : Nat} {σ : ez_H} {h0 : Nat} {x1 : Int32} {z : Int32 × ez_H} (h : z_X12_hang σ h0 x1 = some z) : ez_M l X B σ yX12_hang cX12_hang 2 (some .int) 2 [.ref (B + h0), .int x1] (some (.int z.1)) z.2 := by
  refine ez_starti (z := z) (by decide) (Nat.le_of_ble_eq_true rfl) (fun p e R s m args below meth c Q hC hret hS ls hl => ?_)
  have hC : ez_C p R s m args c X B RX12 cX12_hang 2 2 := hC
  have hx := hC.1.1
  have hb := hC.1.2.1
  have hown := hC.1.2.2.2.1
  have hts := hC.1.2.2.2.2
  have hl : lv_has ls 2 [(0, .ref (B + h0)), (1, .int x1)] := hl
  obtain ⟨σ0, eσ⟩ : ∃ σ0 : ez_H, σ0 = σ := ⟨_, rfl⟩
  rw [← eσ] at hret
  have hS : ez_S X B s.heap σ0.length σ s.heap [] := eσ ▸ hS
  obtain ⟨-, h⟩ := ez_in h
  have K_27 : ∀ (σ : ez_H) (y0 : Int32) (H : Heap) (locs : List Loc) (ls : Array Slot), ez_S X B s.heap (σ0.length) σ H locs → z_X12_hang_27 σ y0 = some z → lv_has ls 2 [] → W p l e R s m args below meth c H locs 0 0 Q (F0 m 27 ls [.int y0]) := by
    intro σ y0 H locs ls hS h hl
    exact hret _ _ _ _ _ _ (Option.some.inj h) rfl hS dX12_hang_27
  have K_25 : ∀ (σ : ez_H) (H : Heap) (locs : List Loc) (ls : Array Slot), ez_S X B s.heap (σ0.length) σ H locs → z_X12_hang_25 σ = some z → lv_has ls 2 [] → W p l e R s m args below meth c H locs 0 0 Q (F0 m 25 ls []) := by
    intro σ H locs ls hS h hl
    refine lv_bipush (v := -3) hx hb dX12_hang_25 (by decide) ?_
    exact K_27  σ (-3 : Int32) _ _ _ hS h (lv_sub hl [] rfl)
  refine lv_aload_n hx hb dX12_hang_0 rfl (lv_at hl 0 rfl) ?_
  refine lv_iload_n hx hb dX12_hang_1 rfl (lv_at hl 1 rfl) ?_
  refine ez_cVpi (As := [.int x1]) (rest := []) h (fun _ q => c_X12_isKey q) hC k_X12_isKey ql_RX12_462 rfl (by decide) hS (fun _ q => ez_rcv q) rfl hl.1 rfl (Nat.le_of_ble_eq_true rfl) ⟨Nat.zero_le _, Nat.zero_le _⟩ dX12_hang_2 (fun t_2 H locs hS h => ?_)
  refine lv_if_eq (tgt := 25) hx hb dX12_hang_5 (by decide) (fun c_5 => ?_) (fun c_5 => ?_)
  · replace h := ez_ifp h c_5
    exact K_25  σ _ _ _ hS h (lv_sub hl [] rfl)
  · replace h := ez_ifn h c_5
    refine lv_aload_n hx hb dX12_hang_8 rfl (lv_at hl 0 rfl) ?_
    refine lv_iload_n hx hb dX12_hang_9 rfl (lv_at hl 1 rfl) ?_
    refine ez_cVpi (As := [.int x1]) (rest := []) h (fun _ q => c_X12_holderOf q) hC k_X12_holderOf ql_RX12_465 rfl (by decide) hS (fun _ q => ez_rcv q) rfl hl.1 rfl (Nat.le_of_ble_eq_true rfl) ⟨Nat.zero_le _, Nat.zero_le _⟩ dX12_hang_10 (fun t_10 H locs hS h => ?_)
    refine lv_if_lt (tgt := 25) hx hb dX12_hang_13 (by decide) (fun c_13 => ?_) (fun c_13 => ?_)
    · replace h := ez_ifp h c_13
      exact K_25  σ _ _ _ hS h (lv_sub hl [] rfl)
    · replace h := ez_ifn h c_13
      refine lv_aload_n hx hb dX12_hang_16 rfl (lv_at hl 0 rfl) ?_
      refine lv_iload_n hx hb dX12_hang_17 rfl (lv_at hl 1 rfl) ?_
      refine lv_iconst (v := -1) hx hb dX12_hang_18 (by decide) ?_
      refine ez_cVi (As := [.int x1, .int (-1)]) (rest := []) h (fun _ q => c_X12_hand q) hC k_X12_hand ql_RX12_603 rfl (by decide) hS (fun _ q => ez_rcv q) rfl hl.1 rfl (Nat.le_of_ble_eq_true rfl) ⟨Nat.zero_le _, Nat.zero_le _⟩ dX12_hang_19 (fun t_19 σ H locs hS h => ?_)
      refine lv_goto (tgt := 27) hx hb dX12_hang_22 (by decide) ?_
      exact K_27  σ t_19 _ _ _ hS h (lv_sub hl [] rfl)
set_option maxHeartbeats 4000000 in
set_option maxRecDepth 100000 in
theorem c_X12_haunted {l : Launch} {X : ez_X} {B : Nat} {σ : ez_H} {h0 : Nat} {z : Int32} (h : z_X12_haunted σ h0 = some z) : ez_M l X B σ yX12_haunted cX12_haunted 5 (some .int) 5 [.ref (B + h0)] (some (.int z)) σ := by
  refine ez_startip (z := z) (by decide) (Nat.le_of_ble_eq_true rfl) (fun p e R s m args below meth c Q hC hret hS ls hl => ?_)
  have hC : ez_C p R s m args c X B RX12 cX12_haunted 5 5 := hC
  have hx := hC.1.1
  have hb := hC.1.2.1
  have hown := hC.1.2.2.2.1
  have hts := hC.1.2.2.2.2
  have hl : lv_has ls 5 [(0, .ref (B + h0))] := hl
  obtain ⟨n0, e0⟩ : ∃ n0 : Nat, n0 = σ.length := ⟨_, rfl⟩
  rw [← e0] at hret hS
  obtain ⟨-, h⟩ := ez_in h
  have K_35 : ∀ (k_6 : Nat → Int32 → Int32 → Int32 → Option (Int32)) (hk_6 : ∀ (h0 : Nat) (x1 : Int32) (x2 : Int32) (x3 : Int32) (H : Heap) (locs : List Loc) (ls : Array Slot), ez_S X B s.heap (n0) σ H locs → k_6 h0 x1 x2 x3 = some z → lv_has ls 5 [(0, .ref (B + h0)), (1, .int x1), (2, .int x2), (3, .int x3)] → W p l e R s m args below meth c H locs 0 0 Q (F0 m 6 ls [])), ∀ (h0 : Nat) (x1 : Int32) (x2 : Int32) (x3 : Int32) (H : Heap) (locs : List Loc) (ls : Array Slot), ez_S X B s.heap (n0) σ H locs → z_X12_haunted_35 σ k_6 h0 x1 x2 x3 = some z → lv_has ls 5 [(0, .ref (B + h0)), (1, .int x1), (2, .int x2), (3, .int x3)] → W p l e R s m args below meth c H locs 0 0 Q (F0 m 35 ls []) := by
    intro k_6 hk_6 h0 x1 x2 x3 H locs ls hS h hl
    obtain ⟨t_35, e_35, h⟩ := ez_let_sp h
    refine lv_iinc (v := t_35) (lv' := [(3, .int t_35), (0, .ref (B + h0)), (1, .int x1), (2, .int x2)]) hx hb dX12_haunted_35 hl (k := 3) rfl (by rw [e_35]; rfl) (by decide) rfl (fun ls hl => ?_)
    refine lv_goto (tgt := 6) hx hb dX12_haunted_38 (by decide) ?_
    exact hk_6 h0 x1 x2 t_35 _ _ _ hS h (lv_sub hl [1, 2, 3, 0] rfl)
  have K_6 : ∀ (k_6 : Nat → Int32 → Int32 → Int32 → Option (Int32)) (hk_6 : ∀ (h0 : Nat) (x1 : Int32) (x2 : Int32) (x3 : Int32) (H : Heap) (locs : List Loc) (ls : Array Slot), ez_S X B s.heap (n0) σ H locs → k_6 h0 x1 x2 x3 = some z → lv_has ls 5 [(0, .ref (B + h0)), (1, .int x1), (2, .int x2), (3, .int x3)] → W p l e R s m args below meth c H locs 0 0 Q (F0 m 6 ls [])), ∀ (h0 : Nat) (x1 : Int32) (x2 : Int32) (x3 : Int32) (H : Heap) (locs : List Loc) (ls : Array Slot), ez_S X B s.heap (n0) σ H locs → z_X12_haunted_6 σ k_6 h0 x1 x2 x3 = some z → lv_has ls 5 [(0, .ref (B + h0)), (1, .int x1), (2, .int x2), (3, .int x3)] → W p l e R s m args below meth c H locs 0 0 Q (F0 m 6 ls []) := by
    intro k_6 hk_6 h0 x1 x2 x3 H locs ls hS h hl
    refine lv_iload_n hx hb dX12_haunted_6 rfl (lv_at hl 3 rfl) ?_
    refine lv_aload_n hx hb dX12_haunted_7 rfl (lv_at hl 0 rfl) ?_
    refine ez_cVpi (As := []) (rest := [.int x3]) h (fun _ q => c_X12_bolts q) hC k_X12_bolts ql_RX12_411 rfl (by decide) hS (fun _ q => ez_rcv q) rfl hl.1 rfl (Nat.le_of_ble_eq_true rfl) ⟨Nat.zero_le _, Nat.zero_le _⟩ dX12_haunted_8 (fun t_8 H locs hS h => ?_)
    refine lv_icmp_ge (tgt := 41) hx hb dX12_haunted_11 (by decide) (fun c_11 => ?_) (fun c_11 => ?_)
    · replace h := ez_ifp h c_11
      refine lv_iload_n hx hb dX12_haunted_41 rfl (lv_at hl 1 rfl) ?_
      exact hret _ _ _ _ _ (Option.some.inj h) rfl hS dX12_haunted_42
    · replace h := ez_ifn h c_11
      refine lv_aload_n hx hb dX12_haunted_14 rfl (lv_at hl 0 rfl) ?_
      refine lv_iload_n hx hb dX12_haunted_15 rfl (lv_at hl 3 rfl) ?_
      refine ez_cVpi (As := [.int x3]) (rest := []) h (fun _ q => c_X12_ghostsOf q) hC k_X12_ghostsOf ql_RX12_513 rfl (by decide) hS (fun _ q => ez_rcv q) rfl hl.1 rfl (Nat.le_of_ble_eq_true rfl) ⟨Nat.zero_le _, Nat.zero_le _⟩ dX12_haunted_16 (fun t_16 H locs hS h => ?_)
      refine lv_istore (lv' := [(4, .int t_16), (0, .ref (B + h0)), (1, .int x1), (2, .int x2), (3, .int x3)]) hx hb dX12_haunted_19 hl (by decide) rfl (fun ls hl => ?_)
      refine lv_iload hx hb dX12_haunted_21 (lv_at hl 0 rfl) ?_
      refine lv_iload_n hx hb dX12_haunted_23 rfl (lv_at hl 3 rfl) ?_
      refine lv_icmp_gt (tgt := 30) hx hb dX12_haunted_24 (by decide) (fun c_24 => ?_) (fun c_24 => ?_)
      · replace h := ez_ifp h c_24
        refine lv_iload_n hx hb dX12_haunted_30 rfl (lv_at hl 4 rfl) ?_
        refine lv_istore_n (lv' := [(1, .int x3), (4, .int t_16), (0, .ref (B + h0)), (2, .int x2), (3, .int x3)]) hx hb dX12_haunted_31 rfl hl (by decide) rfl (fun ls hl => ?_)
        refine lv_iload hx hb dX12_haunted_32 (lv_at hl 1 rfl) ?_
        refine lv_istore_n (lv' := [(2, .int t_16), (1, .int x3), (4, .int t_16), (0, .ref (B + h0)), (3, .int x3)]) hx hb dX12_haunted_34 rfl hl (by decide) rfl (fun ls hl => ?_)
        exact K_35 k_6 hk_6 h0 x3 t_16 x3 _ _ _ hS h (lv_sub hl [3, 1, 0, 4] rfl)
      · replace h := ez_ifn h c_24
        refine lv_goto (tgt := 35) hx hb dX12_haunted_27 (by decide) ?_
        exact K_35 k_6 hk_6 h0 x1 x2 x3 _ _ _ hS h (lv_sub hl [1, 2, 3, 4] rfl)
  have E_6 : ∀ (h0 : Nat) (x1 : Int32) (x2 : Int32) (x3 : Int32) (H : Heap) (locs : List Loc) (ls : Array Slot), ez_S X B s.heap (n0) σ H locs → (ez_fix (fun _ _ _ _ => none) (z_X12_haunted_6 σ) ez_N) h0 x1 x2 x3 = some z → lv_has ls 5 [(0, .ref (B + h0)), (1, .int x1), (2, .int x2), (3, .int x3)] → W p l e R s m args below meth c H locs 0 0 Q (F0 m 6 ls []) := ez_fix_ind (fun k_6 : Nat → Int32 → Int32 → Int32 → Option (Int32) => ∀ (h0 : Nat) (x1 : Int32) (x2 : Int32) (x3 : Int32) (H : Heap) (locs : List Loc) (ls : Array Slot), ez_S X B s.heap (n0) σ H locs → k_6 h0 x1 x2 x3 = some z → lv_has ls 5 [(0, .ref (B + h0)), (1, .int x1), (2, .int x2), (3, .int x3)] → W p l e R s m args below meth c H locs 0 0 Q (F0 m 6 ls [])) (fun _ _ _ _ _ _ _ _ h _ => by cases h) (fun k_6 hk_6 => K_6 k_6 hk_6) ez_N
  refine lv_iconst (v := -1) hx hb dX12_haunted_0 (by decide) ?_
  refine lv_istore_n (lv' := [(1, .int (-1)), (0, .ref (B + h0))]) hx hb dX12_haunted_1 rfl hl (by decide) rfl (fun ls hl => ?_)
  refine lv_iconst (v := -1) hx hb dX12_haunted_2 (by decide) ?_
  refine lv_istore_n (lv' := [(2, .int (-1)), (1, .int (-1)), (0, .ref (B + h0))]) hx hb dX12_haunted_3 rfl hl (by decide) rfl (fun ls hl => ?_)
  refine lv_iconst (v := 0) hx hb dX12_haunted_4 (by decide) ?_
  refine lv_istore_n (lv' := [(3, .int 0), (2, .int (-1)), (1, .int (-1)), (0, .ref (B + h0))]) hx hb dX12_haunted_5 rfl hl (by decide) rfl (fun ls hl => ?_)
  exact E_6  h0 (-1 : Int32) (-1 : Int32) (0 : Int32) _ _ _ hS h (lv_sub hl [3, 2, 1, 0] rfl)
set_option maxHeartbeats 4000000 in
set_option maxRecDepth 100000 in
theorem c_X12_idle {l : Launch} {X : ez_X} {B : Nat} {σ : ez_H} {h0 : Nat} {x1 : Int32} {z : Int32} (h : z_X12_idle σ h0 x1 = some z) : ez_M l X B σ yX12_idle cX12_idle 2 (some .int) 2 [.ref (B + h0), .int x1] (some (.int z)) σ := by
  refine ez_startip (z := z) (by decide) (Nat.le_of_ble_eq_true rfl) (fun p e R s m args below meth c Q hC hret hS ls hl => ?_)
  have hC : ez_C p R s m args c X B RX12 cX12_idle 2 2 := hC
  have hx := hC.1.1
  have hb := hC.1.2.1
  have hown := hC.1.2.2.2.1
  have hts := hC.1.2.2.2.2
  have hl : lv_has ls 2 [(0, .ref (B + h0)), (1, .int x1)] := hl
  obtain ⟨n0, e0⟩ : ∃ n0 : Nat, n0 = σ.length := ⟨_, rfl⟩
  rw [← e0] at hret hS
  obtain ⟨-, h⟩ := ez_in h
  have K_27 : ∀ (y0 : Int32) (H : Heap) (locs : List Loc) (ls : Array Slot), ez_S X B s.heap (n0) σ H locs → z_X12_idle_27 σ y0 = some z → lv_has ls 2 [] → W p l e R s m args below meth c H locs 0 0 Q (F0 m 27 ls [.int y0]) := by
    intro y0 H locs ls hS h hl
    exact hret _ _ _ _ _ (Option.some.inj h) rfl hS dX12_idle_27
  refine lv_iload_n hx hb dX12_idle_0 rfl (lv_at hl 1 rfl) ?_
  refine lv_if_ne (tgt := 12) hx hb dX12_idle_1 (by decide) (fun c_1 => ?_) (fun c_1 => ?_)
  · replace h := ez_ifn h c_1
    refine lv_iload_n hx hb dX12_idle_12 rfl (lv_at hl 1 rfl) ?_
    refine lv_iconst (v := 1) hx hb dX12_idle_13 (by decide) ?_
    refine lv_icmp_ne (tgt := 26) hx hb dX12_idle_14 (by decide) (fun c_14 => ?_) (fun c_14 => ?_)
    · replace h := ez_ifn h c_14
      refine lv_iconst (v := -1) hx hb dX12_idle_26 (by decide) ?_
      exact K_27  (-1 : Int32) _ _ _ hS h (lv_sub hl [] rfl)
    · replace h := ez_ifp h c_14
      refine lv_aload_n hx hb dX12_idle_17 rfl (lv_at hl 0 rfl) ?_
      refine lv_bipush (v := -2) hx hb dX12_idle_18 (by decide) ?_
      refine ez_cVpi (As := [.int (-2)]) (rest := []) h (fun _ q => c_X12_keysBy q) hC k_X12_keysBy ql_RX12_538 rfl (by decide) hS (fun _ q => ez_rcv q) rfl hl.1 rfl (Nat.le_of_ble_eq_true rfl) ⟨Nat.zero_le _, Nat.zero_le _⟩ dX12_idle_20 (fun t_20 H locs hS h => ?_)
      refine lv_goto (tgt := 27) hx hb dX12_idle_23 (by decide) ?_
      exact K_27  t_20 _ _ _ hS h (lv_sub hl [] rfl)
  · replace h := ez_ifp h c_1
    refine lv_aload_n hx hb dX12_idle_4 rfl (lv_at hl 0 rfl) ?_
    refine lv_iconst (v := -1) hx hb dX12_idle_5 (by decide) ?_
    refine ez_cVpi (As := [.int (-1)]) (rest := []) h (fun _ q => c_X12_keysBy q) hC k_X12_keysBy ql_RX12_538 rfl (by decide) hS (fun _ q => ez_rcv q) rfl hl.1 rfl (Nat.le_of_ble_eq_true rfl) ⟨Nat.zero_le _, Nat.zero_le _⟩ dX12_idle_6 (fun t_6 H locs hS h => ?_)
    refine lv_goto (tgt := 27) hx hb dX12_idle_9 (by decide) ?_
    exact K_27  t_6 _ _ _ hS h (lv_sub hl [] rfl)
set_option maxHeartbeats 4000000 in
set_option maxRecDepth 100000 in
theorem c_X12_image {l : Launch} {X : ez_X} {B : Nat} {σ : ez_H} {h0 : Nat} {x1 : Int32} {z : Int32 × ez_H} (h : z_X12_image σ h0 x1 = some z) : ez_M l X B σ yX12_image cX12_image 3 (some .int) 2 [.ref (B + h0), .int x1] (some (.int z.1)) z.2 := by
  refine ez_starti (z := z) (by decide) (Nat.le_of_ble_eq_true rfl) (fun p e R s m args below meth c Q hC hret hS ls hl => ?_)
  have hC : ez_C p R s m args c X B RX12 cX12_image 3 2 := hC
  have hx := hC.1.1
  have hb := hC.1.2.1
  have hown := hC.1.2.2.2.1
  have hts := hC.1.2.2.2.2
  have hl : lv_has ls 3 [(0, .ref (B + h0)), (1, .int x1)] := hl
  obtain ⟨σ0, eσ⟩ : ∃ σ0 : ez_H, σ0 = σ := ⟨_, rfl⟩
  rw [← eσ] at hret
  have hS : ez_S X B s.heap σ0.length σ s.heap [] := eσ ▸ hS
  obtain ⟨-, h⟩ := ez_in h
  have K_13 : ∀ (k_13 : ez_H → Nat → Int32 → Int32 → Option (Int32 × ez_H)) (hk_13 : ∀ (σ : ez_H) (h0 : Nat) (x1 : Int32) (x2 : Int32) (H : Heap) (locs : List Loc) (ls : Array Slot), ez_S X B s.heap (σ0.length) σ H locs → k_13 σ h0 x1 x2 = some z → lv_has ls 3 [(0, .ref (B + h0)), (1, .int x1), (2, .int x2)] → W p l e R s m args below meth c H locs 0 0 Q (F0 m 13 ls [])), ∀ (σ : ez_H) (h0 : Nat) (x1 : Int32) (x2 : Int32) (H : Heap) (locs : List Loc) (ls : Array Slot), ez_S X B s.heap (σ0.length) σ H locs → z_X12_image_13 k_13 σ h0 x1 x2 = some z → lv_has ls 3 [(0, .ref (B + h0)), (1, .int x1), (2, .int x2)] → W p l e R s m args below meth c H locs 0 0 Q (F0 m 13 ls []) := by
    intro k_13 hk_13 σ h0 x1 x2 H locs ls hS h hl
    refine lv_iload_n hx hb dX12_image_13 rfl (lv_at hl 2 rfl) ?_
    refine lv_bipush (v := 91) hx hb dX12_image_14 (by decide) ?_
    refine lv_icmp_ge (tgt := 42) hx hb dX12_image_16 (by decide) (fun c_16 => ?_) (fun c_16 => ?_)
    · replace h := ez_ifp h c_16
      refine lv_aload_n hx hb dX12_image_42 rfl (lv_at hl 0 rfl) ?_
      refine eg_RX12_151 hC hS h dX12_image_43 (fun t_43 h => ?_)
      refine lv_iload_n hx hb dX12_image_46 rfl (lv_at hl 1 rfl) ?_
      refine lv_iconst (v := 1) hx hb dX12_image_47 (by decide) ?_
      refine ez_zas hC hS h dX12_image_48 (fun σ H locs hS h => ?_)
      refine lv_aload_n hx hb dX12_image_49 rfl (lv_at hl 0 rfl) ?_
      refine lv_bipush (v := -2) hx hb dX12_image_50 (by decide) ?_
      refine ez_cVpi (As := [.int (-2)]) (rest := []) h (fun _ q => c_X12_keysBy q) hC k_X12_keysBy ql_RX12_538 rfl (by decide) hS (fun _ q => ez_rcv q) rfl hl.1 rfl (Nat.le_of_ble_eq_true rfl) ⟨Nat.zero_le _, Nat.zero_le _⟩ dX12_image_52 (fun t_52 H locs hS h => ?_)
      refine ez_cSpi (As := [.int t_52]) (rest := []) h (fun _ q => c_X12_bitsOf q) hC k_X12_bitsOf ql_RX12_471 rfl (by decide) hS hl.1 rfl (Nat.le_of_ble_eq_true rfl) ⟨Nat.zero_le _, Nat.zero_le _⟩ dX12_image_55 (fun t_55 H locs hS h => ?_)
      exact hret _ _ _ _ _ _ (Option.some.inj h) rfl hS dX12_image_58
    · replace h := ez_ifn h c_16
      refine lv_aload_n hx hb dX12_image_19 rfl (lv_at hl 0 rfl) ?_
      refine eg_RX12_148 hC hS h dX12_image_20 (fun t_20 h => ?_)
      refine lv_bipush (v := 91) hx hb dX12_image_23 (by decide) ?_
      refine lv_iload_n hx hb dX12_image_25 rfl (lv_at hl 1 rfl) ?_
      refine lv_imul hx hb dX12_image_26 ?_
      refine ez_top h (fun t_26 h => ?_)
      refine lv_iload_n hx hb dX12_image_27 rfl (lv_at hl 2 rfl) ?_
      refine lv_iadd hx hb dX12_image_28 ?_
      refine ez_top h (fun t_28 h => ?_)
      refine lv_aload_n hx hb dX12_image_29 rfl (lv_at hl 0 rfl) ?_
      refine eg_RX12_118 hC hS h dX12_image_30 (fun t_30 h => ?_)
      refine lv_iload_n hx hb dX12_image_33 rfl (lv_at hl 2 rfl) ?_
      refine ez_ial hC hS h dX12_image_34 (fun t_34 h => ?_)
      refine ez_ias hC hS h dX12_image_35 (fun σ H locs hS h => ?_)
      obtain ⟨t_36, e_36, h⟩ := ez_let_sp h
      refine lv_iinc (v := t_36) (lv' := [(2, .int t_36), (0, .ref (B + h0)), (1, .int x1)]) hx hb dX12_image_36 hl (k := 2) rfl (by rw [e_36]; rfl) (by decide) rfl (fun ls hl => ?_)
      refine lv_goto (tgt := 13) hx hb dX12_image_39 (by decide) ?_
      exact hk_13 σ h0 x1 t_36 _ _ _ hS h (lv_sub hl [1, 2, 0] rfl)
  have E_13 : ∀ (σ : ez_H) (h0 : Nat) (x1 : Int32) (x2 : Int32) (H : Heap) (locs : List Loc) (ls : Array Slot), ez_S X B s.heap (σ0.length) σ H locs → (ez_fix (fun _ _ _ _ => none) (z_X12_image_13) ez_N) σ h0 x1 x2 = some z → lv_has ls 3 [(0, .ref (B + h0)), (1, .int x1), (2, .int x2)] → W p l e R s m args below meth c H locs 0 0 Q (F0 m 13 ls []) := ez_fix_ind (fun k_13 : ez_H → Nat → Int32 → Int32 → Option (Int32 × ez_H) => ∀ (σ : ez_H) (h0 : Nat) (x1 : Int32) (x2 : Int32) (H : Heap) (locs : List Loc) (ls : Array Slot), ez_S X B s.heap (σ0.length) σ H locs → k_13 σ h0 x1 x2 = some z → lv_has ls 3 [(0, .ref (B + h0)), (1, .int x1), (2, .int x2)] → W p l e R s m args below meth c H locs 0 0 Q (F0 m 13 ls [])) (fun _ _ _ _ _ _ _ _ h _ => by cases h) (fun k_13 hk_13 => K_13 k_13 hk_13) ez_N
  refine lv_iload_n hx hb dX12_image_0 rfl (lv_at hl 1 rfl) ?_
  refine lv_iconst (v := 0) hx hb dX12_image_1 (by decide) ?_
  refine lv_iconst (v := 2) hx hb dX12_image_2 (by decide) ?_
  refine ez_cSpi (As := [.int x1, .int 0, .int 2]) (rest := []) h (fun _ q => c_X12_isIn q) hC k_X12_isIn ql_RX12_407 rfl (by decide) hS hl.1 rfl (Nat.le_of_ble_eq_true rfl) ⟨Nat.zero_le _, Nat.zero_le _⟩ dX12_image_3 (fun t_3 H locs hS h => ?_)
  refine lv_if_ne (tgt := 11) hx hb dX12_image_6 (by decide) (fun c_6 => ?_) (fun c_6 => ?_)
  · replace h := ez_ifn h c_6
    refine lv_iconst (v := 0) hx hb dX12_image_11 (by decide) ?_
    refine lv_istore_n (lv' := [(2, .int 0), (0, .ref (B + h0)), (1, .int x1)]) hx hb dX12_image_12 rfl hl (by decide) rfl (fun ls hl => ?_)
    exact E_13  σ h0 x1 (0 : Int32) _ _ _ hS h (lv_sub hl [1, 2, 0] rfl)
  · replace h := ez_ifp h c_6
    refine lv_iconst (v := -1) hx hb dX12_image_9 (by decide) ?_
    exact hret _ _ _ _ _ _ (Option.some.inj h) rfl hS dX12_image_10
set_option maxHeartbeats 4000000 in
set_option maxRecDepth 100000 in
theorem c_X12_keepNow {l : Launch} {X : ez_X} {B : Nat} {σ : ez_H} {h0 : Nat} {z : Unit × ez_H} (h : z_X12_keepNow σ h0 = some z) : ez_M l X B σ yX12_keepNow cX12_keepNow 2 (none) 0 [.ref (B + h0)] (none) z.2 := by
  refine ez_startv (z := z) (by decide) (Nat.le_of_ble_eq_true rfl) (fun p e R s m args below meth c Q hC hret hS ls hl => ?_)
  have hC : ez_C p R s m args c X B RX12 cX12_keepNow 2 0 := hC
  have hx := hC.1.1
  have hb := hC.1.2.1
  have hown := hC.1.2.2.2.1
  have hts := hC.1.2.2.2.2
  have hl : lv_has ls 2 [(0, .ref (B + h0))] := hl
  obtain ⟨σ0, eσ⟩ : ∃ σ0 : ez_H, σ0 = σ := ⟨_, rfl⟩
  rw [← eσ] at hret
  have hS : ez_S X B s.heap σ0.length σ s.heap [] := eσ ▸ hS
  obtain ⟨-, h⟩ := ez_in h
  have K_2 : ∀ (k_2 : ez_H → Nat → Int32 → Option (Unit × ez_H)) (hk_2 : ∀ (σ : ez_H) (h0 : Nat) (x1 : Int32) (H : Heap) (locs : List Loc) (ls : Array Slot), ez_S X B s.heap (σ0.length) σ H locs → k_2 σ h0 x1 = some z → lv_has ls 2 [(0, .ref (B + h0)), (1, .int x1)] → W p l e R s m args below meth c H locs 0 0 Q (F0 m 2 ls [])), ∀ (σ : ez_H) (h0 : Nat) (x1 : Int32) (H : Heap) (locs : List Loc) (ls : Array Slot), ez_S X B s.heap (σ0.length) σ H locs → z_X12_keepNow_2 k_2 σ h0 x1 = some z → lv_has ls 2 [(0, .ref (B + h0)), (1, .int x1)] → W p l e R s m args below meth c H locs 0 0 Q (F0 m 2 ls []) := by
    intro k_2 hk_2 σ h0 x1 H locs ls hS h hl
    refine lv_iload_n hx hb dX12_keepNow_2 rfl (lv_at hl 1 rfl) ?_
    refine lv_bipush (v := 91) hx hb dX12_keepNow_3 (by decide) ?_
    refine lv_icmp_ge (tgt := 26) hx hb dX12_keepNow_5 (by decide) (fun c_5 => ?_) (fun c_5 => ?_)
    · replace h := ez_ifp h c_5
      exact hret _ _ _ _ _ _ (Option.some.inj h) hS dX12_keepNow_26
    · replace h := ez_ifn h c_5
      refine lv_aload_n hx hb dX12_keepNow_8 rfl (lv_at hl 0 rfl) ?_
      refine eg_RX12_121 hC hS h dX12_keepNow_9 (fun t_9 h => ?_)
      refine lv_iload_n hx hb dX12_keepNow_12 rfl (lv_at hl 1 rfl) ?_
      refine lv_aload_n hx hb dX12_keepNow_13 rfl (lv_at hl 0 rfl) ?_
      refine eg_RX12_118 hC hS h dX12_keepNow_14 (fun t_14 h => ?_)
      refine lv_iload_n hx hb dX12_keepNow_17 rfl (lv_at hl 1 rfl) ?_
      refine ez_ial hC hS h dX12_keepNow_18 (fun t_18 h => ?_)
      refine ez_ias hC hS h dX12_keepNow_19 (fun σ H locs hS h => ?_)
      obtain ⟨t_20, e_20, h⟩ := ez_let_sp h
      refine lv_iinc (v := t_20) (lv' := [(1, .int t_20), (0, .ref (B + h0))]) hx hb dX12_keepNow_20 hl (k := 1) rfl (by rw [e_20]; rfl) (by decide) rfl (fun ls hl => ?_)
      refine lv_goto (tgt := 2) hx hb dX12_keepNow_23 (by decide) ?_
      exact hk_2 σ h0 t_20 _ _ _ hS h (lv_sub hl [1, 0] rfl)
  have E_2 : ∀ (σ : ez_H) (h0 : Nat) (x1 : Int32) (H : Heap) (locs : List Loc) (ls : Array Slot), ez_S X B s.heap (σ0.length) σ H locs → (ez_fix (fun _ _ _ => none) (z_X12_keepNow_2) ez_N) σ h0 x1 = some z → lv_has ls 2 [(0, .ref (B + h0)), (1, .int x1)] → W p l e R s m args below meth c H locs 0 0 Q (F0 m 2 ls []) := ez_fix_ind (fun k_2 : ez_H → Nat → Int32 → Option (Unit × ez_H) => ∀ (σ : ez_H) (h0 : Nat) (x1 : Int32) (H : Heap) (locs : List Loc) (ls : Array Slot), ez_S X B s.heap (σ0.length) σ H locs → k_2 σ h0 x1 = some z → lv_has ls 2 [(0, .ref (B + h0)), (1, .int x1)] → W p l e R s m args below meth c H locs 0 0 Q (F0 m 2 ls [])) (fun _ _ _ _ _ _ _ h _ => by cases h) (fun k_2 hk_2 => K_2 k_2 hk_2) ez_N
  refine lv_iconst (v := 0) hx hb dX12_keepNow_0 (by decide) ?_
  refine lv_istore_n (lv' := [(1, .int 0), (0, .ref (B + h0))]) hx hb dX12_keepNow_1 rfl hl (by decide) rfl (fun ls hl => ?_)
  exact E_2  σ h0 (0 : Int32) _ _ _ hS h (lv_sub hl [1, 0] rfl)
set_option maxHeartbeats 4000000 in
set_option maxRecDepth 100000 in
theorem c_X12_cutAnew {l : Launch} {X : ez_X} {B : Nat} {σ : ez_H} {h0 : Nat} {x1 : Int32} {x2 : Int32} {z : Unit × ez_H} (h : z_X12_cutAnew σ h0 x1 x2 = some z) : ez_M l X B σ yX12_cutAnew cX12_cutAnew 4 (none) 2 [.ref (B + h0), .int x1, .int x2] (none) z.2 := by
  refine ez_startv (z := z) (by decide) (Nat.le_of_ble_eq_true rfl) (fun p e R s m args below meth c Q hC hret hS ls hl => ?_)
  have hC : ez_C p R s m args c X B RX12 cX12_cutAnew 4 2 := hC
  have hx := hC.1.1
  have hb := hC.1.2.1
  have hown := hC.1.2.2.2.1
  have hts := hC.1.2.2.2.2
  have hl : lv_has ls 4 [(0, .ref (B + h0)), (1, .int x1), (2, .int x2)] := hl
  obtain ⟨σ0, eσ⟩ : ∃ σ0 : ez_H, σ0 = σ := ⟨_, rfl⟩
  rw [← eσ] at hret
  have hS : ez_S X B s.heap σ0.length σ s.heap [] := eσ ▸ hS
  obtain ⟨-, h⟩ := ez_in h
  have K_2 : ∀ (k_2 : ez_H → Nat → Int32 → Int32 → Int32 → Option (Unit × ez_H)) (hk_2 : ∀ (σ : ez_H) (h0 : Nat) (x1 : Int32) (x2 : Int32) (x3 : Int32) (H : Heap) (locs : List Loc) (ls : Array Slot), ez_S X B s.heap (σ0.length) σ H locs → k_2 σ h0 x1 x2 x3 = some z → lv_has ls 4 [(0, .ref (B + h0)), (1, .int x1), (2, .int x2), (3, .int x3)] → W p l e R s m args below meth c H locs 0 0 Q (F0 m 2 ls [])), ∀ (σ : ez_H) (h0 : Nat) (x1 : Int32) (x2 : Int32) (x3 : Int32) (H : Heap) (locs : List Loc) (ls : Array Slot), ez_S X B s.heap (σ0.length) σ H locs → z_X12_cutAnew_2 k_2 σ h0 x1 x2 x3 = some z → lv_has ls 4 [(0, .ref (B + h0)), (1, .int x1), (2, .int x2), (3, .int x3)] → W p l e R s m args below meth c H locs 0 0 Q (F0 m 2 ls []) := by
    intro k_2 hk_2 σ h0 x1 x2 x3 H locs ls hS h hl
    refine lv_iload_n hx hb dX12_cutAnew_2 rfl (lv_at hl 3 rfl) ?_
    refine lv_aload_n hx hb dX12_cutAnew_3 rfl (lv_at hl 0 rfl) ?_
    refine ez_cVpi (As := []) (rest := [.int x3]) h (fun _ q => c_X12_wide q) hC k_X12_wide ql_RX12_414 rfl (by decide) hS (fun _ q => ez_rcv q) rfl hl.1 rfl (Nat.le_of_ble_eq_true rfl) ⟨Nat.zero_le _, Nat.zero_le _⟩ dX12_cutAnew_4 (fun t_4 H locs hS h => ?_)
    refine lv_icmp_ge (tgt := 34) hx hb dX12_cutAnew_7 (by decide) (fun c_7 => ?_) (fun c_7 => ?_)
    · replace h := ez_ifp h c_7
      exact hret _ _ _ _ _ _ (Option.some.inj h) hS dX12_cutAnew_34
    · replace h := ez_ifn h c_7
      refine lv_aload_n hx hb dX12_cutAnew_10 rfl (lv_at hl 0 rfl) ?_
      refine eg_RX12_118 hC hS h dX12_cutAnew_11 (fun t_11 h => ?_)
      refine lv_iconst (v := 0) hx hb dX12_cutAnew_14 (by decide) ?_
      refine lv_iconst (v := 5) hx hb dX12_cutAnew_15 (by decide) ?_
      refine lv_iload_n hx hb dX12_cutAnew_16 rfl (lv_at hl 1 rfl) ?_
      refine lv_imul hx hb dX12_cutAnew_17 ?_
      refine ez_top h (fun t_17 h => ?_)
      refine lv_iadd hx hb dX12_cutAnew_18 ?_
      refine ez_top h (fun t_18 h => ?_)
      refine lv_iload_n hx hb dX12_cutAnew_19 rfl (lv_at hl 3 rfl) ?_
      refine lv_iadd hx hb dX12_cutAnew_20 ?_
      refine ez_top h (fun t_20 h => ?_)
      refine lv_aload_n hx hb dX12_cutAnew_21 rfl (lv_at hl 0 rfl) ?_
      refine lv_iload_n hx hb dX12_cutAnew_22 rfl (lv_at hl 2 rfl) ?_
      refine lv_iload_n hx hb dX12_cutAnew_23 rfl (lv_at hl 3 rfl) ?_
      refine ez_cVpi (As := [.int x2, .int x3]) (rest := [.int t_20, .ref (B + t_11)]) h (fun _ q => c_X12_cutIn q) hC k_X12_cutIn ql_RX12_525 rfl (by decide) hS (fun _ q => ez_rcv q) rfl hl.1 rfl (Nat.le_of_ble_eq_true rfl) ⟨Nat.zero_le _, Nat.zero_le _⟩ dX12_cutAnew_24 (fun t_24 H locs hS h => ?_)
      refine ez_ias hC hS h dX12_cutAnew_27 (fun σ H locs hS h => ?_)
      obtain ⟨t_28, e_28, h⟩ := ez_let_sp h
      refine lv_iinc (v := t_28) (lv' := [(3, .int t_28), (0, .ref (B + h0)), (1, .int x1), (2, .int x2)]) hx hb dX12_cutAnew_28 hl (k := 3) rfl (by rw [e_28]; rfl) (by decide) rfl (fun ls hl => ?_)
      refine lv_goto (tgt := 2) hx hb dX12_cutAnew_31 (by decide) ?_
      exact hk_2 σ h0 x1 x2 t_28 _ _ _ hS h (lv_sub hl [1, 2, 3, 0] rfl)
  have E_2 : ∀ (σ : ez_H) (h0 : Nat) (x1 : Int32) (x2 : Int32) (x3 : Int32) (H : Heap) (locs : List Loc) (ls : Array Slot), ez_S X B s.heap (σ0.length) σ H locs → (ez_fix (fun _ _ _ _ _ => none) (z_X12_cutAnew_2) ez_N) σ h0 x1 x2 x3 = some z → lv_has ls 4 [(0, .ref (B + h0)), (1, .int x1), (2, .int x2), (3, .int x3)] → W p l e R s m args below meth c H locs 0 0 Q (F0 m 2 ls []) := ez_fix_ind (fun k_2 : ez_H → Nat → Int32 → Int32 → Int32 → Option (Unit × ez_H) => ∀ (σ : ez_H) (h0 : Nat) (x1 : Int32) (x2 : Int32) (x3 : Int32) (H : Heap) (locs : List Loc) (ls : Array Slot), ez_S X B s.heap (σ0.length) σ H locs → k_2 σ h0 x1 x2 x3 = some z → lv_has ls 4 [(0, .ref (B + h0)), (1, .int x1), (2, .int x2), (3, .int x3)] → W p l e R s m args below meth c H locs 0 0 Q (F0 m 2 ls [])) (fun _ _ _ _ _ _ _ _ _ h _ => by cases h) (fun k_2 hk_2 => K_2 k_2 hk_2) ez_N
  refine lv_iconst (v := 0) hx hb dX12_cutAnew_0 (by decide) ?_
  refine lv_istore_n (lv' := [(3, .int 0), (0, .ref (B + h0)), (1, .int x1), (2, .int x2)]) hx hb dX12_cutAnew_1 rfl hl (by decide) rfl (fun ls hl => ?_)
  exact E_2  σ h0 x1 x2 (0 : Int32) _ _ _ hS h (lv_sub hl [1, 2, 3, 0] rfl)
set_option maxHeartbeats 4000000 in
set_option maxRecDepth 100000 in
theorem c_X12_pinFor {l : Launch} {X : ez_X} {B : Nat} {σ : ez_H} {h0 : Nat} {x1 : Int32} {x2 : Int32} {z : Unit × ez_H} (h : z_X12_pinFor σ h0 x1 x2 = some z) : ez_M l X B σ yX12_pinFor cX12_pinFor 6 (none) 1 [.ref (B + h0), .int x1, .int x2] (none) z.2 := by
  refine ez_startv (z := z) (by decide) (Nat.le_of_ble_eq_true rfl) (fun p e R s m args below meth c Q hC hret hS ls hl => ?_)
  have hC : ez_C p R s m args c X B RX12 cX12_pinFor 6 1 := hC
  have hx := hC.1.1
  have hb := hC.1.2.1
  have hown := hC.1.2.2.2.1
  have hts := hC.1.2.2.2.2
  have hl : lv_has ls 6 [(0, .ref (B + h0)), (1, .int x1), (2, .int x2)] := hl
  obtain ⟨σ0, eσ⟩ : ∃ σ0 : ez_H, σ0 = σ := ⟨_, rfl⟩
  rw [← eσ] at hret
  have hS : ez_S X B s.heap σ0.length σ s.heap [] := eσ ▸ hS
  obtain ⟨-, h⟩ := ez_in h
  have K_48 : ∀ (k_2 : ez_H → Nat → Int32 → Int32 → Int32 → Option (Unit × ez_H)) (hk_2 : ∀ (σ : ez_H) (h0 : Nat) (x1 : Int32) (x2 : Int32) (x3 : Int32) (H : Heap) (locs : List Loc) (ls : Array Slot), ez_S X B s.heap (σ0.length) σ H locs → k_2 σ h0 x1 x2 x3 = some z → lv_has ls 6 [(0, .ref (B + h0)), (1, .int x1), (2, .int x2), (3, .int x3)] → W p l e R s m args below meth c H locs 0 0 Q (F0 m 2 ls [])) (k_16 : ez_H → Nat → Int32 → Int32 → Int32 → Int32 → Int32 → Option (Unit × ez_H)) (hk_16 : ∀ (σ : ez_H) (h0 : Nat) (x1 : Int32) (x2 : Int32) (x3 : Int32) (x4 : Int32) (x5 : Int32) (H : Heap) (locs : List Loc) (ls : Array Slot), ez_S X B s.heap (σ0.length) σ H locs → k_16 σ h0 x1 x2 x3 x4 x5 = some z → lv_has ls 6 [(0, .ref (B + h0)), (1, .int x1), (2, .int x2), (3, .int x3), (4, .int x4), (5, .int x5)] → W p l e R s m args below meth c H locs 0 0 Q (F0 m 16 ls [])), ∀ (σ : ez_H) (h0 : Nat) (x1 : Int32) (x2 : Int32) (x3 : Int32) (x4 : Int32) (x5 : Int32) (H : Heap) (locs : List Loc) (ls : Array Slot), ez_S X B s.heap (σ0.length) σ H locs → z_X12_pinFor_48 k_2 k_16 σ h0 x1 x2 x3 x4 x5 = some z → lv_has ls 6 [(0, .ref (B + h0)), (1, .int x1), (2, .int x2), (3, .int x3), (4, .int x4), (5, .int x5)] → W p l e R s m args below meth c H locs 0 0 Q (F0 m 48 ls []) := by
    intro k_2 hk_2 k_16 hk_16 σ h0 x1 x2 x3 x4 x5 H locs ls hS h hl
    obtain ⟨t_48, e_48, h⟩ := ez_let_sp h
    refine lv_iinc (v := t_48) (lv' := [(5, .int t_48), (0, .ref (B + h0)), (1, .int x1), (2, .int x2), (3, .int x3), (4, .int x4)]) hx hb dX12_pinFor_48 hl (k := 5) rfl (by rw [e_48]; rfl) (by decide) rfl (fun ls hl => ?_)
    refine lv_goto (tgt := 16) hx hb dX12_pinFor_51 (by decide) ?_
    exact hk_16 σ h0 x1 x2 x3 x4 t_48 _ _ _ hS h (lv_sub hl [1, 2, 3, 4, 5, 0] rfl)
  have K_16 : ∀ (k_2 : ez_H → Nat → Int32 → Int32 → Int32 → Option (Unit × ez_H)) (hk_2 : ∀ (σ : ez_H) (h0 : Nat) (x1 : Int32) (x2 : Int32) (x3 : Int32) (H : Heap) (locs : List Loc) (ls : Array Slot), ez_S X B s.heap (σ0.length) σ H locs → k_2 σ h0 x1 x2 x3 = some z → lv_has ls 6 [(0, .ref (B + h0)), (1, .int x1), (2, .int x2), (3, .int x3)] → W p l e R s m args below meth c H locs 0 0 Q (F0 m 2 ls [])) (k_16 : ez_H → Nat → Int32 → Int32 → Int32 → Int32 → Int32 → Option (Unit × ez_H)) (hk_16 : ∀ (σ : ez_H) (h0 : Nat) (x1 : Int32) (x2 : Int32) (x3 : Int32) (x4 : Int32) (x5 : Int32) (H : Heap) (locs : List Loc) (ls : Array Slot), ez_S X B s.heap (σ0.length) σ H locs → k_16 σ h0 x1 x2 x3 x4 x5 = some z → lv_has ls 6 [(0, .ref (B + h0)), (1, .int x1), (2, .int x2), (3, .int x3), (4, .int x4), (5, .int x5)] → W p l e R s m args below meth c H locs 0 0 Q (F0 m 16 ls [])), ∀ (σ : ez_H) (h0 : Nat) (x1 : Int32) (x2 : Int32) (x3 : Int32) (x4 : Int32) (x5 : Int32) (H : Heap) (locs : List Loc) (ls : Array Slot), ez_S X B s.heap (σ0.length) σ H locs → z_X12_pinFor_16 k_2 k_16 σ h0 x1 x2 x3 x4 x5 = some z → lv_has ls 6 [(0, .ref (B + h0)), (1, .int x1), (2, .int x2), (3, .int x3), (4, .int x4), (5, .int x5)] → W p l e R s m args below meth c H locs 0 0 Q (F0 m 16 ls []) := by
    intro k_2 hk_2 k_16 hk_16 σ h0 x1 x2 x3 x4 x5 H locs ls hS h hl
    refine lv_iload hx hb dX12_pinFor_16 (lv_at hl 5 rfl) ?_
    refine lv_aload_n hx hb dX12_pinFor_18 rfl (lv_at hl 0 rfl) ?_
    refine ez_cVpi (As := []) (rest := [.int x5]) h (fun _ q => c_X12_many q) hC k_X12_many ql_RX12_404 rfl (by decide) hS (fun _ q => ez_rcv q) rfl hl.1 rfl (Nat.le_of_ble_eq_true rfl) ⟨Nat.zero_le _, Nat.zero_le _⟩ dX12_pinFor_19 (fun t_19 H locs hS h => ?_)
    refine lv_icmp_ge (tgt := 54) hx hb dX12_pinFor_22 (by decide) (fun c_22 => ?_) (fun c_22 => ?_)
    · replace h := ez_ifp h c_22
      refine lv_aload_n hx hb dX12_pinFor_54 rfl (lv_at hl 0 rfl) ?_
      refine eg_RX12_118 hC hS h dX12_pinFor_55 (fun t_55 h => ?_)
      refine lv_bipush (v := 56) hx hb dX12_pinFor_58 (by decide) ?_
      refine lv_iconst (v := 5) hx hb dX12_pinFor_60 (by decide) ?_
      refine lv_iload_n hx hb dX12_pinFor_61 rfl (lv_at hl 1 rfl) ?_
      refine lv_imul hx hb dX12_pinFor_62 ?_
      refine ez_top h (fun t_62 h => ?_)
      refine lv_iadd hx hb dX12_pinFor_63 ?_
      refine ez_top h (fun t_63 h => ?_)
      refine lv_iload_n hx hb dX12_pinFor_64 rfl (lv_at hl 3 rfl) ?_
      refine lv_iadd hx hb dX12_pinFor_65 ?_
      refine ez_top h (fun t_65 h => ?_)
      refine lv_iload hx hb dX12_pinFor_66 (lv_at hl 4 rfl) ?_
      refine ez_ias hC hS h dX12_pinFor_68 (fun σ H locs hS h => ?_)
      obtain ⟨t_69, e_69, h⟩ := ez_let_sp h
      refine lv_iinc (v := t_69) (lv' := [(3, .int t_69), (0, .ref (B + h0)), (1, .int x1), (2, .int x2), (4, .int x4), (5, .int x5)]) hx hb dX12_pinFor_69 hl (k := 3) rfl (by rw [e_69]; rfl) (by decide) rfl (fun ls hl => ?_)
      refine lv_goto (tgt := 2) hx hb dX12_pinFor_72 (by decide) ?_
      exact hk_2 σ h0 x1 x2 t_69 _ _ _ hS h (lv_sub hl [1, 2, 3, 0] rfl)
    · replace h := ez_ifn h c_22
      refine lv_iload_n hx hb dX12_pinFor_25 rfl (lv_at hl 2 rfl) ?_
      refine lv_iload hx hb dX12_pinFor_26 (lv_at hl 5 rfl) ?_
      refine ez_cSpi (As := [.int x2, .int x5]) (rest := []) h (fun _ q => c_X12_bit q) hC k_X12_bit ql_RX12_261 rfl (by decide) hS hl.1 rfl (Nat.le_of_ble_eq_true rfl) ⟨Nat.zero_le _, Nat.zero_le _⟩ dX12_pinFor_28 (fun t_28 H locs hS h => ?_)
      refine lv_if_eq (tgt := 48) hx hb dX12_pinFor_31 (by decide) (fun c_31 => ?_) (fun c_31 => ?_)
      · replace h := ez_ifp h c_31
        exact K_48 k_2 hk_2 k_16 hk_16 σ h0 x1 x2 x3 x4 x5 _ _ _ hS h (lv_sub hl [0, 1, 2, 3, 4, 5] rfl)
      · replace h := ez_ifn h c_31
        refine lv_iload hx hb dX12_pinFor_34 (lv_at hl 4 rfl) ?_
        refine lv_iconst (v := 1) hx hb dX12_pinFor_36 (by decide) ?_
        refine lv_aload_n hx hb dX12_pinFor_37 rfl (lv_at hl 0 rfl) ?_
        refine lv_iload hx hb dX12_pinFor_38 (lv_at hl 5 rfl) ?_
        refine lv_iload_n hx hb dX12_pinFor_40 rfl (lv_at hl 3 rfl) ?_
        refine ez_cVpi (As := [.int x5, .int x3]) (rest := [.int 1, .int x4]) h (fun _ q => c_X12_cutOf q) hC k_X12_cutOf ql_RX12_444 rfl (by decide) hS (fun _ q => ez_rcv q) rfl hl.1 rfl (Nat.le_of_ble_eq_true rfl) ⟨Nat.zero_le _, Nat.zero_le _⟩ dX12_pinFor_41 (fun t_41 H locs hS h => ?_)
        refine lv_ishl hx hb dX12_pinFor_44 ?_
        refine ez_top h (fun t_44 h => ?_)
        refine lv_ior hx hb dX12_pinFor_45 ?_
        refine ez_top h (fun t_45 h => ?_)
        refine lv_istore (lv' := [(4, .int t_45), (0, .ref (B + h0)), (1, .int x1), (2, .int x2), (3, .int x3), (5, .int x5)]) hx hb dX12_pinFor_46 hl (by decide) rfl (fun ls hl => ?_)
        exact K_48 k_2 hk_2 k_16 hk_16 σ h0 x1 x2 x3 t_45 x5 _ _ _ hS h (lv_sub hl [1, 2, 3, 4, 0, 5] rfl)
  have E_16 : ∀ (k_2 : ez_H → Nat → Int32 → Int32 → Int32 → Option (Unit × ez_H)) (hk_2 : ∀ (σ : ez_H) (h0 : Nat) (x1 : Int32) (x2 : Int32) (x3 : Int32) (H : Heap) (locs : List Loc) (ls : Array Slot), ez_S X B s.heap (σ0.length) σ H locs → k_2 σ h0 x1 x2 x3 = some z → lv_has ls 6 [(0, .ref (B + h0)), (1, .int x1), (2, .int x2), (3, .int x3)] → W p l e R s m args below meth c H locs 0 0 Q (F0 m 2 ls [])), ∀ (σ : ez_H) (h0 : Nat) (x1 : Int32) (x2 : Int32) (x3 : Int32) (x4 : Int32) (x5 : Int32) (H : Heap) (locs : List Loc) (ls : Array Slot), ez_S X B s.heap (σ0.length) σ H locs → (ez_fix (fun _ _ _ _ _ _ _ => none) (z_X12_pinFor_16 k_2) ez_N) σ h0 x1 x2 x3 x4 x5 = some z → lv_has ls 6 [(0, .ref (B + h0)), (1, .int x1), (2, .int x2), (3, .int x3), (4, .int x4), (5, .int x5)] → W p l e R s m args below meth c H locs 0 0 Q (F0 m 16 ls []) := fun k_2 hk_2 => ez_fix_ind (fun k_16 : ez_H → Nat → Int32 → Int32 → Int32 → Int32 → Int32 → Option (Unit × ez_H) => ∀ (σ : ez_H) (h0 : Nat) (x1 : Int32) (x2 : Int32) (x3 : Int32) (x4 : Int32) (x5 : Int32) (H : Heap) (locs : List Loc) (ls : Array Slot), ez_S X B s.heap (σ0.length) σ H locs → k_16 σ h0 x1 x2 x3 x4 x5 = some z → lv_has ls 6 [(0, .ref (B + h0)), (1, .int x1), (2, .int x2), (3, .int x3), (4, .int x4), (5, .int x5)] → W p l e R s m args below meth c H locs 0 0 Q (F0 m 16 ls [])) (fun _ _ _ _ _ _ _ _ _ _ _ h _ => by cases h) (fun k_16 hk_16 => K_16 k_2 hk_2 k_16 hk_16) ez_N
  have K_2 : ∀ (k_2 : ez_H → Nat → Int32 → Int32 → Int32 → Option (Unit × ez_H)) (hk_2 : ∀ (σ : ez_H) (h0 : Nat) (x1 : Int32) (x2 : Int32) (x3 : Int32) (H : Heap) (locs : List Loc) (ls : Array Slot), ez_S X B s.heap (σ0.length) σ H locs → k_2 σ h0 x1 x2 x3 = some z → lv_has ls 6 [(0, .ref (B + h0)), (1, .int x1), (2, .int x2), (3, .int x3)] → W p l e R s m args below meth c H locs 0 0 Q (F0 m 2 ls [])), ∀ (σ : ez_H) (h0 : Nat) (x1 : Int32) (x2 : Int32) (x3 : Int32) (H : Heap) (locs : List Loc) (ls : Array Slot), ez_S X B s.heap (σ0.length) σ H locs → z_X12_pinFor_2 k_2 σ h0 x1 x2 x3 = some z → lv_has ls 6 [(0, .ref (B + h0)), (1, .int x1), (2, .int x2), (3, .int x3)] → W p l e R s m args below meth c H locs 0 0 Q (F0 m 2 ls []) := by
    intro k_2 hk_2 σ h0 x1 x2 x3 H locs ls hS h hl
    refine lv_iload_n hx hb dX12_pinFor_2 rfl (lv_at hl 3 rfl) ?_
    refine lv_aload_n hx hb dX12_pinFor_3 rfl (lv_at hl 0 rfl) ?_
    refine ez_cVpi (As := []) (rest := [.int x3]) h (fun _ q => c_X12_wide q) hC k_X12_wide ql_RX12_414 rfl (by decide) hS (fun _ q => ez_rcv q) rfl hl.1 rfl (Nat.le_of_ble_eq_true rfl) ⟨Nat.zero_le _, Nat.zero_le _⟩ dX12_pinFor_4 (fun t_4 H locs hS h => ?_)
    refine lv_icmp_ge (tgt := 75) hx hb dX12_pinFor_7 (by decide) (fun c_7 => ?_) (fun c_7 => ?_)
    · replace h := ez_ifp h c_7
      exact hret _ _ _ _ _ _ (Option.some.inj h) hS dX12_pinFor_75
    · replace h := ez_ifn h c_7
      refine lv_iconst (v := 0) hx hb dX12_pinFor_10 (by decide) ?_
      refine lv_istore (lv' := [(4, .int 0), (0, .ref (B + h0)), (1, .int x1), (2, .int x2), (3, .int x3)]) hx hb dX12_pinFor_11 hl (by decide) rfl (fun ls hl => ?_)
      refine lv_iconst (v := 0) hx hb dX12_pinFor_13 (by decide) ?_
      refine lv_istore (lv' := [(5, .int 0), (4, .int 0), (0, .ref (B + h0)), (1, .int x1), (2, .int x2), (3, .int x3)]) hx hb dX12_pinFor_14 hl (by decide) rfl (fun ls hl => ?_)
      exact E_16 k_2 hk_2 σ h0 x1 x2 x3 (0 : Int32) (0 : Int32) _ _ _ hS h (lv_sub hl [2, 3, 4, 5, 1, 0] rfl)
  have E_2 : ∀ (σ : ez_H) (h0 : Nat) (x1 : Int32) (x2 : Int32) (x3 : Int32) (H : Heap) (locs : List Loc) (ls : Array Slot), ez_S X B s.heap (σ0.length) σ H locs → (ez_fix (fun _ _ _ _ _ => none) (z_X12_pinFor_2) ez_N) σ h0 x1 x2 x3 = some z → lv_has ls 6 [(0, .ref (B + h0)), (1, .int x1), (2, .int x2), (3, .int x3)] → W p l e R s m args below meth c H locs 0 0 Q (F0 m 2 ls []) := ez_fix_ind (fun k_2 : ez_H → Nat → Int32 → Int32 → Int32 → Option (Unit × ez_H) => ∀ (σ : ez_H) (h0 : Nat) (x1 : Int32) (x2 : Int32) (x3 : Int32) (H : Heap) (locs : List Loc) (ls : Array Slot), ez_S X B s.heap (σ0.length) σ H locs → k_2 σ h0 x1 x2 x3 = some z → lv_has ls 6 [(0, .ref (B + h0)), (1, .int x1), (2, .int x2), (3, .int x3)] → W p l e R s m args below meth c H locs 0 0 Q (F0 m 2 ls [])) (fun _ _ _ _ _ _ _ _ _ h _ => by cases h) (fun k_2 hk_2 => K_2 k_2 hk_2) ez_N
  refine lv_iconst (v := 0) hx hb dX12_pinFor_0 (by decide) ?_
  refine lv_istore_n (lv' := [(3, .int 0), (0, .ref (B + h0)), (1, .int x1), (2, .int x2)]) hx hb dX12_pinFor_1 rfl hl (by decide) rfl (fun ls hl => ?_)
  exact E_2  σ h0 x1 x2 (0 : Int32) _ _ _ hS h (lv_sub hl [1, 2, 3, 0] rfl)
set_option maxHeartbeats 4000000 in
set_option maxRecDepth 100000 in
theorem c_X12_pinByPlan {l : Launch} {X : ez_X} {B : Nat} {σ : ez_H} {h0 : Nat} {z : Unit × ez_H} (h : z_X12_pinByPlan σ h0 = some z) : ez_M l X B σ yX12_pinByPlan cX12_pinByPlan 2 (none) 2 [.ref (B + h0)] (none) z.2 := by
  refine ez_startv (z := z) (by decide) (Nat.le_of_ble_eq_true rfl) (fun p e R s m args below meth c Q hC hret hS ls hl => ?_)
  have hC : ez_C p R s m args c X B RX12 cX12_pinByPlan 2 2 := hC
  have hx := hC.1.1
  have hb := hC.1.2.1
  have hown := hC.1.2.2.2.1
  have hts := hC.1.2.2.2.2
  have hl : lv_has ls 2 [(0, .ref (B + h0))] := hl
  obtain ⟨σ0, eσ⟩ : ∃ σ0 : ez_H, σ0 = σ := ⟨_, rfl⟩
  rw [← eσ] at hret
  have hS : ez_S X B s.heap σ0.length σ s.heap [] := eσ ▸ hS
  obtain ⟨-, h⟩ := ez_in h
  have K_28 : ∀ (k_2 : ez_H → Nat → Int32 → Option (Unit × ez_H)) (hk_2 : ∀ (σ : ez_H) (h0 : Nat) (x1 : Int32) (H : Heap) (locs : List Loc) (ls : Array Slot), ez_S X B s.heap (σ0.length) σ H locs → k_2 σ h0 x1 = some z → lv_has ls 2 [(0, .ref (B + h0)), (1, .int x1)] → W p l e R s m args below meth c H locs 0 0 Q (F0 m 2 ls [])), ∀ (σ : ez_H) (h0 : Nat) (x1 : Int32) (H : Heap) (locs : List Loc) (ls : Array Slot), ez_S X B s.heap (σ0.length) σ H locs → z_X12_pinByPlan_28 k_2 σ h0 x1 = some z → lv_has ls 2 [(0, .ref (B + h0)), (1, .int x1)] → W p l e R s m args below meth c H locs 0 0 Q (F0 m 28 ls []) := by
    intro k_2 hk_2 σ h0 x1 H locs ls hS h hl
    obtain ⟨t_28, e_28, h⟩ := ez_let_sp h
    refine lv_iinc (v := t_28) (lv' := [(1, .int t_28), (0, .ref (B + h0))]) hx hb dX12_pinByPlan_28 hl (k := 1) rfl (by rw [e_28]; rfl) (by decide) rfl (fun ls hl => ?_)
    refine lv_goto (tgt := 2) hx hb dX12_pinByPlan_31 (by decide) ?_
    exact hk_2 σ h0 t_28 _ _ _ hS h (lv_sub hl [1, 0] rfl)
  have K_2 : ∀ (k_2 : ez_H → Nat → Int32 → Option (Unit × ez_H)) (hk_2 : ∀ (σ : ez_H) (h0 : Nat) (x1 : Int32) (H : Heap) (locs : List Loc) (ls : Array Slot), ez_S X B s.heap (σ0.length) σ H locs → k_2 σ h0 x1 = some z → lv_has ls 2 [(0, .ref (B + h0)), (1, .int x1)] → W p l e R s m args below meth c H locs 0 0 Q (F0 m 2 ls [])), ∀ (σ : ez_H) (h0 : Nat) (x1 : Int32) (H : Heap) (locs : List Loc) (ls : Array Slot), ez_S X B s.heap (σ0.length) σ H locs → z_X12_pinByPlan_2 k_2 σ h0 x1 = some z → lv_has ls 2 [(0, .ref (B + h0)), (1, .int x1)] → W p l e R s m args below meth c H locs 0 0 Q (F0 m 2 ls []) := by
    intro k_2 hk_2 σ h0 x1 H locs ls hS h hl
    refine lv_iload_n hx hb dX12_pinByPlan_2 rfl (lv_at hl 1 rfl) ?_
    refine lv_aload_n hx hb dX12_pinByPlan_3 rfl (lv_at hl 0 rfl) ?_
    refine ez_cVpi (As := []) (rest := [.int x1]) h (fun _ q => c_X12_bolts q) hC k_X12_bolts ql_RX12_411 rfl (by decide) hS (fun _ q => ez_rcv q) rfl hl.1 rfl (Nat.le_of_ble_eq_true rfl) ⟨Nat.zero_le _, Nat.zero_le _⟩ dX12_pinByPlan_4 (fun t_4 H locs hS h => ?_)
    refine lv_icmp_ge (tgt := 34) hx hb dX12_pinByPlan_7 (by decide) (fun c_7 => ?_) (fun c_7 => ?_)
    · replace h := ez_ifp h c_7
      exact hret _ _ _ _ _ _ (Option.some.inj h) hS dX12_pinByPlan_34
    · replace h := ez_ifn h c_7
      refine lv_aload_n hx hb dX12_pinByPlan_10 rfl (lv_at hl 0 rfl) ?_
      refine lv_iload_n hx hb dX12_pinByPlan_11 rfl (lv_at hl 1 rfl) ?_
      refine ez_cVpi (As := [.int x1]) (rest := []) h (fun _ q => c_X12_mustOf q) hC k_X12_mustOf ql_RX12_486 rfl (by decide) hS (fun _ q => ez_rcv q) rfl hl.1 rfl (Nat.le_of_ble_eq_true rfl) ⟨Nat.zero_le _, Nat.zero_le _⟩ dX12_pinByPlan_12 (fun t_12 H locs hS h => ?_)
      refine lv_if_eq (tgt := 28) hx hb dX12_pinByPlan_15 (by decide) (fun c_15 => ?_) (fun c_15 => ?_)
      · replace h := ez_ifp h c_15
        exact K_28 k_2 hk_2 σ h0 x1 _ _ _ hS h (lv_sub hl [0, 1] rfl)
      · replace h := ez_ifn h c_15
        refine lv_aload_n hx hb dX12_pinByPlan_18 rfl (lv_at hl 0 rfl) ?_
        refine lv_iload_n hx hb dX12_pinByPlan_19 rfl (lv_at hl 1 rfl) ?_
        refine lv_aload_n hx hb dX12_pinByPlan_20 rfl (lv_at hl 0 rfl) ?_
        refine lv_iload_n hx hb dX12_pinByPlan_21 rfl (lv_at hl 1 rfl) ?_
        refine ez_cVpi (As := [.int x1]) (rest := [.int x1, .ref (B + h0)]) h (fun _ q => c_X12_mustOf q) hC k_X12_mustOf ql_RX12_486 rfl (by decide) hS (fun _ q => ez_rcv q) rfl hl.1 rfl (Nat.le_of_ble_eq_true rfl) ⟨Nat.zero_le _, Nat.zero_le _⟩ dX12_pinByPlan_22 (fun t_22 H locs hS h => ?_)
        refine ez_cVv (As := [.int x1, .int t_22]) (rest := []) h (fun _ q => c_X12_pinFor q) hC k_X12_pinFor ql_RX12_550 rfl (by decide) hS (fun _ q => ez_rcv q) rfl hl.1 rfl (Nat.le_of_ble_eq_true rfl) ⟨Nat.zero_le _, Nat.zero_le _⟩ dX12_pinByPlan_25 (fun _ σ H locs hS h => ?_)
        exact K_28 k_2 hk_2 σ h0 x1 _ _ _ hS h (lv_sub hl [0, 1] rfl)
  have E_2 : ∀ (σ : ez_H) (h0 : Nat) (x1 : Int32) (H : Heap) (locs : List Loc) (ls : Array Slot), ez_S X B s.heap (σ0.length) σ H locs → (ez_fix (fun _ _ _ => none) (z_X12_pinByPlan_2) ez_N) σ h0 x1 = some z → lv_has ls 2 [(0, .ref (B + h0)), (1, .int x1)] → W p l e R s m args below meth c H locs 0 0 Q (F0 m 2 ls []) := ez_fix_ind (fun k_2 : ez_H → Nat → Int32 → Option (Unit × ez_H) => ∀ (σ : ez_H) (h0 : Nat) (x1 : Int32) (H : Heap) (locs : List Loc) (ls : Array Slot), ez_S X B s.heap (σ0.length) σ H locs → k_2 σ h0 x1 = some z → lv_has ls 2 [(0, .ref (B + h0)), (1, .int x1)] → W p l e R s m args below meth c H locs 0 0 Q (F0 m 2 ls [])) (fun _ _ _ _ _ _ _ h _ => by cases h) (fun k_2 hk_2 => K_2 k_2 hk_2) ez_N
  refine lv_iconst (v := 0) hx hb dX12_pinByPlan_0 (by decide) ?_
  refine lv_istore_n (lv' := [(1, .int 0), (0, .ref (B + h0))]) hx hb dX12_pinByPlan_1 rfl hl (by decide) rfl (fun ls hl => ?_)
  exact E_2  σ h0 (0 : Int32) _ _ _ hS h (lv_sub hl [1, 0] rfl)
set_option maxHeartbeats 4000000 in
set_option maxRecDepth 100000 in
theorem c_X12_straysBy {l : Launch} {X : ez_X} {B : Nat} {σ : ez_H} {h0 : Nat} {x1 : Int32} {z : Int32} (h : z_X12_straysBy σ h0 x1 = some z) : ez_M l X B σ yX12_straysBy cX12_straysBy 7 (some .int) 3 [.ref (B + h0), .int x1] (some (.int z)) σ := by
  refine ez_startip (z := z) (by decide) (Nat.le_of_ble_eq_true rfl) (fun p e R s m args below meth c Q hC hret hS ls hl => ?_)
  have hC : ez_C p R s m args c X B RX12 cX12_straysBy 7 3 := hC
  have hx := hC.1.1
  have hb := hC.1.2.1
  have hown := hC.1.2.2.2.1
  have hts := hC.1.2.2.2.2
  have hl : lv_has ls 7 [(0, .ref (B + h0)), (1, .int x1)] := hl
  obtain ⟨n0, e0⟩ : ∃ n0 : Nat, n0 = σ.length := ⟨_, rfl⟩
  rw [← e0] at hret hS
  obtain ⟨-, h⟩ := ez_in h
  have K_104 : ∀ (y0 : Int32) (H : Heap) (locs : List Loc) (ls : Array Slot), ez_S X B s.heap (n0) σ H locs → z_X12_straysBy_104 σ y0 = some z → lv_has ls 7 [] → W p l e R s m args below meth c H locs 0 0 Q (F0 m 104 ls [.int y0]) := by
    intro y0 H locs ls hS h hl
    exact hret _ _ _ _ _ (Option.some.inj h) rfl hS dX12_straysBy_104
  have K_73 : ∀ (k_10 : Nat → Int32 → Int32 → Int32 → Int32 → Int32 → Option (Int32)) (hk_10 : ∀ (h0 : Nat) (x1 : Int32) (x2 : Int32) (x3 : Int32) (x4 : Int32) (x5 : Int32) (H : Heap) (locs : List Loc) (ls : Array Slot), ez_S X B s.heap (n0) σ H locs → k_10 h0 x1 x2 x3 x4 x5 = some z → lv_has ls 7 [(0, .ref (B + h0)), (1, .int x1), (2, .int x2), (3, .int x3), (4, .int x4), (5, .int x5)] → W p l e R s m args below meth c H locs 0 0 Q (F0 m 10 ls [])) (k_22 : Nat → Int32 → Int32 → Int32 → Int32 → Int32 → Int32 → Option (Int32)) (hk_22 : ∀ (h0 : Nat) (x1 : Int32) (x2 : Int32) (x3 : Int32) (x4 : Int32) (x5 : Int32) (x6 : Int32) (H : Heap) (locs : List Loc) (ls : Array Slot), ez_S X B s.heap (n0) σ H locs → k_22 h0 x1 x2 x3 x4 x5 x6 = some z → lv_has ls 7 [(0, .ref (B + h0)), (1, .int x1), (2, .int x2), (3, .int x3), (4, .int x4), (5, .int x5), (6, .int x6)] → W p l e R s m args below meth c H locs 0 0 Q (F0 m 22 ls [])), ∀ (h0 : Nat) (x1 : Int32) (x2 : Int32) (x3 : Int32) (x4 : Int32) (x5 : Int32) (x6 : Int32) (H : Heap) (locs : List Loc) (ls : Array Slot), ez_S X B s.heap (n0) σ H locs → z_X12_straysBy_73 σ k_10 k_22 h0 x1 x2 x3 x4 x5 x6 = some z → lv_has ls 7 [(0, .ref (B + h0)), (1, .int x1), (2, .int x2), (3, .int x3), (4, .int x4), (5, .int x5), (6, .int x6)] → W p l e R s m args below meth c H locs 0 0 Q (F0 m 73 ls []) := by
    intro k_10 hk_10 k_22 hk_22 h0 x1 x2 x3 x4 x5 x6 H locs ls hS h hl
    obtain ⟨t_73, e_73, h⟩ := ez_let_sp h
    refine lv_iinc (v := t_73) (lv' := [(6, .int t_73), (0, .ref (B + h0)), (1, .int x1), (2, .int x2), (3, .int x3), (4, .int x4), (5, .int x5)]) hx hb dX12_straysBy_73 hl (k := 6) rfl (by rw [e_73]; rfl) (by decide) rfl (fun ls hl => ?_)
    refine lv_goto (tgt := 22) hx hb dX12_straysBy_76 (by decide) ?_
    exact hk_22 h0 x1 x2 x3 x4 x5 t_73 _ _ _ hS h (lv_sub hl [1, 2, 3, 4, 5, 6, 0] rfl)
  have K_70 : ∀ (k_10 : Nat → Int32 → Int32 → Int32 → Int32 → Int32 → Option (Int32)) (hk_10 : ∀ (h0 : Nat) (x1 : Int32) (x2 : Int32) (x3 : Int32) (x4 : Int32) (x5 : Int32) (H : Heap) (locs : List Loc) (ls : Array Slot), ez_S X B s.heap (n0) σ H locs → k_10 h0 x1 x2 x3 x4 x5 = some z → lv_has ls 7 [(0, .ref (B + h0)), (1, .int x1), (2, .int x2), (3, .int x3), (4, .int x4), (5, .int x5)] → W p l e R s m args below meth c H locs 0 0 Q (F0 m 10 ls [])) (k_22 : Nat → Int32 → Int32 → Int32 → Int32 → Int32 → Int32 → Option (Int32)) (hk_22 : ∀ (h0 : Nat) (x1 : Int32) (x2 : Int32) (x3 : Int32) (x4 : Int32) (x5 : Int32) (x6 : Int32) (H : Heap) (locs : List Loc) (ls : Array Slot), ez_S X B s.heap (n0) σ H locs → k_22 h0 x1 x2 x3 x4 x5 x6 = some z → lv_has ls 7 [(0, .ref (B + h0)), (1, .int x1), (2, .int x2), (3, .int x3), (4, .int x4), (5, .int x5), (6, .int x6)] → W p l e R s m args below meth c H locs 0 0 Q (F0 m 22 ls [])), ∀ (h0 : Nat) (x1 : Int32) (x2 : Int32) (x3 : Int32) (x4 : Int32) (x5 : Int32) (x6 : Int32) (H : Heap) (locs : List Loc) (ls : Array Slot), ez_S X B s.heap (n0) σ H locs → z_X12_straysBy_70 σ k_10 k_22 h0 x1 x2 x3 x4 x5 x6 = some z → lv_has ls 7 [(0, .ref (B + h0)), (1, .int x1), (2, .int x2), (3, .int x3), (4, .int x4), (5, .int x5), (6, .int x6)] → W p l e R s m args below meth c H locs 0 0 Q (F0 m 70 ls []) := by
    intro k_10 hk_10 k_22 hk_22 h0 x1 x2 x3 x4 x5 x6 H locs ls hS h hl
    obtain ⟨t_70, e_70, h⟩ := ez_let_sp h
    refine lv_iinc (v := t_70) (lv' := [(2, .int t_70), (0, .ref (B + h0)), (1, .int x1), (3, .int x3), (4, .int x4), (5, .int x5), (6, .int x6)]) hx hb dX12_straysBy_70 hl (k := 2) rfl (by rw [e_70]; rfl) (by decide) rfl (fun ls hl => ?_)
    exact K_73 k_10 hk_10 k_22 hk_22 h0 x1 t_70 x3 x4 x5 x6 _ _ _ hS h (lv_sub hl [1, 2, 0, 3, 4, 5, 6] rfl)
  have K_22 : ∀ (k_10 : Nat → Int32 → Int32 → Int32 → Int32 → Int32 → Option (Int32)) (hk_10 : ∀ (h0 : Nat) (x1 : Int32) (x2 : Int32) (x3 : Int32) (x4 : Int32) (x5 : Int32) (H : Heap) (locs : List Loc) (ls : Array Slot), ez_S X B s.heap (n0) σ H locs → k_10 h0 x1 x2 x3 x4 x5 = some z → lv_has ls 7 [(0, .ref (B + h0)), (1, .int x1), (2, .int x2), (3, .int x3), (4, .int x4), (5, .int x5)] → W p l e R s m args below meth c H locs 0 0 Q (F0 m 10 ls [])) (k_22 : Nat → Int32 → Int32 → Int32 → Int32 → Int32 → Int32 → Option (Int32)) (hk_22 : ∀ (h0 : Nat) (x1 : Int32) (x2 : Int32) (x3 : Int32) (x4 : Int32) (x5 : Int32) (x6 : Int32) (H : Heap) (locs : List Loc) (ls : Array Slot), ez_S X B s.heap (n0) σ H locs → k_22 h0 x1 x2 x3 x4 x5 x6 = some z → lv_has ls 7 [(0, .ref (B + h0)), (1, .int x1), (2, .int x2), (3, .int x3), (4, .int x4), (5, .int x5), (6, .int x6)] → W p l e R s m args below meth c H locs 0 0 Q (F0 m 22 ls [])), ∀ (h0 : Nat) (x1 : Int32) (x2 : Int32) (x3 : Int32) (x4 : Int32) (x5 : Int32) (x6 : Int32) (H : Heap) (locs : List Loc) (ls : Array Slot), ez_S X B s.heap (n0) σ H locs → z_X12_straysBy_22 σ k_10 k_22 h0 x1 x2 x3 x4 x5 x6 = some z → lv_has ls 7 [(0, .ref (B + h0)), (1, .int x1), (2, .int x2), (3, .int x3), (4, .int x4), (5, .int x5), (6, .int x6)] → W p l e R s m args below meth c H locs 0 0 Q (F0 m 22 ls []) := by
    intro k_10 hk_10 k_22 hk_22 h0 x1 x2 x3 x4 x5 x6 H locs ls hS h hl
    refine lv_iload hx hb dX12_straysBy_22 (lv_at hl 6 rfl) ?_
    refine lv_aload_n hx hb dX12_straysBy_24 rfl (lv_at hl 0 rfl) ?_
    refine ez_cVpi (As := []) (rest := [.int x6]) h (fun _ q => c_X12_bolts q) hC k_X12_bolts ql_RX12_411 rfl (by decide) hS (fun _ q => ez_rcv q) rfl hl.1 rfl (Nat.le_of_ble_eq_true rfl) ⟨Nat.zero_le _, Nat.zero_le _⟩ dX12_straysBy_25 (fun t_25 H locs hS h => ?_)
    refine lv_icmp_ge (tgt := 79) hx hb dX12_straysBy_28 (by decide) (fun c_28 => ?_) (fun c_28 => ?_)
    · replace h := ez_ifp h c_28
      obtain ⟨t_79, e_79, h⟩ := ez_let_sp h
      refine lv_iinc (v := t_79) (lv' := [(5, .int t_79), (0, .ref (B + h0)), (1, .int x1), (2, .int x2), (3, .int x3), (4, .int x4), (6, .int x6)]) hx hb dX12_straysBy_79 hl (k := 5) rfl (by rw [e_79]; rfl) (by decide) rfl (fun ls hl => ?_)
      refine lv_goto (tgt := 10) hx hb dX12_straysBy_82 (by decide) ?_
      exact hk_10 h0 x1 x2 x3 x4 t_79 _ _ _ hS h (lv_sub hl [1, 2, 3, 4, 5, 0] rfl)
    · replace h := ez_ifn h c_28
      refine lv_aload_n hx hb dX12_straysBy_31 rfl (lv_at hl 0 rfl) ?_
      refine lv_iload hx hb dX12_straysBy_32 (lv_at hl 6 rfl) ?_
      refine ez_cVpi (As := [.int x6]) (rest := []) h (fun _ q => c_X12_neverOf q) hC k_X12_neverOf ql_RX12_489 rfl (by decide) hS (fun _ q => ez_rcv q) rfl hl.1 rfl (Nat.le_of_ble_eq_true rfl) ⟨Nat.zero_le _, Nat.zero_le _⟩ dX12_straysBy_34 (fun t_34 H locs hS h => ?_)
      refine lv_iload hx hb dX12_straysBy_37 (lv_at hl 5 rfl) ?_
      refine ez_cSpi (As := [.int t_34, .int x5]) (rest := []) h (fun _ q => c_X12_bit q) hC k_X12_bit ql_RX12_261 rfl (by decide) hS hl.1 rfl (Nat.le_of_ble_eq_true rfl) ⟨Nat.zero_le _, Nat.zero_le _⟩ dX12_straysBy_39 (fun t_39 H locs hS h => ?_)
      refine lv_if_eq (tgt := 73) hx hb dX12_straysBy_42 (by decide) (fun c_42 => ?_) (fun c_42 => ?_)
      · replace h := ez_ifp h c_42
        exact K_73 k_10 hk_10 k_22 hk_22 h0 x1 x2 x3 x4 x5 x6 _ _ _ hS h (lv_sub hl [0, 1, 2, 3, 4, 5, 6] rfl)
      · replace h := ez_ifn h c_42
        refine lv_aload_n hx hb dX12_straysBy_45 rfl (lv_at hl 0 rfl) ?_
        refine lv_iload hx hb dX12_straysBy_46 (lv_at hl 5 rfl) ?_
        refine lv_iload hx hb dX12_straysBy_48 (lv_at hl 6 rfl) ?_
        refine ez_cVpi (As := [.int x5, .int x6]) (rest := []) h (fun _ q => c_X12_opensBy q) hC k_X12_opensBy ql_RX12_474 rfl (by decide) hS (fun _ q => ez_rcv q) rfl hl.1 rfl (Nat.le_of_ble_eq_true rfl) ⟨Nat.zero_le _, Nat.zero_le _⟩ dX12_straysBy_50 (fun t_50 H locs hS h => ?_)
        refine lv_if_ne (tgt := 59) hx hb dX12_straysBy_53 (by decide) (fun c_53 => ?_) (fun c_53 => ?_)
        · replace h := ez_ifn h c_53
          refine lv_iload_n hx hb dX12_straysBy_59 rfl (lv_at hl 2 rfl) ?_
          refine lv_if_ne (tgt := 70) hx hb dX12_straysBy_60 (by decide) (fun c_60 => ?_) (fun c_60 => ?_)
          · replace h := ez_ifn h c_60
            exact K_70 k_10 hk_10 k_22 hk_22 h0 x1 x2 x3 x4 x5 x6 _ _ _ hS h (lv_sub hl [0, 1, 2, 3, 4, 5, 6] rfl)
          · replace h := ez_ifp h c_60
            refine lv_iload hx hb dX12_straysBy_63 (lv_at hl 5 rfl) ?_
            refine lv_istore_n (lv' := [(3, .int x5), (0, .ref (B + h0)), (1, .int x1), (2, .int x2), (4, .int x4), (5, .int x5), (6, .int x6)]) hx hb dX12_straysBy_65 rfl hl (by decide) rfl (fun ls hl => ?_)
            refine lv_iload hx hb dX12_straysBy_66 (lv_at hl 6 rfl) ?_
            refine lv_istore (lv' := [(4, .int x6), (3, .int x5), (0, .ref (B + h0)), (1, .int x1), (2, .int x2), (5, .int x5), (6, .int x6)]) hx hb dX12_straysBy_68 hl (by decide) rfl (fun ls hl => ?_)
            exact K_70 k_10 hk_10 k_22 hk_22 h0 x1 x2 x5 x6 x5 x6 _ _ _ hS h (lv_sub hl [2, 3, 4, 1, 0, 5, 6] rfl)
        · replace h := ez_ifp h c_53
          refine lv_goto (tgt := 73) hx hb dX12_straysBy_56 (by decide) ?_
          exact K_73 k_10 hk_10 k_22 hk_22 h0 x1 x2 x3 x4 x5 x6 _ _ _ hS h (lv_sub hl [0, 1, 2, 3, 4, 5, 6] rfl)
  have E_22 : ∀ (k_10 : Nat → Int32 → Int32 → Int32 → Int32 → Int32 → Option (Int32)) (hk_10 : ∀ (h0 : Nat) (x1 : Int32) (x2 : Int32) (x3 : Int32) (x4 : Int32) (x5 : Int32) (H : Heap) (locs : List Loc) (ls : Array Slot), ez_S X B s.heap (n0) σ H locs → k_10 h0 x1 x2 x3 x4 x5 = some z → lv_has ls 7 [(0, .ref (B + h0)), (1, .int x1), (2, .int x2), (3, .int x3), (4, .int x4), (5, .int x5)] → W p l e R s m args below meth c H locs 0 0 Q (F0 m 10 ls [])), ∀ (h0 : Nat) (x1 : Int32) (x2 : Int32) (x3 : Int32) (x4 : Int32) (x5 : Int32) (x6 : Int32) (H : Heap) (locs : List Loc) (ls : Array Slot), ez_S X B s.heap (n0) σ H locs → (ez_fix (fun _ _ _ _ _ _ _ => none) (z_X12_straysBy_22 σ k_10) ez_N) h0 x1 x2 x3 x4 x5 x6 = some z → lv_has ls 7 [(0, .ref (B + h0)), (1, .int x1), (2, .int x2), (3, .int x3), (4, .int x4), (5, .int x5), (6, .int x6)] → W p l e R s m args below meth c H locs 0 0 Q (F0 m 22 ls []) := fun k_10 hk_10 => ez_fix_ind (fun k_22 : Nat → Int32 → Int32 → Int32 → Int32 → Int32 → Int32 → Option (Int32) => ∀ (h0 : Nat) (x1 : Int32) (x2 : Int32) (x3 : Int32) (x4 : Int32) (x5 : Int32) (x6 : Int32) (H : Heap) (locs : List Loc) (ls : Array Slot), ez_S X B s.heap (n0) σ H locs → k_22 h0 x1 x2 x3 x4 x5 x6 = some z → lv_has ls 7 [(0, .ref (B + h0)), (1, .int x1), (2, .int x2), (3, .int x3), (4, .int x4), (5, .int x5), (6, .int x6)] → W p l e R s m args below meth c H locs 0 0 Q (F0 m 22 ls [])) (fun _ _ _ _ _ _ _ _ _ _ _ h _ => by cases h) (fun k_22 hk_22 => K_22 k_10 hk_10 k_22 hk_22) ez_N
  have K_10 : ∀ (k_10 : Nat → Int32 → Int32 → Int32 → Int32 → Int32 → Option (Int32)) (hk_10 : ∀ (h0 : Nat) (x1 : Int32) (x2 : Int32) (x3 : Int32) (x4 : Int32) (x5 : Int32) (H : Heap) (locs : List Loc) (ls : Array Slot), ez_S X B s.heap (n0) σ H locs → k_10 h0 x1 x2 x3 x4 x5 = some z → lv_has ls 7 [(0, .ref (B + h0)), (1, .int x1), (2, .int x2), (3, .int x3), (4, .int x4), (5, .int x5)] → W p l e R s m args below meth c H locs 0 0 Q (F0 m 10 ls [])), ∀ (h0 : Nat) (x1 : Int32) (x2 : Int32) (x3 : Int32) (x4 : Int32) (x5 : Int32) (H : Heap) (locs : List Loc) (ls : Array Slot), ez_S X B s.heap (n0) σ H locs → z_X12_straysBy_10 σ k_10 h0 x1 x2 x3 x4 x5 = some z → lv_has ls 7 [(0, .ref (B + h0)), (1, .int x1), (2, .int x2), (3, .int x3), (4, .int x4), (5, .int x5)] → W p l e R s m args below meth c H locs 0 0 Q (F0 m 10 ls []) := by
    intro k_10 hk_10 h0 x1 x2 x3 x4 x5 H locs ls hS h hl
    refine lv_iload hx hb dX12_straysBy_10 (lv_at hl 5 rfl) ?_
    refine lv_aload_n hx hb dX12_straysBy_12 rfl (lv_at hl 0 rfl) ?_
    refine ez_cVpi (As := []) (rest := [.int x5]) h (fun _ q => c_X12_many q) hC k_X12_many ql_RX12_404 rfl (by decide) hS (fun _ q => ez_rcv q) rfl hl.1 rfl (Nat.le_of_ble_eq_true rfl) ⟨Nat.zero_le _, Nat.zero_le _⟩ dX12_straysBy_13 (fun t_13 H locs hS h => ?_)
    refine lv_icmp_ge (tgt := 85) hx hb dX12_straysBy_16 (by decide) (fun c_16 => ?_) (fun c_16 => ?_)
    · replace h := ez_ifp h c_16
      refine lv_iload_n hx hb dX12_straysBy_85 rfl (lv_at hl 1 rfl) ?_
      refine lv_if_ne (tgt := 93) hx hb dX12_straysBy_86 (by decide) (fun c_86 => ?_) (fun c_86 => ?_)
      · replace h := ez_ifn h c_86
        refine lv_iload_n hx hb dX12_straysBy_93 rfl (lv_at hl 1 rfl) ?_
        refine lv_iconst (v := 1) hx hb dX12_straysBy_94 (by decide) ?_
        refine lv_icmp_ne (tgt := 102) hx hb dX12_straysBy_95 (by decide) (fun c_95 => ?_) (fun c_95 => ?_)
        · replace h := ez_ifn h c_95
          refine lv_iload hx hb dX12_straysBy_102 (lv_at hl 4 rfl) ?_
          exact K_104  x4 _ _ _ hS h (lv_sub hl [] rfl)
        · replace h := ez_ifp h c_95
          refine lv_iload_n hx hb dX12_straysBy_98 rfl (lv_at hl 3 rfl) ?_
          refine lv_goto (tgt := 104) hx hb dX12_straysBy_99 (by decide) ?_
          exact K_104  x3 _ _ _ hS h (lv_sub hl [] rfl)
      · replace h := ez_ifp h c_86
        refine lv_iload_n hx hb dX12_straysBy_89 rfl (lv_at hl 2 rfl) ?_
        refine lv_goto (tgt := 104) hx hb dX12_straysBy_90 (by decide) ?_
        exact K_104  x2 _ _ _ hS h (lv_sub hl [] rfl)
    · replace h := ez_ifn h c_16
      refine lv_iconst (v := 0) hx hb dX12_straysBy_19 (by decide) ?_
      refine lv_istore (lv' := [(6, .int 0), (0, .ref (B + h0)), (1, .int x1), (2, .int x2), (3, .int x3), (4, .int x4), (5, .int x5)]) hx hb dX12_straysBy_20 hl (by decide) rfl (fun ls hl => ?_)
      exact E_22 k_10 hk_10 h0 x1 x2 x3 x4 x5 (0 : Int32) _ _ _ hS h (lv_sub hl [1, 2, 3, 4, 5, 6, 0] rfl)
  have E_10 : ∀ (h0 : Nat) (x1 : Int32) (x2 : Int32) (x3 : Int32) (x4 : Int32) (x5 : Int32) (H : Heap) (locs : List Loc) (ls : Array Slot), ez_S X B s.heap (n0) σ H locs → (ez_fix (fun _ _ _ _ _ _ => none) (z_X12_straysBy_10 σ) ez_N) h0 x1 x2 x3 x4 x5 = some z → lv_has ls 7 [(0, .ref (B + h0)), (1, .int x1), (2, .int x2), (3, .int x3), (4, .int x4), (5, .int x5)] → W p l e R s m args below meth c H locs 0 0 Q (F0 m 10 ls []) := ez_fix_ind (fun k_10 : Nat → Int32 → Int32 → Int32 → Int32 → Int32 → Option (Int32) => ∀ (h0 : Nat) (x1 : Int32) (x2 : Int32) (x3 : Int32) (x4 : Int32) (x5 : Int32) (H : Heap) (locs : List Loc) (ls : Array Slot), ez_S X B s.heap (n0) σ H locs → k_10 h0 x1 x2 x3 x4 x5 = some z → lv_has ls 7 [(0, .ref (B + h0)), (1, .int x1), (2, .int x2), (3, .int x3), (4, .int x4), (5, .int x5)] → W p l e R s m args below meth c H locs 0 0 Q (F0 m 10 ls [])) (fun _ _ _ _ _ _ _ _ _ _ h _ => by cases h) (fun k_10 hk_10 => K_10 k_10 hk_10) ez_N
  refine lv_iconst (v := 0) hx hb dX12_straysBy_0 (by decide) ?_
  refine lv_istore_n (lv' := [(2, .int 0), (0, .ref (B + h0)), (1, .int x1)]) hx hb dX12_straysBy_1 rfl hl (by decide) rfl (fun ls hl => ?_)
  refine lv_iconst (v := -1) hx hb dX12_straysBy_2 (by decide) ?_
  refine lv_istore_n (lv' := [(3, .int (-1)), (2, .int 0), (0, .ref (B + h0)), (1, .int x1)]) hx hb dX12_straysBy_3 rfl hl (by decide) rfl (fun ls hl => ?_)
  refine lv_iconst (v := -1) hx hb dX12_straysBy_4 (by decide) ?_
  refine lv_istore (lv' := [(4, .int (-1)), (3, .int (-1)), (2, .int 0), (0, .ref (B + h0)), (1, .int x1)]) hx hb dX12_straysBy_5 hl (by decide) rfl (fun ls hl => ?_)
  refine lv_iconst (v := 0) hx hb dX12_straysBy_7 (by decide) ?_
  refine lv_istore (lv' := [(5, .int 0), (4, .int (-1)), (3, .int (-1)), (2, .int 0), (0, .ref (B + h0)), (1, .int x1)]) hx hb dX12_straysBy_8 hl (by decide) rfl (fun ls hl => ?_)
  exact E_10  h0 x1 (0 : Int32) (-1 : Int32) (-1 : Int32) (0 : Int32) _ _ _ hS h (lv_sub hl [4, 5, 3, 2, 1, 0] rfl)
