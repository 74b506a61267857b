set_option maxHeartbeats 4000000 in
set_option maxRecDepth 100000 in
theorem c_X12_locksWith {l : Launch} {X : ez_X} {B : Nat} {σ : ez_H} {h0 : Nat} {x1 : Int32} {z : Int32} (h : z_X12_locksWith σ h0 x1 = some z) : ez_M l X B σ yX12_locksWith cX12_locksWith 4 (some .int) 4 [.ref (B + h0), .int x1] (some (.int z)) σ := by
  refine ez_startip (z := z) (by decide) (Nat.le_of_ble_eq_true rfl) (fun p e R s m args below meth c Q hC hret hS ls hl => ?_)
  have hC : ez_C p R s m args c X B RX12 cX12_locksWith 4 4 := hC
  have hx := hC.1.1
  have hb := hC.1.2.1
  have hown := hC.1.2.2.2.1
  have hts := hC.1.2.2.2.2
  have hl : lv_has ls 4 [(0, .ref (B + h0)), (1, .int x1)] := hl
  obtain ⟨n0, e0⟩ : ∃ n0 : Nat, n0 = σ.length := ⟨_, rfl⟩
  rw [← e0] at hret hS
  obtain ⟨-, h⟩ := ez_in h
  have K_27 : ∀ (k_4 : Nat → Int32 → Int32 → Int32 → Option (Int32)) (hk_4 : ∀ (h0 : Nat) (x1 : Int32) (x2 : Int32) (x3 : Int32) (H : Heap) (locs : List Loc) (ls : Array Slot), ez_S X B s.heap (n0) σ H locs → k_4 h0 x1 x2 x3 = some z → lv_has ls 4 [(0, .ref (B + h0)), (1, .int x1), (2, .int x2), (3, .int x3)] → W p l e R s m args below meth c H locs 0 0 Q (F0 m 4 ls [])), ∀ (h0 : Nat) (x1 : Int32) (x2 : Int32) (x3 : Int32) (H : Heap) (locs : List Loc) (ls : Array Slot), ez_S X B s.heap (n0) σ H locs → z_X12_locksWith_27 σ k_4 h0 x1 x2 x3 = some z → lv_has ls 4 [(0, .ref (B + h0)), (1, .int x1), (2, .int x2), (3, .int x3)] → W p l e R s m args below meth c H locs 0 0 Q (F0 m 27 ls []) := by
    intro k_4 hk_4 h0 x1 x2 x3 H locs ls hS h hl
    obtain ⟨t_27, e_27, h⟩ := ez_let_sp h
    refine lv_iinc (v := t_27) (lv' := [(3, .int t_27), (0, .ref (B + h0)), (1, .int x1), (2, .int x2)]) hx hb dX12_locksWith_27 hl (k := 3) rfl (by rw [e_27]; rfl) (by decide) rfl (fun ls hl => ?_)
    refine lv_goto (tgt := 4) hx hb dX12_locksWith_30 (by decide) ?_
    exact hk_4 h0 x1 x2 t_27 _ _ _ hS h (lv_sub hl [1, 2, 3, 0] rfl)
  have K_4 : ∀ (k_4 : Nat → Int32 → Int32 → Int32 → Option (Int32)) (hk_4 : ∀ (h0 : Nat) (x1 : Int32) (x2 : Int32) (x3 : Int32) (H : Heap) (locs : List Loc) (ls : Array Slot), ez_S X B s.heap (n0) σ H locs → k_4 h0 x1 x2 x3 = some z → lv_has ls 4 [(0, .ref (B + h0)), (1, .int x1), (2, .int x2), (3, .int x3)] → W p l e R s m args below meth c H locs 0 0 Q (F0 m 4 ls [])), ∀ (h0 : Nat) (x1 : Int32) (x2 : Int32) (x3 : Int32) (H : Heap) (locs : List Loc) (ls : Array Slot), ez_S X B s.heap (n0) σ H locs → z_X12_locksWith_4 σ k_4 h0 x1 x2 x3 = some z → lv_has ls 4 [(0, .ref (B + h0)), (1, .int x1), (2, .int x2), (3, .int x3)] → W p l e R s m args below meth c H locs 0 0 Q (F0 m 4 ls []) := by
    intro k_4 hk_4 h0 x1 x2 x3 H locs ls hS h hl
    refine lv_iload_n hx hb dX12_locksWith_4 rfl (lv_at hl 3 rfl) ?_
    refine lv_aload_n hx hb dX12_locksWith_5 rfl (lv_at hl 0 rfl) ?_
    refine ez_cVpi (As := []) (rest := [.int x3]) h (fun _ q => c_X12_bolts q) hC k_X12_bolts ql_RX12_411 rfl (by decide) hS (fun _ q => ez_rcv q) rfl hl.1 rfl (Nat.le_of_ble_eq_true rfl) ⟨Nat.zero_le _, Nat.zero_le _⟩ dX12_locksWith_6 (fun t_6 H locs hS h => ?_)
    refine lv_icmp_ge (tgt := 33) hx hb dX12_locksWith_9 (by decide) (fun c_9 => ?_) (fun c_9 => ?_)
    · replace h := ez_ifp h c_9
      refine lv_iload_n hx hb dX12_locksWith_33 rfl (lv_at hl 2 rfl) ?_
      exact hret _ _ _ _ _ (Option.some.inj h) rfl hS dX12_locksWith_34
    · replace h := ez_ifn h c_9
      refine lv_aload_n hx hb dX12_locksWith_12 rfl (lv_at hl 0 rfl) ?_
      refine lv_iload_n hx hb dX12_locksWith_13 rfl (lv_at hl 3 rfl) ?_
      refine lv_iload_n hx hb dX12_locksWith_14 rfl (lv_at hl 1 rfl) ?_
      refine ez_cVpi (As := [.int x3, .int x1]) (rest := []) h (fun _ q => c_X12_openedWith q) hC k_X12_openedWith ql_RX12_568 rfl (by decide) hS (fun _ q => ez_rcv q) rfl hl.1 rfl (Nat.le_of_ble_eq_true rfl) ⟨Nat.zero_le _, Nat.zero_le _⟩ dX12_locksWith_15 (fun t_15 H locs hS h => ?_)
      refine lv_if_eq (tgt := 27) hx hb dX12_locksWith_18 (by decide) (fun c_18 => ?_) (fun c_18 => ?_)
      · replace h := ez_ifp h c_18
        exact K_27 k_4 hk_4 h0 x1 x2 x3 _ _ _ hS h (lv_sub hl [0, 1, 2, 3] rfl)
      · replace h := ez_ifn h c_18
        refine lv_iload_n hx hb dX12_locksWith_21 rfl (lv_at hl 2 rfl) ?_
        refine lv_iconst (v := 1) hx hb dX12_locksWith_22 (by decide) ?_
        refine lv_iload_n hx hb dX12_locksWith_23 rfl (lv_at hl 3 rfl) ?_
        refine lv_ishl hx hb dX12_locksWith_24 ?_
        refine ez_top h (fun t_24 h => ?_)
        refine lv_ior hx hb dX12_locksWith_25 ?_
        refine ez_top h (fun t_25 h => ?_)
        refine lv_istore_n (lv' := [(2, .int t_25), (0, .ref (B + h0)), (1, .int x1), (3, .int x3)]) hx hb dX12_locksWith_26 rfl hl (by decide) rfl (fun ls hl => ?_)
        exact K_27 k_4 hk_4 h0 x1 t_25 x3 _ _ _ hS h (lv_sub hl [1, 2, 0, 3] rfl)
  have E_4 : ∀ (h0 : Nat) (x1 : Int32) (x2 : Int32) (x3 : Int32) (H : Heap) (locs : List Loc) (ls : Array Slot), ez_S X B s.heap (n0) σ H locs → (ez_fix (fun _ _ _ _ => none) (z_X12_locksWith_4 σ) ez_N) h0 x1 x2 x3 = some z → lv_has ls 4 [(0, .ref (B + h0)), (1, .int x1), (2, .int x2), (3, .int x3)] → W p l e R s m args below meth c H locs 0 0 Q (F0 m 4 ls []) := ez_fix_ind (fun k_4 : Nat → Int32 → Int32 → Int32 → Option (Int32) => ∀ (h0 : Nat) (x1 : Int32) (x2 : Int32) (x3 : Int32) (H : Heap) (locs : List Loc) (ls : Array Slot), ez_S X B s.heap (n0) σ H locs → k_4 h0 x1 x2 x3 = some z → lv_has ls 4 [(0, .ref (B + h0)), (1, .int x1), (2, .int x2), (3, .int x3)] → W p l e R s m args below meth c H locs 0 0 Q (F0 m 4 ls [])) (fun _ _ _ _ _ _ _ _ h _ => by cases h) (fun k_4 hk_4 => K_4 k_4 hk_4) ez_N
  refine lv_iconst (v := 0) hx hb dX12_locksWith_0 (by decide) ?_
  refine lv_istore_n (lv' := [(2, .int 0), (0, .ref (B + h0)), (1, .int x1)]) hx hb dX12_locksWith_1 rfl hl (by decide) rfl (fun ls hl => ?_)
  refine lv_iconst (v := 0) hx hb dX12_locksWith_2 (by decide) ?_
  refine lv_istore_n (lv' := [(3, .int 0), (2, .int 0), (0, .ref (B + h0)), (1, .int x1)]) hx hb dX12_locksWith_3 rfl hl (by decide) rfl (fun ls hl => ?_)
  exact E_4  h0 x1 (0 : Int32) (0 : Int32) _ _ _ hS h (lv_sub hl [2, 3, 1, 0] rfl)
set_option maxHeartbeats 4000000 in
set_option maxRecDepth 100000 in
theorem c_X12_reachBy {l : Launch} {X : ez_X} {B : Nat} {σ : ez_H} {h0 : Nat} {x1 : Int32} {x2 : Int32} {z : Int32} (h : z_X12_reachBy σ h0 x1 x2 = some z) : ez_M l X B σ yX12_reachBy cX12_reachBy 8 (some .int) 5 [.ref (B + h0), .int x1, .int x2] (some (.int z)) σ := by
  refine ez_startip (z := z) (by decide) (Nat.le_of_ble_eq_true rfl) (fun p e R s m args below meth c Q hC hret hS ls hl => ?_)
  have hC : ez_C p R s m args c X B RX12 cX12_reachBy 8 5 := hC
  have hx := hC.1.1
  have hb := hC.1.2.1
  have hown := hC.1.2.2.2.1
  have hts := hC.1.2.2.2.2
  have hl : lv_has ls 8 [(0, .ref (B + h0)), (1, .int x1), (2, .int x2)] := hl
  obtain ⟨n0, e0⟩ : ∃ n0 : Nat, n0 = σ.length := ⟨_, rfl⟩
  rw [← e0] at hret hS
  obtain ⟨-, h⟩ := ez_in h
  have K_102 : ∀ (k_14 : Nat → Int32 → Int32 → Int32 → Option (Int32)) (hk_14 : ∀ (h0 : Nat) (x3 : Int32) (x4 : Int32) (x5 : Int32) (H : Heap) (locs : List Loc) (ls : Array Slot), ez_S X B s.heap (n0) σ H locs → k_14 h0 x3 x4 x5 = some z → lv_has ls 8 [(0, .ref (B + h0)), (3, .int x3), (4, .int x4), (5, .int x5)] → W p l e R s m args below meth c H locs 0 0 Q (F0 m 14 ls [])) (k_30 : Nat → Int32 → Int32 → Int32 → Int32 → Option (Int32)) (hk_30 : ∀ (h0 : Nat) (x3 : Int32) (x4 : Int32) (x5 : Int32) (x6 : Int32) (H : Heap) (locs : List Loc) (ls : Array Slot), ez_S X B s.heap (n0) σ H locs → k_30 h0 x3 x4 x5 x6 = some z → lv_has ls 8 [(0, .ref (B + h0)), (3, .int x3), (4, .int x4), (5, .int x5), (6, .int x6)] → W p l e R s m args below meth c H locs 0 0 Q (F0 m 30 ls [])), ∀ (h0 : Nat) (x3 : Int32) (x4 : Int32) (x5 : Int32) (x6 : Int32) (H : Heap) (locs : List Loc) (ls : Array Slot), ez_S X B s.heap (n0) σ H locs → z_X12_reachBy_102 σ k_14 k_30 h0 x3 x4 x5 x6 = some z → lv_has ls 8 [(0, .ref (B + h0)), (3, .int x3), (4, .int x4), (5, .int x5), (6, .int x6)] → W p l e R s m args below meth c H locs 0 0 Q (F0 m 102 ls []) := by
    intro k_14 hk_14 k_30 hk_30 h0 x3 x4 x5 x6 H locs ls hS h hl
    obtain ⟨t_102, e_102, h⟩ := ez_let_sp h
    refine lv_iinc (v := t_102) (lv' := [(6, .int t_102), (0, .ref (B + h0)), (3, .int x3), (4, .int x4), (5, .int x5)]) hx hb dX12_reachBy_102 hl (k := 4) rfl (by rw [e_102]; rfl) (by decide) rfl (fun ls hl => ?_)
    refine lv_goto (tgt := 30) hx hb dX12_reachBy_105 (by decide) ?_
    exact hk_30 h0 x3 x4 x5 t_102 _ _ _ hS h (lv_sub hl [1, 2, 3, 4, 0] rfl)
  have K_30 : ∀ (k_14 : Nat → Int32 → Int32 → Int32 → Option (Int32)) (hk_14 : ∀ (h0 : Nat) (x3 : Int32) (x4 : Int32) (x5 : Int32) (H : Heap) (locs : List Loc) (ls : Array Slot), ez_S X B s.heap (n0) σ H locs → k_14 h0 x3 x4 x5 = some z → lv_has ls 8 [(0, .ref (B + h0)), (3, .int x3), (4, .int x4), (5, .int x5)] → W p l e R s m args below meth c H locs 0 0 Q (F0 m 14 ls [])) (k_30 : Nat → Int32 → Int32 → Int32 → Int32 → Option (Int32)) (hk_30 : ∀ (h0 : Nat) (x3 : Int32) (x4 : Int32) (x5 : Int32) (x6 : Int32) (H : Heap) (locs : List Loc) (ls : Array Slot), ez_S X B s.heap (n0) σ H locs → k_30 h0 x3 x4 x5 x6 = some z → lv_has ls 8 [(0, .ref (B + h0)), (3, .int x3), (4, .int x4), (5, .int x5), (6, .int x6)] → W p l e R s m args below meth c H locs 0 0 Q (F0 m 30 ls [])), ∀ (h0 : Nat) (x3 : Int32) (x4 : Int32) (x5 : Int32) (x6 : Int32) (H : Heap) (locs : List Loc) (ls : Array Slot), ez_S X B s.heap (n0) σ H locs → z_X12_reachBy_30 σ k_14 k_30 h0 x3 x4 x5 x6 = some z → lv_has ls 8 [(0, .ref (B + h0)), (3, .int x3), (4, .int x4), (5, .int x5), (6, .int x6)] → W p l e R s m args below meth c H locs 0 0 Q (F0 m 30 ls []) := by
    intro k_14 hk_14 k_30 hk_30 h0 x3 x4 x5 x6 H locs ls hS h hl
    refine lv_iload hx hb dX12_reachBy_30 (lv_at hl 4 rfl) ?_
    refine lv_bipush (v := 8) hx hb dX12_reachBy_32 (by decide) ?_
    refine lv_aload_n hx hb dX12_reachBy_34 rfl (lv_at hl 0 rfl) ?_
    refine eg_RX12_274 hC hS h dX12_reachBy_35 (fun t_35 h => ?_)
    refine lv_imul hx hb dX12_reachBy_38 ?_
    refine ez_top h (fun t_38 h => ?_)
    refine lv_aload_n hx hb dX12_reachBy_39 rfl (lv_at hl 0 rfl) ?_
    refine eg_RX12_39 hC hS h dX12_reachBy_40 (fun t_40 h => ?_)
    refine lv_aload_n hx hb dX12_reachBy_43 rfl (lv_at hl 0 rfl) ?_
    refine eg_RX12_274 hC hS h dX12_reachBy_44 (fun t_44 h => ?_)
    refine ez_ial hC hS h dX12_reachBy_47 (fun t_47 h => ?_)
    refine lv_iadd hx hb dX12_reachBy_48 ?_
    refine ez_top h (fun t_48 h => ?_)
    refine lv_icmp_ge (tgt := 108) hx hb dX12_reachBy_49 (by decide) (fun c_49 => ?_) (fun c_49 => ?_)
    · replace h := ez_ifp h c_49
      obtain ⟨t_108, e_108, h⟩ := ez_let_sp h
      refine lv_iinc (v := t_108) (lv' := [(5, .int t_108), (0, .ref (B + h0)), (3, .int x3), (4, .int x4), (6, .int x6)]) hx hb dX12_reachBy_108 hl (k := 3) rfl (by rw [e_108]; rfl) (by decide) rfl (fun ls hl => ?_)
      refine lv_goto (tgt := 14) hx hb dX12_reachBy_111 (by decide) ?_
      exact hk_14 h0 x3 x4 t_108 _ _ _ hS h (lv_sub hl [1, 2, 3, 0] rfl)
    · replace h := ez_ifn h c_49
      refine lv_iconst (v := 1) hx hb dX12_reachBy_52 (by decide) ?_
      refine lv_aload_n hx hb dX12_reachBy_53 rfl (lv_at hl 0 rfl) ?_
      refine eg_RX12_60 hC hS h dX12_reachBy_54 (fun t_54 h => ?_)
      refine lv_iload hx hb dX12_reachBy_57 (lv_at hl 4 rfl) ?_
      refine ez_ial hC hS h dX12_reachBy_59 (fun t_59 h => ?_)
      refine lv_ishl hx hb dX12_reachBy_60 ?_
      refine ez_top h (fun t_60 h => ?_)
      refine lv_iconst (v := 1) hx hb dX12_reachBy_61 (by decide) ?_
      refine lv_aload_n hx hb dX12_reachBy_62 rfl (lv_at hl 0 rfl) ?_
      refine eg_RX12_63 hC hS h dX12_reachBy_63 (fun t_63 h => ?_)
      refine lv_iload hx hb dX12_reachBy_66 (lv_at hl 4 rfl) ?_
      refine ez_ial hC hS h dX12_reachBy_68 (fun t_68 h => ?_)
      refine lv_ishl hx hb dX12_reachBy_69 ?_
      refine ez_top h (fun t_69 h => ?_)
      refine lv_ior hx hb dX12_reachBy_70 ?_
      refine ez_top h (fun t_70 h => ?_)
      refine lv_istore (lv' := [(7, .int t_70), (0, .ref (B + h0)), (3, .int x3), (4, .int x4), (5, .int x5), (6, .int x6)]) hx hb dX12_reachBy_71 hl (by decide) rfl (fun ls hl => ?_)
      refine lv_iload_n hx hb dX12_reachBy_73 rfl (lv_at hl 2 rfl) ?_
      refine lv_aload_n hx hb dX12_reachBy_74 rfl (lv_at hl 1 rfl) ?_
      refine eg_RX12_66 hC hS h dX12_reachBy_75 (fun t_75 h => ?_)
      refine lv_iload hx hb dX12_reachBy_78 (lv_at hl 5 rfl) ?_
      refine ez_ial hC hS h dX12_reachBy_80 (fun t_80 h => ?_)
      refine ez_cSpi (As := [.int x3, .int t_80]) (rest := []) h (fun _ q => c_X12_bit q) hC k_X12_bit ql_RX12_261 rfl (by decide) hS hl.1 rfl (Nat.le_of_ble_eq_true rfl) ⟨Nat.zero_le _, Nat.zero_le _⟩ dX12_reachBy_81 (fun t_81 H locs hS h => ?_)
      refine lv_if_eq (tgt := 102) hx hb dX12_reachBy_84 (by decide) (fun c_84 => ?_) (fun c_84 => ?_)
      · replace h := ez_ifp h c_84
        exact K_102 k_14 hk_14 k_30 hk_30 h0 x3 x4 x5 x6 _ _ _ hS h (lv_sub hl [1, 2, 3, 4, 5] rfl)
      · replace h := ez_ifn h c_84
        refine lv_iload hx hb dX12_reachBy_87 (lv_at hl 3 rfl) ?_
        refine lv_iload hx hb dX12_reachBy_89 (lv_at hl 0 rfl) ?_
        refine lv_iand hx hb dX12_reachBy_91 ?_
        refine ez_top h (fun t_91 h => ?_)
        refine lv_if_eq (tgt := 102) hx hb dX12_reachBy_92 (by decide) (fun c_92 => ?_) (fun c_92 => ?_)
        · replace h := ez_ifp h c_92
          exact K_102 k_14 hk_14 k_30 hk_30 h0 x3 x4 x5 x6 _ _ _ hS h (lv_sub hl [1, 2, 3, 4, 5] rfl)
        · replace h := ez_ifn h c_92
          refine lv_iload hx hb dX12_reachBy_95 (lv_at hl 3 rfl) ?_
          refine lv_iload hx hb dX12_reachBy_97 (lv_at hl 0 rfl) ?_
          refine lv_ior hx hb dX12_reachBy_99 ?_
          refine ez_top h (fun t_99 h => ?_)
          refine lv_istore (lv' := [(4, .int t_99), (7, .int t_70), (0, .ref (B + h0)), (3, .int x3), (5, .int x5), (6, .int x6)]) hx hb dX12_reachBy_100 hl (by decide) rfl (fun ls hl => ?_)
          exact K_102 k_14 hk_14 k_30 hk_30 h0 x3 t_99 x5 x6 _ _ _ hS h (lv_sub hl [2, 3, 0, 4, 5] rfl)
  have E_30 : ∀ (k_14 : Nat → Int32 → Int32 → Int32 → Option (Int32)) (hk_14 : ∀ (h0 : Nat) (x3 : Int32) (x4 : Int32) (x5 : Int32) (H : Heap) (locs : List Loc) (ls : Array Slot), ez_S X B s.heap (n0) σ H locs → k_14 h0 x3 x4 x5 = some z → lv_has ls 8 [(0, .ref (B + h0)), (3, .int x3), (4, .int x4), (5, .int x5)] → W p l e R s m args below meth c H locs 0 0 Q (F0 m 14 ls [])), ∀ (h0 : Nat) (x3 : Int32) (x4 : Int32) (x5 : Int32) (x6 : Int32) (H : Heap) (locs : List Loc) (ls : Array Slot), ez_S X B s.heap (n0) σ H locs → (ez_fix (fun _ _ _ _ _ => none) (z_X12_reachBy_30 σ k_14) ez_N) h0 x3 x4 x5 x6 = some z → lv_has ls 8 [(0, .ref (B + h0)), (3, .int x3), (4, .int x4), (5, .int x5), (6, .int x6)] → W p l e R s m args below meth c H locs 0 0 Q (F0 m 30 ls []) := fun k_14 hk_14 => ez_fix_ind (fun k_30 : Nat → Int32 → Int32 → Int32 → Int32 → Option (Int32) => ∀ (h0 : Nat) (x3 : Int32) (x4 : Int32) (x5 : Int32) (x6 : Int32) (H : Heap) (locs : List Loc) (ls : Array Slot), ez_S X B s.heap (n0) σ H locs → k_30 h0 x3 x4 x5 x6 = some z → lv_has ls 8 [(0, .ref (B + h0)), (3, .int x3), (4, .int x4), (5, .int x5), (6, .int x6)] → W p l e R s m args below meth c H locs 0 0 Q (F0 m 30 ls [])) (fun _ _ _ _ _ _ _ _ _ h _ => by cases h) (fun k_30 hk_30 => K_30 k_14 hk_14 k_30 hk_30) ez_N
  have K_14 : ∀ (k_14 : Nat → Int32 → Int32 → Int32 → Option (Int32)) (hk_14 : ∀ (h0 : Nat) (x3 : Int32) (x4 : Int32) (x5 : Int32) (H : Heap) (locs : List Loc) (ls : Array Slot), ez_S X B s.heap (n0) σ H locs → k_14 h0 x3 x4 x5 = some z → lv_has ls 8 [(0, .ref (B + h0)), (3, .int x3), (4, .int x4), (5, .int x5)] → W p l e R s m args below meth c H locs 0 0 Q (F0 m 14 ls [])), ∀ (h0 : Nat) (x3 : Int32) (x4 : Int32) (x5 : Int32) (H : Heap) (locs : List Loc) (ls : Array Slot), ez_S X B s.heap (n0) σ H locs → z_X12_reachBy_14 σ k_14 h0 x3 x4 x5 = some z → lv_has ls 8 [(0, .ref (B + h0)), (3, .int x3), (4, .int x4), (5, .int x5)] → W p l e R s m args below meth c H locs 0 0 Q (F0 m 14 ls []) := by
    intro k_14 hk_14 h0 x3 x4 x5 H locs ls hS h hl
    refine lv_iload hx hb dX12_reachBy_14 (lv_at hl 3 rfl) ?_
    refine lv_bipush (v := 6) hx hb dX12_reachBy_16 (by decide) ?_
    refine lv_icmp_ge (tgt := 114) hx hb dX12_reachBy_18 (by decide) (fun c_18 => ?_) (fun c_18 => ?_)
    · replace h := ez_ifp h c_18
      refine lv_iload hx hb dX12_reachBy_114 (lv_at hl 2 rfl) ?_
      exact hret _ _ _ _ _ (Option.some.inj h) rfl hS dX12_reachBy_116
    · replace h := ez_ifn h c_18
      refine lv_bipush (v := 8) hx hb dX12_reachBy_21 (by decide) ?_
      refine lv_aload_n hx hb dX12_reachBy_23 rfl (lv_at hl 0 rfl) ?_
      refine eg_RX12_274 hC hS h dX12_reachBy_24 (fun t_24 h => ?_)
      refine lv_imul hx hb dX12_reachBy_27 ?_
      refine ez_top h (fun t_27 h => ?_)
      refine lv_istore (lv' := [(6, .int t_27), (0, .ref (B + h0)), (3, .int x3), (4, .int x4), (5, .int x5)]) hx hb dX12_reachBy_28 hl (by decide) rfl (fun ls hl => ?_)
      exact E_30 k_14 hk_14 h0 x3 x4 x5 t_27 _ _ _ hS h (lv_sub hl [1, 2, 3, 4, 0] rfl)
  have E_14 : ∀ (h0 : Nat) (x3 : Int32) (x4 : Int32) (x5 : Int32) (H : Heap) (locs : List Loc) (ls : Array Slot), ez_S X B s.heap (n0) σ H locs → (ez_fix (fun _ _ _ _ => none) (z_X12_reachBy_14 σ) ez_N) h0 x3 x4 x5 = some z → lv_has ls 8 [(0, .ref (B + h0)), (3, .int x3), (4, .int x4), (5, .int x5)] → W p l e R s m args below meth c H locs 0 0 Q (F0 m 14 ls []) := ez_fix_ind (fun k_14 : Nat → Int32 → Int32 → Int32 → Option (Int32) => ∀ (h0 : Nat) (x3 : Int32) (x4 : Int32) (x5 : Int32) (H : Heap) (locs : List Loc) (ls : Array Slot), ez_S X B s.heap (n0) σ H locs → k_14 h0 x3 x4 x5 = some z → lv_has ls 8 [(0, .ref (B + h0)), (3, .int x3), (4, .int x4), (5, .int x5)] → W p l e R s m args below meth c H locs 0 0 Q (F0 m 14 ls [])) (fun _ _ _ _ _ _ _ _ h _ => by cases h) (fun k_14 hk_14 => K_14 k_14 hk_14) ez_N
  refine lv_aload_n hx hb dX12_reachBy_0 rfl (lv_at hl 0 rfl) ?_
  refine lv_iload_n hx hb dX12_reachBy_1 rfl (lv_at hl 2 rfl) ?_
  refine ez_cVpi (As := [.int x2]) (rest := []) h (fun _ q => c_X12_locksWith q) hC k_X12_locksWith ql_RX12_571 rfl (by decide) hS (fun _ q => ez_rcv q) rfl hl.1 rfl (Nat.le_of_ble_eq_true rfl) ⟨Nat.zero_le _, Nat.zero_le _⟩ dX12_reachBy_2 (fun t_2 H locs hS h => ?_)
  refine lv_istore_n (lv' := [(3, .int t_2), (0, .ref (B + h0)), (1, .int x1), (2, .int x2)]) hx hb dX12_reachBy_5 rfl hl (by decide) rfl (fun ls hl => ?_)
  refine lv_iconst (v := 1) hx hb dX12_reachBy_6 (by decide) ?_
  refine lv_iload_n hx hb dX12_reachBy_7 rfl (lv_at hl 2 rfl) ?_
  refine lv_ishl hx hb dX12_reachBy_8 ?_
  refine ez_top h (fun t_8 h => ?_)
  refine lv_istore (lv' := [(4, .int t_8), (3, .int t_2), (0, .ref (B + h0)), (1, .int x1), (2, .int x2)]) hx hb dX12_reachBy_9 hl (by decide) rfl (fun ls hl => ?_)
  refine lv_iconst (v := 0) hx hb dX12_reachBy_11 (by decide) ?_
  refine lv_istore (lv' := [(5, .int 0), (4, .int t_8), (3, .int t_2), (0, .ref (B + h0)), (1, .int x1), (2, .int x2)]) hx hb dX12_reachBy_12 hl (by decide) rfl (fun ls hl => ?_)
  exact E_14  h0 t_2 t_8 (0 : Int32) _ _ _ hS h (lv_sub hl [3, 2, 1, 0] rfl)
set_option maxHeartbeats 4000000 in
set_option maxRecDepth 100000 in
theorem c_X12_reachOf {l : Launch} {X : ez_X} {B : Nat} {σ : ez_H} {h0 : Nat} {x1 : Int32} {z : Int32} (h : z_X12_reachOf σ h0 x1 = some z) : ez_M l X B σ yX12_reachOf cX12_reachOf 2 (some .int) 6 [.ref (B + h0), .int x1] (some (.int z)) σ := by
  refine ez_startip (z := z) (by decide) (Nat.le_of_ble_eq_true rfl) (fun p e R s m args below meth c Q hC hret hS ls hl => ?_)
  have hC : ez_C p R s m args c X B RX12 cX12_reachOf 2 6 := hC
  have hx := hC.1.1
  have hb := hC.1.2.1
  have hown := hC.1.2.2.2.1
  have hts := hC.1.2.2.2.2
  have hl : lv_has ls 2 [(0, .ref (B + h0)), (1, .int x1)] := hl
  obtain ⟨n0, e0⟩ : ∃ n0 : Nat, n0 = σ.length := ⟨_, rfl⟩
  rw [← e0] at hret hS
  obtain ⟨-, h⟩ := ez_in h
  refine lv_aload_n hx hb dX12_reachOf_0 rfl (lv_at hl 0 rfl) ?_
  refine lv_aload_n hx hb dX12_reachOf_1 rfl (lv_at hl 0 rfl) ?_
  refine eg_RX12_118 hC hS h dX12_reachOf_2 (fun t_2 h => ?_)
  refine lv_bipush (v := 86) hx hb dX12_reachOf_5 (by decide) ?_
  refine lv_iload_n hx hb dX12_reachOf_7 rfl (lv_at hl 1 rfl) ?_
  refine lv_iadd hx hb dX12_reachOf_8 ?_
  refine ez_top h (fun t_8 h => ?_)
  refine ez_ial hC hS h dX12_reachOf_9 (fun t_9 h => ?_)
  refine lv_aload_n hx hb dX12_reachOf_10 rfl (lv_at hl 0 rfl) ?_
  refine lv_iload_n hx hb dX12_reachOf_11 rfl (lv_at hl 1 rfl) ?_
  refine ez_cVpi (As := [.int x1]) (rest := [.int t_9, .ref (B + h0)]) h (fun _ q => c_X12_keysOf q) hC k_X12_keysOf ql_RX12_498 rfl (by decide) hS (fun _ q => ez_rcv q) rfl hl.1 rfl (Nat.le_of_ble_eq_true rfl) ⟨Nat.zero_le _, Nat.zero_le _⟩ dX12_reachOf_12 (fun t_12 H locs hS h => ?_)
  refine ez_cVpi (As := [.int t_9, .int t_12]) (rest := []) h (fun _ q => c_X12_reachBy q) hC k_X12_reachBy ql_RX12_574 rfl (by decide) hS (fun _ q => ez_rcv q) rfl hl.1 rfl (Nat.le_of_ble_eq_true rfl) ⟨Nat.zero_le _, Nat.zero_le _⟩ dX12_reachOf_15 (fun t_15 H locs hS h => ?_)
  exact hret _ _ _ _ _ (Option.some.inj h) rfl hS dX12_reachOf_18
set_option maxHeartbeats 4000000 in
set_option maxRecDepth 100000 in
theorem c_X12_barred {l : Launch} {X : ez_X} {B : Nat} {σ : ez_H} {h0 : Nat} {z : Int32} (h : z_X12_barred σ h0 = some z) : ez_M l X B σ yX12_barred cX12_barred 3 (some .int) 7 [.ref (B + h0)] (some (.int z)) σ := by
  refine ez_startip (z := z) (by decide) (Nat.le_of_ble_eq_true rfl) (fun p e R s m args below meth c Q hC hret hS ls hl => ?_)
  have hC : ez_C p R s m args c X B RX12 cX12_barred 3 7 := hC
  have hx := hC.1.1
  have hb := hC.1.2.1
  have hown := hC.1.2.2.2.1
  have hts := hC.1.2.2.2.2
  have hl : lv_has ls 3 [(0, .ref (B + h0))] := hl
  obtain ⟨n0, e0⟩ : ∃ n0 : Nat, n0 = σ.length := ⟨_, rfl⟩
  rw [← e0] at hret hS
  obtain ⟨-, h⟩ := ez_in h
  have K_16 : ∀ (k_16 : Nat → Int32 → Int32 → Option (Int32)) (hk_16 : ∀ (h0 : Nat) (x1 : Int32) (x2 : Int32) (H : Heap) (locs : List Loc) (ls : Array Slot), ez_S X B s.heap (n0) σ H locs → k_16 h0 x1 x2 = some z → lv_has ls 3 [(0, .ref (B + h0)), (1, .int x1), (2, .int x2)] → W p l e R s m args below meth c H locs 0 0 Q (F0 m 16 ls [])), ∀ (h0 : Nat) (x1 : Int32) (x2 : Int32) (H : Heap) (locs : List Loc) (ls : Array Slot), ez_S X B s.heap (n0) σ H locs → z_X12_barred_16 σ k_16 h0 x1 x2 = some z → lv_has ls 3 [(0, .ref (B + h0)), (1, .int x1), (2, .int x2)] → W p l e R s m args below meth c H locs 0 0 Q (F0 m 16 ls []) := by
    intro k_16 hk_16 h0 x1 x2 H locs ls hS h hl
    refine lv_iload_n hx hb dX12_barred_16 rfl (lv_at hl 2 rfl) ?_
    refine lv_aload_n hx hb dX12_barred_17 rfl (lv_at hl 0 rfl) ?_
    refine eg_RX12_42 hC hS h dX12_barred_18 (fun t_18 h => ?_)
    refine lv_aload_n hx hb dX12_barred_21 rfl (lv_at hl 0 rfl) ?_
    refine eg_RX12_274 hC hS h dX12_barred_22 (fun t_22 h => ?_)
    refine ez_ial hC hS h dX12_barred_25 (fun t_25 h => ?_)
    refine lv_icmp_ge (tgt := 45) hx hb dX12_barred_26 (by decide) (fun c_26 => ?_) (fun c_26 => ?_)
    · replace h := ez_ifp h c_26
      refine lv_iload_n hx hb dX12_barred_45 rfl (lv_at hl 1 rfl) ?_
      exact hret _ _ _ _ _ (Option.some.inj h) rfl hS dX12_barred_46
    · replace h := ez_ifn h c_26
      refine lv_iload_n hx hb dX12_barred_29 rfl (lv_at hl 1 rfl) ?_
      refine lv_aload_n hx hb dX12_barred_30 rfl (lv_at hl 0 rfl) ?_
      refine lv_iload_n hx hb dX12_barred_31 rfl (lv_at hl 2 rfl) ?_
      refine ez_cVpi (As := [.int x2]) (rest := [.int x1]) h (fun _ q => c_X12_reachOf q) hC k_X12_reachOf ql_RX12_501 rfl (by decide) hS (fun _ q => ez_rcv q) rfl hl.1 rfl (Nat.le_of_ble_eq_true rfl) ⟨Nat.zero_le _, Nat.zero_le _⟩ dX12_barred_32 (fun t_32 H locs hS h => ?_)
      refine lv_iconst (v := -1) hx hb dX12_barred_35 (by decide) ?_
      refine lv_ixor hx hb dX12_barred_36 ?_
      refine ez_top h (fun t_36 h => ?_)
      refine lv_iand hx hb dX12_barred_37 ?_
      refine ez_top h (fun t_37 h => ?_)
      refine lv_istore_n (lv' := [(1, .int t_37), (0, .ref (B + h0)), (2, .int x2)]) hx hb dX12_barred_38 rfl hl (by decide) rfl (fun ls hl => ?_)
      obtain ⟨t_39, e_39, h⟩ := ez_let_sp h
      refine lv_iinc (v := t_39) (lv' := [(2, .int t_39), (1, .int t_37), (0, .ref (B + h0))]) hx hb dX12_barred_39 hl (k := 2) rfl (by rw [e_39]; rfl) (by decide) rfl (fun ls hl => ?_)
      refine lv_goto (tgt := 16) hx hb dX12_barred_42 (by decide) ?_
      exact hk_16 h0 t_37 t_39 _ _ _ hS h (lv_sub hl [2, 1, 0] rfl)
  have E_16 : ∀ (h0 : Nat) (x1 : Int32) (x2 : Int32) (H : Heap) (locs : List Loc) (ls : Array Slot), ez_S X B s.heap (n0) σ H locs → (ez_fix (fun _ _ _ => none) (z_X12_barred_16 σ) ez_N) h0 x1 x2 = some z → lv_has ls 3 [(0, .ref (B + h0)), (1, .int x1), (2, .int x2)] → W p l e R s m args below meth c H locs 0 0 Q (F0 m 16 ls []) := ez_fix_ind (fun k_16 : Nat → Int32 → Int32 → Option (Int32) => ∀ (h0 : Nat) (x1 : Int32) (x2 : Int32) (H : Heap) (locs : List Loc) (ls : Array Slot), ez_S X B s.heap (n0) σ H locs → k_16 h0 x1 x2 = some z → lv_has ls 3 [(0, .ref (B + h0)), (1, .int x1), (2, .int x2)] → W p l e R s m args below meth c H locs 0 0 Q (F0 m 16 ls [])) (fun _ _ _ _ _ _ _ h _ => by cases h) (fun k_16 hk_16 => K_16 k_16 hk_16) ez_N
  refine lv_iconst (v := 1) hx hb dX12_barred_0 (by decide) ?_
  refine lv_aload_n hx hb dX12_barred_1 rfl (lv_at hl 0 rfl) ?_
  refine eg_RX12_36 hC hS h dX12_barred_2 (fun t_2 h => ?_)
  refine lv_aload_n hx hb dX12_barred_5 rfl (lv_at hl 0 rfl) ?_
  refine eg_RX12_274 hC hS h dX12_barred_6 (fun t_6 h => ?_)
  refine ez_ial hC hS h dX12_barred_9 (fun t_9 h => ?_)
  refine lv_ishl hx hb dX12_barred_10 ?_
  refine ez_top h (fun t_10 h => ?_)
  refine lv_iconst (v := 1) hx hb dX12_barred_11 (by decide) ?_
  refine lv_isub hx hb dX12_barred_12 ?_
  refine ez_top h (fun t_12 h => ?_)
  refine lv_istore_n (lv' := [(1, .int t_12), (0, .ref (B + h0))]) hx hb dX12_barred_13 rfl hl (by decide) rfl (fun ls hl => ?_)
  refine lv_iconst (v := 0) hx hb dX12_barred_14 (by decide) ?_
  refine lv_istore_n (lv' := [(2, .int 0), (1, .int t_12), (0, .ref (B + h0))]) hx hb dX12_barred_15 rfl hl (by decide) rfl (fun ls hl => ?_)
  exact E_16  h0 t_12 (0 : Int32) _ _ _ hS h (lv_sub hl [2, 1, 0] rfl)
set_option maxHeartbeats 4000000 in
set_option maxRecDepth 100000 in
theorem c_X12_openedBy {l : Launch} {X : ez_X} {B : Nat} {σ : ez_H} {h0 : Nat} {x1 : Int32} {z : Int32} (h : z_X12_openedBy σ h0 x1 = some z) : ez_M l X B σ yX12_openedBy cX12_openedBy 4 (some .int) 2 [.ref (B + h0), .int x1] (some (.int z)) σ := by
  refine ez_startip (z := z) (by decide) (Nat.le_of_ble_eq_true rfl) (fun p e R s m args below meth c Q hC hret hS ls hl => ?_)
  have hC : ez_C p R s m args c X B RX12 cX12_openedBy 4 2 := hC
  have hx := hC.1.1
  have hb := hC.1.2.1
  have hown := hC.1.2.2.2.1
  have hts := hC.1.2.2.2.2
  have hl : lv_has ls 4 [(0, .ref (B + h0)), (1, .int x1)] := hl
  obtain ⟨n0, e0⟩ : ∃ n0 : Nat, n0 = σ.length := ⟨_, rfl⟩
  rw [← e0] at hret hS
  obtain ⟨-, h⟩ := ez_in h
  have K_27 : ∀ (k_4 : Nat → Int32 → Int32 → Int32 → Option (Int32)) (hk_4 : ∀ (h0 : Nat) (x1 : Int32) (x2 : Int32) (x3 : Int32) (H : Heap) (locs : List Loc) (ls : Array Slot), ez_S X B s.heap (n0) σ H locs → k_4 h0 x1 x2 x3 = some z → lv_has ls 4 [(0, .ref (B + h0)), (1, .int x1), (2, .int x2), (3, .int x3)] → W p l e R s m args below meth c H locs 0 0 Q (F0 m 4 ls [])), ∀ (h0 : Nat) (x1 : Int32) (x2 : Int32) (x3 : Int32) (H : Heap) (locs : List Loc) (ls : Array Slot), ez_S X B s.heap (n0) σ H locs → z_X12_openedBy_27 σ k_4 h0 x1 x2 x3 = some z → lv_has ls 4 [(0, .ref (B + h0)), (1, .int x1), (2, .int x2), (3, .int x3)] → W p l e R s m args below meth c H locs 0 0 Q (F0 m 27 ls []) := by
    intro k_4 hk_4 h0 x1 x2 x3 H locs ls hS h hl
    obtain ⟨t_27, e_27, h⟩ := ez_let_sp h
    refine lv_iinc (v := t_27) (lv' := [(3, .int t_27), (0, .ref (B + h0)), (1, .int x1), (2, .int x2)]) hx hb dX12_openedBy_27 hl (k := 3) rfl (by rw [e_27]; rfl) (by decide) rfl (fun ls hl => ?_)
    refine lv_goto (tgt := 4) hx hb dX12_openedBy_30 (by decide) ?_
    exact hk_4 h0 x1 x2 t_27 _ _ _ hS h (lv_sub hl [1, 2, 3, 0] rfl)
  have K_4 : ∀ (k_4 : Nat → Int32 → Int32 → Int32 → Option (Int32)) (hk_4 : ∀ (h0 : Nat) (x1 : Int32) (x2 : Int32) (x3 : Int32) (H : Heap) (locs : List Loc) (ls : Array Slot), ez_S X B s.heap (n0) σ H locs → k_4 h0 x1 x2 x3 = some z → lv_has ls 4 [(0, .ref (B + h0)), (1, .int x1), (2, .int x2), (3, .int x3)] → W p l e R s m args below meth c H locs 0 0 Q (F0 m 4 ls [])), ∀ (h0 : Nat) (x1 : Int32) (x2 : Int32) (x3 : Int32) (H : Heap) (locs : List Loc) (ls : Array Slot), ez_S X B s.heap (n0) σ H locs → z_X12_openedBy_4 σ k_4 h0 x1 x2 x3 = some z → lv_has ls 4 [(0, .ref (B + h0)), (1, .int x1), (2, .int x2), (3, .int x3)] → W p l e R s m args below meth c H locs 0 0 Q (F0 m 4 ls []) := by
    intro k_4 hk_4 h0 x1 x2 x3 H locs ls hS h hl
    refine lv_iload_n hx hb dX12_openedBy_4 rfl (lv_at hl 3 rfl) ?_
    refine lv_aload_n hx hb dX12_openedBy_5 rfl (lv_at hl 0 rfl) ?_
    refine ez_cVpi (As := []) (rest := [.int x3]) h (fun _ q => c_X12_bolts q) hC k_X12_bolts ql_RX12_411 rfl (by decide) hS (fun _ q => ez_rcv q) rfl hl.1 rfl (Nat.le_of_ble_eq_true rfl) ⟨Nat.zero_le _, Nat.zero_le _⟩ dX12_openedBy_6 (fun t_6 H locs hS h => ?_)
    refine lv_icmp_ge (tgt := 33) hx hb dX12_openedBy_9 (by decide) (fun c_9 => ?_) (fun c_9 => ?_)
    · replace h := ez_ifp h c_9
      refine lv_iload_n hx hb dX12_openedBy_33 rfl (lv_at hl 2 rfl) ?_
      exact hret _ _ _ _ _ (Option.some.inj h) rfl hS dX12_openedBy_34
    · replace h := ez_ifn h c_9
      refine lv_aload_n hx hb dX12_openedBy_12 rfl (lv_at hl 0 rfl) ?_
      refine lv_iload_n hx hb dX12_openedBy_13 rfl (lv_at hl 1 rfl) ?_
      refine lv_iload_n hx hb dX12_openedBy_14 rfl (lv_at hl 3 rfl) ?_
      refine ez_cVpi (As := [.int x1, .int x3]) (rest := []) h (fun _ q => c_X12_doesOpen q) hC k_X12_doesOpen ql_RX12_453 rfl (by decide) hS (fun _ q => ez_rcv q) rfl hl.1 rfl (Nat.le_of_ble_eq_true rfl) ⟨Nat.zero_le _, Nat.zero_le _⟩ dX12_openedBy_15 (fun t_15 H locs hS h => ?_)
      refine lv_if_eq (tgt := 27) hx hb dX12_openedBy_18 (by decide) (fun c_18 => ?_) (fun c_18 => ?_)
      · replace h := ez_ifp h c_18
        exact K_27 k_4 hk_4 h0 x1 x2 x3 _ _ _ hS h (lv_sub hl [0, 1, 2, 3] rfl)
      · replace h := ez_ifn h c_18
        refine lv_iload_n hx hb dX12_openedBy_21 rfl (lv_at hl 2 rfl) ?_
        refine lv_iconst (v := 1) hx hb dX12_openedBy_22 (by decide) ?_
        refine lv_iload_n hx hb dX12_openedBy_23 rfl (lv_at hl 3 rfl) ?_
        refine lv_ishl hx hb dX12_openedBy_24 ?_
        refine ez_top h (fun t_24 h => ?_)
        refine lv_ior hx hb dX12_openedBy_25 ?_
        refine ez_top h (fun t_25 h => ?_)
        refine lv_istore_n (lv' := [(2, .int t_25), (0, .ref (B + h0)), (1, .int x1), (3, .int x3)]) hx hb dX12_openedBy_26 rfl hl (by decide) rfl (fun ls hl => ?_)
        exact K_27 k_4 hk_4 h0 x1 t_25 x3 _ _ _ hS h (lv_sub hl [1, 2, 0, 3] rfl)
  have E_4 : ∀ (h0 : Nat) (x1 : Int32) (x2 : Int32) (x3 : Int32) (H : Heap) (locs : List Loc) (ls : Array Slot), ez_S X B s.heap (n0) σ H locs → (ez_fix (fun _ _ _ _ => none) (z_X12_openedBy_4 σ) ez_N) h0 x1 x2 x3 = some z → lv_has ls 4 [(0, .ref (B + h0)), (1, .int x1), (2, .int x2), (3, .int x3)] → W p l e R s m args below meth c H locs 0 0 Q (F0 m 4 ls []) := ez_fix_ind (fun k_4 : Nat → Int32 → Int32 → Int32 → Option (Int32) => ∀ (h0 : Nat) (x1 : Int32) (x2 : Int32) (x3 : Int32) (H : Heap) (locs : List Loc) (ls : Array Slot), ez_S X B s.heap (n0) σ H locs → k_4 h0 x1 x2 x3 = some z → lv_has ls 4 [(0, .ref (B + h0)), (1, .int x1), (2, .int x2), (3, .int x3)] → W p l e R s m args below meth c H locs 0 0 Q (F0 m 4 ls [])) (fun _ _ _ _ _ _ _ _ h _ => by cases h) (fun k_4 hk_4 => K_4 k_4 hk_4) ez_N
  refine lv_iconst (v := 0) hx hb dX12_openedBy_0 (by decide) ?_
  refine lv_istore_n (lv' := [(2, .int 0), (0, .ref (B + h0)), (1, .int x1)]) hx hb dX12_openedBy_1 rfl hl (by decide) rfl (fun ls hl => ?_)
  refine lv_iconst (v := 0) hx hb dX12_openedBy_2 (by decide) ?_
  refine lv_istore_n (lv' := [(3, .int 0), (2, .int 0), (0, .ref (B + h0)), (1, .int x1)]) hx hb dX12_openedBy_3 rfl hl (by decide) rfl (fun ls hl => ?_)
  exact E_4  h0 x1 (0 : Int32) (0 : Int32) _ _ _ hS h (lv_sub hl [2, 3, 1, 0] rfl)
set_option maxHeartbeats 4000000 in
set_option maxRecDepth 100000 in
theorem c_X12_best {l : Launch} {X : ez_X} {B : Nat} {σ : ez_H} {h0 : Nat} {z : Int32} (h : z_X12_best σ h0 = some z) : ez_M l X B σ yX12_best cX12_best 3 (some .int) 3 [.ref (B + h0)] (some (.int z)) σ := by
  refine ez_startip (z := z) (by decide) (Nat.le_of_ble_eq_true rfl) (fun p e R s m args below meth c Q hC hret hS ls hl => ?_)
  have hC : ez_C p R s m args c X B RX12 cX12_best 3 3 := hC
  have hx := hC.1.1
  have hb := hC.1.2.1
  have hown := hC.1.2.2.2.1
  have hts := hC.1.2.2.2.2
  have hl : lv_has ls 3 [(0, .ref (B + h0))] := hl
  obtain ⟨n0, e0⟩ : ∃ n0 : Nat, n0 = σ.length := ⟨_, rfl⟩
  rw [← e0] at hret hS
  obtain ⟨-, h⟩ := ez_in h
  have K_45 : ∀ (k_4 : Nat → Int32 → Int32 → Option (Int32)) (hk_4 : ∀ (h0 : Nat) (x1 : Int32) (x2 : Int32) (H : Heap) (locs : List Loc) (ls : Array Slot), ez_S X B s.heap (n0) σ H locs → k_4 h0 x1 x2 = some z → lv_has ls 3 [(0, .ref (B + h0)), (1, .int x1), (2, .int x2)] → W p l e R s m args below meth c H locs 0 0 Q (F0 m 4 ls [])), ∀ (h0 : Nat) (x1 : Int32) (x2 : Int32) (H : Heap) (locs : List Loc) (ls : Array Slot), ez_S X B s.heap (n0) σ H locs → z_X12_best_45 σ k_4 h0 x1 x2 = some z → lv_has ls 3 [(0, .ref (B + h0)), (1, .int x1), (2, .int x2)] → W p l e R s m args below meth c H locs 0 0 Q (F0 m 45 ls []) := by
    intro k_4 hk_4 h0 x1 x2 H locs ls hS h hl
    obtain ⟨t_45, e_45, h⟩ := ez_let_sp h
    refine lv_iinc (v := t_45) (lv' := [(2, .int t_45), (0, .ref (B + h0)), (1, .int x1)]) hx hb dX12_best_45 hl (k := 2) rfl (by rw [e_45]; rfl) (by decide) rfl (fun ls hl => ?_)
    refine lv_goto (tgt := 4) hx hb dX12_best_48 (by decide) ?_
    exact hk_4 h0 x1 t_45 _ _ _ hS h (lv_sub hl [1, 2, 0] rfl)
  have K_43 : ∀ (k_4 : Nat → Int32 → Int32 → Option (Int32)) (hk_4 : ∀ (h0 : Nat) (x1 : Int32) (x2 : Int32) (H : Heap) (locs : List Loc) (ls : Array Slot), ez_S X B s.heap (n0) σ H locs → k_4 h0 x1 x2 = some z → lv_has ls 3 [(0, .ref (B + h0)), (1, .int x1), (2, .int x2)] → W p l e R s m args below meth c H locs 0 0 Q (F0 m 4 ls [])), ∀ (h0 : Nat) (x2 : Int32) (H : Heap) (locs : List Loc) (ls : Array Slot), ez_S X B s.heap (n0) σ H locs → z_X12_best_43 σ k_4 h0 x2 = some z → lv_has ls 3 [(0, .ref (B + h0)), (2, .int x2)] → W p l e R s m args below meth c H locs 0 0 Q (F0 m 43 ls []) := by
    intro k_4 hk_4 h0 x2 H locs ls hS h hl
    refine lv_iload_n hx hb dX12_best_43 rfl (lv_at hl 1 rfl) ?_
    refine lv_istore_n (lv' := [(1, .int x2), (0, .ref (B + h0)), (2, .int x2)]) hx hb dX12_best_44 rfl hl (by decide) rfl (fun ls hl => ?_)
    exact K_45 k_4 hk_4 h0 x2 x2 _ _ _ hS h (lv_sub hl [1, 0, 2] rfl)
  have K_4 : ∀ (k_4 : Nat → Int32 → Int32 → Option (Int32)) (hk_4 : ∀ (h0 : Nat) (x1 : Int32) (x2 : Int32) (H : Heap) (locs : List Loc) (ls : Array Slot), ez_S X B s.heap (n0) σ H locs → k_4 h0 x1 x2 = some z → lv_has ls 3 [(0, .ref (B + h0)), (1, .int x1), (2, .int x2)] → W p l e R s m args below meth c H locs 0 0 Q (F0 m 4 ls [])), ∀ (h0 : Nat) (x1 : Int32) (x2 : Int32) (H : Heap) (locs : List Loc) (ls : Array Slot), ez_S X B s.heap (n0) σ H locs → z_X12_best_4 σ k_4 h0 x1 x2 = some z → lv_has ls 3 [(0, .ref (B + h0)), (1, .int x1), (2, .int x2)] → W p l e R s m args below meth c H locs 0 0 Q (F0 m 4 ls []) := by
    intro k_4 hk_4 h0 x1 x2 H locs ls hS h hl
    refine lv_iload_n hx hb dX12_best_4 rfl (lv_at hl 2 rfl) ?_
    refine lv_aload_n hx hb dX12_best_5 rfl (lv_at hl 0 rfl) ?_
    refine ez_cVpi (As := []) (rest := [.int x2]) h (fun _ q => c_X12_many q) hC k_X12_many ql_RX12_404 rfl (by decide) hS (fun _ q => ez_rcv q) rfl hl.1 rfl (Nat.le_of_ble_eq_true rfl) ⟨Nat.zero_le _, Nat.zero_le _⟩ dX12_best_6 (fun t_6 H locs hS h => ?_)
    refine lv_icmp_ge (tgt := 51) hx hb dX12_best_9 (by decide) (fun c_9 => ?_) (fun c_9 => ?_)
    · replace h := ez_ifp h c_9
      refine lv_iload_n hx hb dX12_best_51 rfl (lv_at hl 1 rfl) ?_
      exact hret _ _ _ _ _ (Option.some.inj h) rfl hS dX12_best_52
    · replace h := ez_ifn h c_9
      refine lv_iload_n hx hb dX12_best_12 rfl (lv_at hl 1 rfl) ?_
      refine lv_if_lt (tgt := 43) hx hb dX12_best_13 (by decide) (fun c_13 => ?_) (fun c_13 => ?_)
      · replace h := ez_ifp h c_13
        exact K_43 k_4 hk_4 h0 x2 _ _ _ hS h (lv_sub hl [0, 2] rfl)
      · replace h := ez_ifn h c_13
        refine lv_aload_n hx hb dX12_best_16 rfl (lv_at hl 0 rfl) ?_
        refine lv_aload_n hx hb dX12_best_17 rfl (lv_at hl 0 rfl) ?_
        refine lv_iload_n hx hb dX12_best_18 rfl (lv_at hl 2 rfl) ?_
        refine ez_cVpi (As := [.int x2]) (rest := [.ref (B + h0)]) h (fun _ q => c_X12_numberOf q) hC k_X12_numberOf ql_RX12_450 rfl (by decide) hS (fun _ q => ez_rcv q) rfl hl.1 rfl (Nat.le_of_ble_eq_true rfl) ⟨Nat.zero_le _, Nat.zero_le _⟩ dX12_best_19 (fun t_19 H locs hS h => ?_)
        refine ez_cVpi (As := [.int t_19]) (rest := []) h (fun _ q => c_X12_openedBy q) hC k_X12_openedBy ql_RX12_459 rfl (by decide) hS (fun _ q => ez_rcv q) rfl hl.1 rfl (Nat.le_of_ble_eq_true rfl) ⟨Nat.zero_le _, Nat.zero_le _⟩ dX12_best_22 (fun t_22 H locs hS h => ?_)
        refine ez_cSpi (As := [.int t_22]) (rest := []) h (fun _ q => c_X12_bitsOf q) hC k_X12_bitsOf ql_RX12_471 rfl (by decide) hS hl.1 rfl (Nat.le_of_ble_eq_true rfl) ⟨Nat.zero_le _, Nat.zero_le _⟩ dX12_best_25 (fun t_25 H locs hS h => ?_)
        refine lv_aload_n hx hb dX12_best_28 rfl (lv_at hl 0 rfl) ?_
        refine lv_aload_n hx hb dX12_best_29 rfl (lv_at hl 0 rfl) ?_
        refine lv_iload_n hx hb dX12_best_30 rfl (lv_at hl 1 rfl) ?_
        refine ez_cVpi (As := [.int x1]) (rest := [.ref (B + h0), .int t_25]) h (fun _ q => c_X12_numberOf q) hC k_X12_numberOf ql_RX12_450 rfl (by decide) hS (fun _ q => ez_rcv q) rfl hl.1 rfl (Nat.le_of_ble_eq_true rfl) ⟨Nat.zero_le _, Nat.zero_le _⟩ dX12_best_31 (fun t_31 H locs hS h => ?_)
        refine ez_cVpi (As := [.int t_31]) (rest := [.int t_25]) h (fun _ q => c_X12_openedBy q) hC k_X12_openedBy ql_RX12_459 rfl (by decide) hS (fun _ q => ez_rcv q) rfl hl.1 rfl (Nat.le_of_ble_eq_true rfl) ⟨Nat.zero_le _, Nat.zero_le _⟩ dX12_best_34 (fun t_34 H locs hS h => ?_)
        refine ez_cSpi (As := [.int t_34]) (rest := [.int t_25]) h (fun _ q => c_X12_bitsOf q) hC k_X12_bitsOf ql_RX12_471 rfl (by decide) hS hl.1 rfl (Nat.le_of_ble_eq_true rfl) ⟨Nat.zero_le _, Nat.zero_le _⟩ dX12_best_37 (fun t_37 H locs hS h => ?_)
        refine lv_icmp_le (tgt := 45) hx hb dX12_best_40 (by decide) (fun c_40 => ?_) (fun c_40 => ?_)
        · replace h := ez_ifp h c_40
          exact K_45 k_4 hk_4 h0 x1 x2 _ _ _ hS h (lv_sub hl [0, 1, 2] rfl)
        · replace h := ez_ifn h c_40
          exact K_43 k_4 hk_4 h0 x2 _ _ _ hS h (lv_sub hl [0, 2] rfl)
  have E_4 : ∀ (h0 : Nat) (x1 : Int32) (x2 : Int32) (H : Heap) (locs : List Loc) (ls : Array Slot), ez_S X B s.heap (n0) σ H locs → (ez_fix (fun _ _ _ => none) (z_X12_best_4 σ) ez_N) h0 x1 x2 = some z → lv_has ls 3 [(0, .ref (B + h0)), (1, .int x1), (2, .int x2)] → W p l e R s m args below meth c H locs 0 0 Q (F0 m 4 ls []) := ez_fix_ind (fun k_4 : Nat → Int32 → Int32 → Option (Int32) => ∀ (h0 : Nat) (x1 : Int32) (x2 : Int32) (H : Heap) (locs : List Loc) (ls : Array Slot), ez_S X B s.heap (n0) σ H locs → k_4 h0 x1 x2 = some z → lv_has ls 3 [(0, .ref (B + h0)), (1, .int x1), (2, .int x2)] → W p l e R s m args below meth c H locs 0 0 Q (F0 m 4 ls [])) (fun _ _ _ _ _ _ _ h _ => by cases h) (fun k_4 hk_4 => K_4 k_4 hk_4) ez_N
  refine lv_iconst (v := -1) hx hb dX12_best_0 (by decide) ?_
  refine lv_istore_n (lv' := [(1, .int (-1)), (0, .ref (B + h0))]) hx hb dX12_best_1 rfl hl (by decide) rfl (fun ls hl => ?_)
  refine lv_iconst (v := 0) hx hb dX12_best_2 (by decide) ?_
  refine lv_istore_n (lv' := [(2, .int 0), (1, .int (-1)), (0, .ref (B + h0))]) hx hb dX12_best_3 rfl hl (by decide) rfl (fun ls hl => ?_)
  exact E_4  h0 (-1 : Int32) (0 : Int32) _ _ _ hS h (lv_sub hl [2, 1, 0] rfl)
set_option maxHeartbeats 4000000 in
set_option maxRecDepth 100000 in
theorem c_X12_bitting {l : Launch} {X : ez_X} {B : Nat} {σ : ez_H} {h0 : Nat} {x1 : Int32} {z : Int32} (h : z_X12_bitting σ h0 x1 = some z) : ez_M l X B σ yX12_bitting cX12_bitting 4 (some .int) 3 [.ref (B + h0), .int x1] (some (.int z)) σ := by
  refine ez_startip (z := z) (by decide) (Nat.le_of_ble_eq_true rfl) (fun p e R s m args below meth c Q hC hret hS ls hl => ?_)
  have hC : ez_C p R s m args c X B RX12 cX12_bitting 4 3 := hC
  have hx := hC.1.1
  have hb := hC.1.2.1
  have hown := hC.1.2.2.2.1
  have hts := hC.1.2.2.2.2
  have hl : lv_has ls 4 [(0, .ref (B + h0)), (1, .int x1)] := hl
  obtain ⟨n0, e0⟩ : ∃ n0 : Nat, n0 = σ.length := ⟨_, rfl⟩
  rw [← e0] at hret hS
  obtain ⟨-, h⟩ := ez_in h
  have K_42 : ∀ (H : Heap) (locs : List Loc) (ls : Array Slot), ez_S X B s.heap (n0) σ H locs → z_X12_bitting_42 σ = some z → lv_has ls 4 [] → W p l e R s m args below meth c H locs 0 0 Q (F0 m 42 ls []) := by
    intro  H locs ls hS h hl
    refine lv_iconst (v := -1) hx hb dX12_bitting_42 (by decide) ?_
    exact hret _ _ _ _ _ (Option.some.inj h) rfl hS dX12_bitting_43
  have K_36 : ∀ (k_4 : Nat → Int32 → Int32 → Int32 → Option (Int32)) (hk_4 : ∀ (h0 : Nat) (x1 : Int32) (x2 : Int32) (x3 : Int32) (H : Heap) (locs : List Loc) (ls : Array Slot), ez_S X B s.heap (n0) σ H locs → k_4 h0 x1 x2 x3 = some z → lv_has ls 4 [(0, .ref (B + h0)), (1, .int x1), (2, .int x2), (3, .int x3)] → W p l e R s m args below meth c H locs 0 0 Q (F0 m 4 ls [])), ∀ (h0 : Nat) (x1 : Int32) (x2 : Int32) (x3 : Int32) (H : Heap) (locs : List Loc) (ls : Array Slot), ez_S X B s.heap (n0) σ H locs → z_X12_bitting_36 σ k_4 h0 x1 x2 x3 = some z → lv_has ls 4 [(0, .ref (B + h0)), (1, .int x1), (2, .int x2), (3, .int x3)] → W p l e R s m args below meth c H locs 0 0 Q (F0 m 36 ls []) := by
    intro k_4 hk_4 h0 x1 x2 x3 H locs ls hS h hl
    obtain ⟨t_36, e_36, h⟩ := ez_let_sp h
    refine lv_iinc (v := t_36) (lv' := [(3, .int t_36), (0, .ref (B + h0)), (1, .int x1), (2, .int x2)]) hx hb dX12_bitting_36 hl (k := 3) rfl (by rw [e_36]; rfl) (by decide) rfl (fun ls hl => ?_)
    refine lv_goto (tgt := 4) hx hb dX12_bitting_39 (by decide) ?_
    exact hk_4 h0 x1 x2 t_36 _ _ _ hS h (lv_sub hl [1, 2, 3, 0] rfl)
  have K_4 : ∀ (k_4 : Nat → Int32 → Int32 → Int32 → Option (Int32)) (hk_4 : ∀ (h0 : Nat) (x1 : Int32) (x2 : Int32) (x3 : Int32) (H : Heap) (locs : List Loc) (ls : Array Slot), ez_S X B s.heap (n0) σ H locs → k_4 h0 x1 x2 x3 = some z → lv_has ls 4 [(0, .ref (B + h0)), (1, .int x1), (2, .int x2), (3, .int x3)] → W p l e R s m args below meth c H locs 0 0 Q (F0 m 4 ls [])), ∀ (h0 : Nat) (x1 : Int32) (x2 : Int32) (x3 : Int32) (H : Heap) (locs : List Loc) (ls : Array Slot), ez_S X B s.heap (n0) σ H locs → z_X12_bitting_4 σ k_4 h0 x1 x2 x3 = some z → lv_has ls 4 [(0, .ref (B + h0)), (1, .int x1), (2, .int x2), (3, .int x3)] → W p l e R s m args below meth c H locs 0 0 Q (F0 m 4 ls []) := by
    intro k_4 hk_4 h0 x1 x2 x3 H locs ls hS h hl
    refine lv_iload_n hx hb dX12_bitting_4 rfl (lv_at hl 3 rfl) ?_
    refine lv_aload_n hx hb dX12_bitting_5 rfl (lv_at hl 0 rfl) ?_
    refine ez_cVpi (As := []) (rest := [.int x3]) h (fun _ q => c_X12_bittings q) hC k_X12_bittings ql_RX12_438 rfl (by decide) hS (fun _ q => ez_rcv q) rfl hl.1 rfl (Nat.le_of_ble_eq_true rfl) ⟨Nat.zero_le _, Nat.zero_le _⟩ dX12_bitting_6 (fun t_6 H locs hS h => ?_)
    refine lv_icmp_ge (tgt := 42) hx hb dX12_bitting_9 (by decide) (fun c_9 => ?_) (fun c_9 => ?_)
    · replace h := ez_ifp h c_9
      exact K_42   _ _ _ hS h (lv_sub hl [] rfl)
    · replace h := ez_ifn h c_9
      refine lv_iload_n hx hb dX12_bitting_12 rfl (lv_at hl 1 rfl) ?_
      refine lv_if_lt (tgt := 42) hx hb dX12_bitting_13 (by decide) (fun c_13 => ?_) (fun c_13 => ?_)
      · replace h := ez_ifp h c_13
        exact K_42   _ _ _ hS h (lv_sub hl [] rfl)
      · replace h := ez_ifn h c_13
        refine lv_aload_n hx hb dX12_bitting_16 rfl (lv_at hl 0 rfl) ?_
        refine lv_iload_n hx hb dX12_bitting_17 rfl (lv_at hl 3 rfl) ?_
        refine ez_cVpi (As := [.int x3]) (rest := []) h (fun _ q => c_X12_isLegal q) hC k_X12_isLegal ql_RX12_456 rfl (by decide) hS (fun _ q => ez_rcv q) rfl hl.1 rfl (Nat.le_of_ble_eq_true rfl) ⟨Nat.zero_le _, Nat.zero_le _⟩ dX12_bitting_18 (fun t_18 H locs hS h => ?_)
        refine lv_if_ne (tgt := 27) hx hb dX12_bitting_21 (by decide) (fun c_21 => ?_) (fun c_21 => ?_)
        · replace h := ez_ifn h c_21
          refine lv_iload_n hx hb dX12_bitting_27 rfl (lv_at hl 2 rfl) ?_
          refine lv_if_ne (tgt := 33) hx hb dX12_bitting_28 (by decide) (fun c_28 => ?_) (fun c_28 => ?_)
          · replace h := ez_ifn h c_28
            obtain ⟨t_33, e_33, h⟩ := ez_let_sp h
            refine lv_iinc (v := t_33) (lv' := [(2, .int t_33), (0, .ref (B + h0)), (1, .int x1), (3, .int x3)]) hx hb dX12_bitting_33 hl (k := 2) rfl (by rw [e_33]; rfl) (by decide) rfl (fun ls hl => ?_)
            exact K_36 k_4 hk_4 h0 x1 t_33 x3 _ _ _ hS h (lv_sub hl [1, 2, 0, 3] rfl)
          · replace h := ez_ifp h c_28
            refine lv_iload_n hx hb dX12_bitting_31 rfl (lv_at hl 3 rfl) ?_
            exact hret _ _ _ _ _ (Option.some.inj h) rfl hS dX12_bitting_32
        · replace h := ez_ifp h c_21
          refine lv_goto (tgt := 36) hx hb dX12_bitting_24 (by decide) ?_
          exact K_36 k_4 hk_4 h0 x1 x2 x3 _ _ _ hS h (lv_sub hl [0, 1, 2, 3] rfl)
  have E_4 : ∀ (h0 : Nat) (x1 : Int32) (x2 : Int32) (x3 : Int32) (H : Heap) (locs : List Loc) (ls : Array Slot), ez_S X B s.heap (n0) σ H locs → (ez_fix (fun _ _ _ _ => none) (z_X12_bitting_4 σ) ez_N) h0 x1 x2 x3 = some z → lv_has ls 4 [(0, .ref (B + h0)), (1, .int x1), (2, .int x2), (3, .int x3)] → W p l e R s m args below meth c H locs 0 0 Q (F0 m 4 ls []) := ez_fix_ind (fun k_4 : Nat → Int32 → Int32 → Int32 → Option (Int32) => ∀ (h0 : Nat) (x1 : Int32) (x2 : Int32) (x3 : Int32) (H : Heap) (locs : List Loc) (ls : Array Slot), ez_S X B s.heap (n0) σ H locs → k_4 h0 x1 x2 x3 = some z → lv_has ls 4 [(0, .ref (B + h0)), (1, .int x1), (2, .int x2), (3, .int x3)] → W p l e R s m args below meth c H locs 0 0 Q (F0 m 4 ls [])) (fun _ _ _ _ _ _ _ _ h _ => by cases h) (fun k_4 hk_4 => K_4 k_4 hk_4) ez_N
  refine lv_iload_n hx hb dX12_bitting_0 rfl (lv_at hl 1 rfl) ?_
  refine lv_istore_n (lv' := [(2, .int x1), (0, .ref (B + h0)), (1, .int x1)]) hx hb dX12_bitting_1 rfl hl (by decide) rfl (fun ls hl => ?_)
  refine lv_iconst (v := 0) hx hb dX12_bitting_2 (by decide) ?_
  refine lv_istore_n (lv' := [(3, .int 0), (2, .int x1), (0, .ref (B + h0)), (1, .int x1)]) hx hb dX12_bitting_3 rfl hl (by decide) rfl (fun ls hl => ?_)
  exact E_4  h0 x1 x1 (0 : Int32) _ _ _ hS h (lv_sub hl [2, 3, 1, 0] rfl)
set_option maxHeartbeats 4000000 in
set_option maxRecDepth 100000 in
theorem c_X12_blanks {l : Launch} {X : ez_X} {B : Nat} {σ : ez_H} {h0 : Nat} {z : Int32} (h : z_X12_blanks σ h0 = some z) : ez_M l X B σ yX12_blanks cX12_blanks 3 (some .int) 3 [.ref (B + h0)] (some (.int z)) σ := by
  refine ez_startip (z := z) (by decide) (Nat.le_of_ble_eq_true rfl) (fun p e R s m args below meth c Q hC hret hS ls hl => ?_)
  have hC : ez_C p R s m args c X B RX12 cX12_blanks 3 3 := hC
  have hx := hC.1.1
  have hb := hC.1.2.1
  have hown := hC.1.2.2.2.1
  have hts := hC.1.2.2.2.2
  have hl : lv_has ls 3 [(0, .ref (B + h0))] := hl
  obtain ⟨n0, e0⟩ : ∃ n0 : Nat, n0 = σ.length := ⟨_, rfl⟩
  rw [← e0] at hret hS
  obtain ⟨-, h⟩ := ez_in h
  have K_31 : ∀ (k_4 : Nat → Int32 → Int32 → Option (Int32)) (hk_4 : ∀ (h0 : Nat) (x1 : Int32) (x2 : Int32) (H : Heap) (locs : List Loc) (ls : Array Slot), ez_S X B s.heap (n0) σ H locs → k_4 h0 x1 x2 = some z → lv_has ls 3 [(0, .ref (B + h0)), (1, .int x1), (2, .int x2)] → W p l e R s m args below meth c H locs 0 0 Q (F0 m 4 ls [])), ∀ (h0 : Nat) (x1 : Int32) (x2 : Int32) (H : Heap) (locs : List Loc) (ls : Array Slot), ez_S X B s.heap (n0) σ H locs → z_X12_blanks_31 σ k_4 h0 x1 x2 = some z → lv_has ls 3 [(0, .ref (B + h0)), (1, .int x1), (2, .int x2)] → W p l e R s m args below meth c H locs 0 0 Q (F0 m 31 ls []) := by
    intro k_4 hk_4 h0 x1 x2 H locs ls hS h hl
    obtain ⟨t_31, e_31, h⟩ := ez_let_sp h
    refine lv_iinc (v := t_31) (lv' := [(2, .int t_31), (0, .ref (B + h0)), (1, .int x1)]) hx hb dX12_blanks_31 hl (k := 2) rfl (by rw [e_31]; rfl) (by decide) rfl (fun ls hl => ?_)
    refine lv_goto (tgt := 4) hx hb dX12_blanks_34 (by decide) ?_
    exact hk_4 h0 x1 t_31 _ _ _ hS h (lv_sub hl [1, 2, 0] rfl)
  have K_4 : ∀ (k_4 : Nat → Int32 → Int32 → Option (Int32)) (hk_4 : ∀ (h0 : Nat) (x1 : Int32) (x2 : Int32) (H : Heap) (locs : List Loc) (ls : Array Slot), ez_S X B s.heap (n0) σ H locs → k_4 h0 x1 x2 = some z → lv_has ls 3 [(0, .ref (B + h0)), (1, .int x1), (2, .int x2)] → W p l e R s m args below meth c H locs 0 0 Q (F0 m 4 ls [])), ∀ (h0 : Nat) (x1 : Int32) (x2 : Int32) (H : Heap) (locs : List Loc) (ls : Array Slot), ez_S X B s.heap (n0) σ H locs → z_X12_blanks_4 σ k_4 h0 x1 x2 = some z → lv_has ls 3 [(0, .ref (B + h0)), (1, .int x1), (2, .int x2)] → W p l e R s m args below meth c H locs 0 0 Q (F0 m 4 ls []) := by
    intro k_4 hk_4 h0 x1 x2 H locs ls hS h hl
    refine lv_iload_n hx hb dX12_blanks_4 rfl (lv_at hl 2 rfl) ?_
    refine lv_aload_n hx hb dX12_blanks_5 rfl (lv_at hl 0 rfl) ?_
    refine ez_cVpi (As := []) (rest := [.int x2]) h (fun _ q => c_X12_bittings q) hC k_X12_bittings ql_RX12_438 rfl (by decide) hS (fun _ q => ez_rcv q) rfl hl.1 rfl (Nat.le_of_ble_eq_true rfl) ⟨Nat.zero_le _, Nat.zero_le _⟩ dX12_blanks_6 (fun t_6 H locs hS h => ?_)
    refine lv_icmp_ge (tgt := 37) hx hb dX12_blanks_9 (by decide) (fun c_9 => ?_) (fun c_9 => ?_)
    · replace h := ez_ifp h c_9
      refine lv_iload_n hx hb dX12_blanks_37 rfl (lv_at hl 1 rfl) ?_
      exact hret _ _ _ _ _ (Option.some.inj h) rfl hS dX12_blanks_38
    · replace h := ez_ifn h c_9
      refine lv_aload_n hx hb dX12_blanks_12 rfl (lv_at hl 0 rfl) ?_
      refine lv_iload_n hx hb dX12_blanks_13 rfl (lv_at hl 2 rfl) ?_
      refine ez_cVpi (As := [.int x2]) (rest := []) h (fun _ q => c_X12_isLegal q) hC k_X12_isLegal ql_RX12_456 rfl (by decide) hS (fun _ q => ez_rcv q) rfl hl.1 rfl (Nat.le_of_ble_eq_true rfl) ⟨Nat.zero_le _, Nat.zero_le _⟩ dX12_blanks_14 (fun t_14 H locs hS h => ?_)
      refine lv_if_eq (tgt := 31) hx hb dX12_blanks_17 (by decide) (fun c_17 => ?_) (fun c_17 => ?_)
      · replace h := ez_ifp h c_17
        exact K_31 k_4 hk_4 h0 x1 x2 _ _ _ hS h (lv_sub hl [0, 1, 2] rfl)
      · replace h := ez_ifn h c_17
        refine lv_aload_n hx hb dX12_blanks_20 rfl (lv_at hl 0 rfl) ?_
        refine lv_iload_n hx hb dX12_blanks_21 rfl (lv_at hl 2 rfl) ?_
        refine ez_cVpi (As := [.int x2]) (rest := []) h (fun _ q => c_X12_openedBy q) hC k_X12_openedBy ql_RX12_459 rfl (by decide) hS (fun _ q => ez_rcv q) rfl hl.1 rfl (Nat.le_of_ble_eq_true rfl) ⟨Nat.zero_le _, Nat.zero_le _⟩ dX12_blanks_22 (fun t_22 H locs hS h => ?_)
        refine lv_if_ne (tgt := 31) hx hb dX12_blanks_25 (by decide) (fun c_25 => ?_) (fun c_25 => ?_)
        · replace h := ez_ifn h c_25
          exact K_31 k_4 hk_4 h0 x1 x2 _ _ _ hS h (lv_sub hl [0, 1, 2] rfl)
        · replace h := ez_ifp h c_25
          obtain ⟨t_28, e_28, h⟩ := ez_let_sp h
          refine lv_iinc (v := t_28) (lv' := [(1, .int t_28), (0, .ref (B + h0)), (2, .int x2)]) hx hb dX12_blanks_28 hl (k := 1) rfl (by rw [e_28]; rfl) (by decide) rfl (fun ls hl => ?_)
          exact K_31 k_4 hk_4 h0 t_28 x2 _ _ _ hS h (lv_sub hl [1, 0, 2] rfl)
  have E_4 : ∀ (h0 : Nat) (x1 : Int32) (x2 : Int32) (H : Heap) (locs : List Loc) (ls : Array Slot), ez_S X B s.heap (n0) σ H locs → (ez_fix (fun _ _ _ => none) (z_X12_blanks_4 σ) ez_N) h0 x1 x2 = some z → lv_has ls 3 [(0, .ref (B + h0)), (1, .int x1), (2, .int x2)] → W p l e R s m args below meth c H locs 0 0 Q (F0 m 4 ls []) := ez_fix_ind (fun k_4 : Nat → Int32 → Int32 → Option (Int32) => ∀ (h0 : Nat) (x1 : Int32) (x2 : Int32) (H : Heap) (locs : List Loc) (ls : Array Slot), ez_S X B s.heap (n0) σ H locs → k_4 h0 x1 x2 = some z → lv_has ls 3 [(0, .ref (B + h0)), (1, .int x1), (2, .int x2)] → W p l e R s m args below meth c H locs 0 0 Q (F0 m 4 ls [])) (fun _ _ _ _ _ _ _ h _ => by cases h) (fun k_4 hk_4 => K_4 k_4 hk_4) ez_N
  refine lv_iconst (v := 0) hx hb dX12_blanks_0 (by decide) ?_
  refine lv_istore_n (lv' := [(1, .int 0), (0, .ref (B + h0))]) hx hb dX12_blanks_1 rfl hl (by decide) rfl (fun ls hl => ?_)
  refine lv_iconst (v := 0) hx hb dX12_blanks_2 (by decide) ?_
  refine lv_istore_n (lv' := [(2, .int 0), (1, .int 0), (0, .ref (B + h0))]) hx hb dX12_blanks_3 rfl hl (by decide) rfl (fun ls hl => ?_)
  exact E_4  h0 (0 : Int32) (0 : Int32) _ _ _ hS h (lv_sub hl [2, 1, 0] rfl)
set_option maxHeartbeats 4000000 in
set_option maxRecDepth 100000 in
theorem c_X12_isApart {l : Launch} {X : ez_X} {B : Nat} {σ : ez_H} {h0 : Nat} {x1 : Int32} {x2 : Int32} {z : Int32} (h : z_X12_isApart σ h0 x1 x2 = some z) : ez_M l X B σ yX12_isApart cX12_isApart 7 (some .boolean) 1 [.ref (B + h0), .int x1, .int x2] (some (.int z)) σ := by
  refine ez_startip (z := z) (by decide) (Nat.le_of_ble_eq_true rfl) (fun p e R s m args below meth c Q hC hret hS ls hl => ?_)
  have hC : ez_C p R s m args c X B RX12 cX12_isApart 7 1 := hC
  have hx := hC.1.1
  have hb := hC.1.2.1
  have hown := hC.1.2.2.2.1
  have hts := hC.1.2.2.2.2
  have hl : lv_has ls 7 [(0, .ref (B + h0)), (1, .int x1), (2, .int x2)] := hl
  obtain ⟨n0, e0⟩ : ∃ n0 : Nat, n0 = σ.length := ⟨_, rfl⟩
  rw [← e0] at hret hS
  obtain ⟨-, h⟩ := ez_in h
  have K_79 : ∀ (y0 : Int32) (H : Heap) (locs : List Loc) (ls : Array Slot), ez_S X B s.heap (n0) σ H locs → z_X12_isApart_79 σ y0 = some z → lv_has ls 7 [] → W p l e R s m args below meth c H locs 0 0 Q (F0 m 79 ls [.int y0]) := by
    intro y0 H locs ls hS h hl
    obtain ⟨hn, h⟩ := ez_nr_sp rfl h
    exact hret _ _ _ _ _ (Option.some.inj h) hn hS dX12_isApart_79
  have K_43 : ∀ (k_11 : Nat → Int32 → Int32 → Int32 → Int32 → Option (Int32)) (hk_11 : ∀ (h0 : Nat) (x3 : Int32) (x4 : Int32) (x5 : Int32) (x6 : Int32) (H : Heap) (locs : List Loc) (ls : Array Slot), ez_S X B s.heap (n0) σ H locs → k_11 h0 x3 x4 x5 x6 = some z → lv_has ls 7 [(0, .ref (B + h0)), (3, .int x3), (4, .int x4), (5, .int x5), (6, .int x6)] → W p l e R s m args below meth c H locs 0 0 Q (F0 m 11 ls [])), ∀ (h0 : Nat) (x4 : Int32) (x5 : Int32) (x6 : Int32) (y0 : Int32) (y1 : Int32) (H : Heap) (locs : List Loc) (ls : Array Slot), ez_S X B s.heap (n0) σ H locs → z_X12_isApart_43 σ k_11 h0 x4 x5 x6 y0 y1 = some z → lv_has ls 7 [(0, .ref (B + h0)), (4, .int x4), (5, .int x5), (6, .int x6)] → W p l e R s m args below meth c H locs 0 0 Q (F0 m 43 ls [.int y1, .int y0]) := by
    intro k_11 hk_11 h0 x4 x5 x6 y0 y1 H locs ls hS h hl
    refine lv_iadd hx hb dX12_isApart_43 ?_
    refine ez_top h (fun t_43 h => ?_)
    refine lv_istore_n (lv' := [(3, .int t_43), (0, .ref (B + h0)), (4, .int x4), (5, .int x5), (6, .int x6)]) hx hb dX12_isApart_44 rfl hl (by decide) rfl (fun ls hl => ?_)
    refine lv_iload hx hb dX12_isApart_45 (lv_at hl 2 rfl) ?_
    refine lv_aload_n hx hb dX12_isApart_47 rfl (lv_at hl 1 rfl) ?_
    refine ez_cVpi (As := []) (rest := [.int x4]) h (fun _ q => c_X12_deep q) hC k_X12_deep ql_RX12_429 rfl (by decide) hS (fun _ q => ez_rcv q) rfl hl.1 rfl (Nat.le_of_ble_eq_true rfl) ⟨Nat.zero_le _, Nat.zero_le _⟩ dX12_isApart_48 (fun t_48 H locs hS h => ?_)
    obtain ⟨nz_51, h⟩ := ez_nz_sp h
    refine lv_idiv hx hb dX12_isApart_51 nz_51 ?_
    refine ez_top h (fun t_51 h => ?_)
    refine lv_istore (lv' := [(4, .int t_51), (3, .int t_43), (0, .ref (B + h0)), (5, .int x5), (6, .int x6)]) hx hb dX12_isApart_52 hl (by decide) rfl (fun ls hl => ?_)
    refine lv_iload hx hb dX12_isApart_54 (lv_at hl 3 rfl) ?_
    refine lv_aload_n hx hb dX12_isApart_56 rfl (lv_at hl 2 rfl) ?_
    refine ez_cVpi (As := []) (rest := [.int x5]) h (fun _ q => c_X12_deep q) hC k_X12_deep ql_RX12_429 rfl (by decide) hS (fun _ q => ez_rcv q) rfl hl.1 rfl (Nat.le_of_ble_eq_true rfl) ⟨Nat.zero_le _, Nat.zero_le _⟩ dX12_isApart_57 (fun t_57 H locs hS h => ?_)
    obtain ⟨nz_60, h⟩ := ez_nz_sp h
    refine lv_idiv hx hb dX12_isApart_60 nz_60 ?_
    refine ez_top h (fun t_60 h => ?_)
    refine lv_istore (lv' := [(5, .int t_60), (4, .int t_51), (3, .int t_43), (0, .ref (B + h0)), (6, .int x6)]) hx hb dX12_isApart_61 hl (by decide) rfl (fun ls hl => ?_)
    obtain ⟨t_63, e_63, h⟩ := ez_let_sp h
    refine lv_iinc (v := t_63) (lv' := [(6, .int t_63), (5, .int t_60), (4, .int t_51), (3, .int t_43), (0, .ref (B + h0))]) hx hb dX12_isApart_63 hl (k := 4) rfl (by rw [e_63]; rfl) (by decide) rfl (fun ls hl => ?_)
    refine lv_goto (tgt := 11) hx hb dX12_isApart_66 (by decide) ?_
    exact hk_11 h0 t_43 t_51 t_60 t_63 _ _ _ hS h (lv_sub hl [4, 3, 2, 1, 0] rfl)
  have K_11 : ∀ (k_11 : Nat → Int32 → Int32 → Int32 → Int32 → Option (Int32)) (hk_11 : ∀ (h0 : Nat) (x3 : Int32) (x4 : Int32) (x5 : Int32) (x6 : Int32) (H : Heap) (locs : List Loc) (ls : Array Slot), ez_S X B s.heap (n0) σ H locs → k_11 h0 x3 x4 x5 x6 = some z → lv_has ls 7 [(0, .ref (B + h0)), (3, .int x3), (4, .int x4), (5, .int x5), (6, .int x6)] → W p l e R s m args below meth c H locs 0 0 Q (F0 m 11 ls [])), ∀ (h0 : Nat) (x3 : Int32) (x4 : Int32) (x5 : Int32) (x6 : Int32) (H : Heap) (locs : List Loc) (ls : Array Slot), ez_S X B s.heap (n0) σ H locs → z_X12_isApart_11 σ k_11 h0 x3 x4 x5 x6 = some z → lv_has ls 7 [(0, .ref (B + h0)), (3, .int x3), (4, .int x4), (5, .int x5), (6, .int x6)] → W p l e R s m args below meth c H locs 0 0 Q (F0 m 11 ls []) := by
    intro k_11 hk_11 h0 x3 x4 x5 x6 H locs ls hS h hl
    refine lv_iload hx hb dX12_isApart_11 (lv_at hl 4 rfl) ?_
    refine lv_aload_n hx hb dX12_isApart_13 rfl (lv_at hl 0 rfl) ?_
    refine ez_cVpi (As := []) (rest := [.int x6]) h (fun _ q => c_X12_wide q) hC k_X12_wide ql_RX12_414 rfl (by decide) hS (fun _ q => ez_rcv q) rfl hl.1 rfl (Nat.le_of_ble_eq_true rfl) ⟨Nat.zero_le _, Nat.zero_le _⟩ dX12_isApart_14 (fun t_14 H locs hS h => ?_)
    refine lv_icmp_ge (tgt := 69) hx hb dX12_isApart_17 (by decide) (fun c_17 => ?_) (fun c_17 => ?_)
    · replace h := ez_ifp h c_17
      refine lv_iload_n hx hb dX12_isApart_69 rfl (lv_at hl 1 rfl) ?_
      refine lv_iconst (v := 1) hx hb dX12_isApart_70 (by decide) ?_
      refine lv_icmp_le (tgt := 78) hx hb dX12_isApart_71 (by decide) (fun c_71 => ?_) (fun c_71 => ?_)
      · replace h := ez_ifp h c_71
        refine lv_iconst (v := 0) hx hb dX12_isApart_78 (by decide) ?_
        exact K_79  (0 : Int32) _ _ _ hS h (lv_sub hl [] rfl)
      · replace h := ez_ifn h c_71
        refine lv_iconst (v := 1) hx hb dX12_isApart_74 (by decide) ?_
        refine lv_goto (tgt := 79) hx hb dX12_isApart_75 (by decide) ?_
        exact K_79  (1 : Int32) _ _ _ hS h (lv_sub hl [] rfl)
    · replace h := ez_ifn h c_17
      refine lv_iload_n hx hb dX12_isApart_20 rfl (lv_at hl 1 rfl) ?_
      refine lv_iload hx hb dX12_isApart_21 (lv_at hl 2 rfl) ?_
      refine lv_aload_n hx hb dX12_isApart_23 rfl (lv_at hl 0 rfl) ?_
      refine ez_cVpi (As := []) (rest := [.int x4, .int x3]) h (fun _ q => c_X12_deep q) hC k_X12_deep ql_RX12_429 rfl (by decide) hS (fun _ q => ez_rcv q) rfl hl.1 rfl (Nat.le_of_ble_eq_true rfl) ⟨Nat.zero_le _, Nat.zero_le _⟩ dX12_isApart_24 (fun t_24 H locs hS h => ?_)
      obtain ⟨nz_27, h⟩ := ez_nz_sp h
      refine lv_irem hx hb dX12_isApart_27 nz_27 ?_
      refine ez_top h (fun t_27 h => ?_)
      refine lv_iload hx hb dX12_isApart_28 (lv_at hl 3 rfl) ?_
      refine lv_aload_n hx hb dX12_isApart_30 rfl (lv_at hl 0 rfl) ?_
      refine ez_cVpi (As := []) (rest := [.int x5, .int t_27, .int x3]) h (fun _ q => c_X12_deep q) hC k_X12_deep ql_RX12_429 rfl (by decide) hS (fun _ q => ez_rcv q) rfl hl.1 rfl (Nat.le_of_ble_eq_true rfl) ⟨Nat.zero_le _, Nat.zero_le _⟩ dX12_isApart_31 (fun t_31 H locs hS h => ?_)
      obtain ⟨nz_34, h⟩ := ez_nz_sp h
      refine lv_irem hx hb dX12_isApart_34 nz_34 ?_
      refine ez_top h (fun t_34 h => ?_)
      refine lv_icmp_ne (tgt := 42) hx hb dX12_isApart_35 (by decide) (fun c_35 => ?_) (fun c_35 => ?_)
      · replace h := ez_ifn h c_35
        refine lv_iconst (v := 1) hx hb dX12_isApart_42 (by decide) ?_
        exact K_43 k_11 hk_11 h0 x4 x5 x6 x3 (1 : Int32) _ _ _ hS h (lv_sub hl [0, 2, 3, 4] rfl)
      · replace h := ez_ifp h c_35
        refine lv_iconst (v := 0) hx hb dX12_isApart_38 (by decide) ?_
        refine lv_goto (tgt := 43) hx hb dX12_isApart_39 (by decide) ?_
        exact K_43 k_11 hk_11 h0 x4 x5 x6 x3 (0 : Int32) _ _ _ hS h (lv_sub hl [0, 2, 3, 4] rfl)
  have E_11 : ∀ (h0 : Nat) (x3 : Int32) (x4 : Int32) (x5 : Int32) (x6 : Int32) (H : Heap) (locs : List Loc) (ls : Array Slot), ez_S X B s.heap (n0) σ H locs → (ez_fix (fun _ _ _ _ _ => none) (z_X12_isApart_11 σ) ez_N) h0 x3 x4 x5 x6 = some z → lv_has ls 7 [(0, .ref (B + h0)), (3, .int x3), (4, .int x4), (5, .int x5), (6, .int x6)] → W p l e R s m args below meth c H locs 0 0 Q (F0 m 11 ls []) := ez_fix_ind (fun k_11 : Nat → Int32 → Int32 → Int32 → Int32 → Option (Int32) => ∀ (h0 : Nat) (x3 : Int32) (x4 : Int32) (x5 : Int32) (x6 : Int32) (H : Heap) (locs : List Loc) (ls : Array Slot), ez_S X B s.heap (n0) σ H locs → k_11 h0 x3 x4 x5 x6 = some z → lv_has ls 7 [(0, .ref (B + h0)), (3, .int x3), (4, .int x4), (5, .int x5), (6, .int x6)] → W p l e R s m args below meth c H locs 0 0 Q (F0 m 11 ls [])) (fun _ _ _ _ _ _ _ _ _ h _ => by cases h) (fun k_11 hk_11 => K_11 k_11 hk_11) ez_N
  refine lv_iconst (v := 0) hx hb dX12_isApart_0 (by decide) ?_
  refine lv_istore_n (lv' := [(3, .int 0), (0, .ref (B + h0)), (1, .int x1), (2, .int x2)]) hx hb dX12_isApart_1 rfl hl (by decide) rfl (fun ls hl => ?_)
  refine lv_iload_n hx hb dX12_isApart_2 rfl (lv_at hl 2 rfl) ?_
  refine lv_istore (lv' := [(4, .int x1), (3, .int 0), (0, .ref (B + h0)), (1, .int x1), (2, .int x2)]) hx hb dX12_isApart_3 hl (by decide) rfl (fun ls hl => ?_)
  refine lv_iload_n hx hb dX12_isApart_5 rfl (lv_at hl 4 rfl) ?_
  refine lv_istore (lv' := [(5, .int x2), (4, .int x1), (3, .int 0), (0, .ref (B + h0)), (1, .int x1), (2, .int x2)]) hx hb dX12_isApart_6 hl (by decide) rfl (fun ls hl => ?_)
  refine lv_iconst (v := 0) hx hb dX12_isApart_8 (by decide) ?_
  refine lv_istore (lv' := [(6, .int 0), (5, .int x2), (4, .int x1), (3, .int 0), (0, .ref (B + h0)), (1, .int x1), (2, .int x2)]) hx hb dX12_isApart_9 hl (by decide) rfl (fun ls hl => ?_)
  exact E_11  h0 (0 : Int32) x1 x2 (0 : Int32) _ _ _ hS h (lv_sub hl [4, 3, 2, 1, 0] rfl)
set_option maxHeartbeats 4000000 in
set_option maxRecDepth 100000 in
theorem c_X12_book {l : Launch} {X : ez_X} {B : Nat} {σ : ez_H} {h0 : Nat} {x1 : Int32} {z : Int32 × ez_H} (h : z_X12_book σ h0 x1 = some z) : ez_M l X B σ yX12_book cX12_book 6 (some .int) 3 [.ref (B + h0), .int x1] (some (.int z.1)) z.2 := by
  refine ez_starti (z := z) (by decide) (Nat.le_of_ble_eq_true rfl) (fun p e R s m args below meth c Q hC hret hS ls hl => ?_)
  have hC : ez_C p R s m args c X B RX12 cX12_book 6 3 := hC
  have hx := hC.1.1
  have hb := hC.1.2.1
  have hown := hC.1.2.2.2.1
  have hts := hC.1.2.2.2.2
  have hl : lv_has ls 6 [(0, .ref (B + h0)), (1, .int x1)] := hl
  obtain ⟨σ0, eσ⟩ : ∃ σ0 : ez_H, σ0 = σ := ⟨_, rfl⟩
  rw [← eσ] at hret
  have hS : ez_S X B s.heap σ0.length σ s.heap [] := eσ ▸ hS
  obtain ⟨-, h⟩ := ez_in h
  have K_109 : ∀ (σ : ez_H) (y0 : Int32) (H : Heap) (locs : List Loc) (ls : Array Slot), ez_S X B s.heap (σ0.length) σ H locs → z_X12_book_109 σ y0 = some z → lv_has ls 6 [] → W p l e R s m args below meth c H locs 0 0 Q (F0 m 109 ls [.int y0]) := by
    intro σ y0 H locs ls hS h hl
    exact hret _ _ _ _ _ _ (Option.some.inj h) rfl hS dX12_book_109
  have K_94 : ∀ (σ : ez_H) (h0 : Nat) (x1 : Int32) (x2 : Int32) (H : Heap) (locs : List Loc) (ls : Array Slot), ez_S X B s.heap (σ0.length) σ H locs → z_X12_book_94 σ h0 x1 x2 = some z → lv_has ls 6 [(0, .ref (B + h0)), (1, .int x1), (2, .int x2)] → W p l e R s m args below meth c H locs 0 0 Q (F0 m 94 ls []) := by
    intro σ h0 x1 x2 H locs ls hS h hl
    refine lv_iload_n hx hb dX12_book_94 rfl (lv_at hl 2 rfl) ?_
    refine lv_iload_n hx hb dX12_book_95 rfl (lv_at hl 1 rfl) ?_
    refine lv_icmp_le (tgt := 108) hx hb dX12_book_96 (by decide) (fun c_96 => ?_) (fun c_96 => ?_)
    · replace h := ez_ifp h c_96
      refine lv_iconst (v := -1) hx hb dX12_book_108 (by decide) ?_
      exact K_109  σ (-1 : Int32) _ _ _ hS h (lv_sub hl [] rfl)
    · replace h := ez_ifn h c_96
      refine lv_aload_n hx hb dX12_book_99 rfl (lv_at hl 0 rfl) ?_
      refine eg_RX12_124 hC hS h dX12_book_100 (fun t_100 h => ?_)
      refine lv_iload_n hx hb dX12_book_103 rfl (lv_at hl 1 rfl) ?_
      refine ez_ial hC hS h dX12_book_104 (fun t_104 h => ?_)
      refine lv_goto (tgt := 109) hx hb dX12_book_105 (by decide) ?_
      exact K_109  σ t_104 _ _ _ hS h (lv_sub hl [] rfl)
  have K_88 : ∀ (k_16 : ez_H → Nat → Int32 → Int32 → Int32 → Option (Int32 × ez_H)) (hk_16 : ∀ (σ : ez_H) (h0 : Nat) (x1 : Int32) (x2 : Int32) (x3 : Int32) (H : Heap) (locs : List Loc) (ls : Array Slot), ez_S X B s.heap (σ0.length) σ H locs → k_16 σ h0 x1 x2 x3 = some z → lv_has ls 6 [(0, .ref (B + h0)), (1, .int x1), (2, .int x2), (3, .int x3)] → W p l e R s m args below meth c H locs 0 0 Q (F0 m 16 ls [])), ∀ (σ : ez_H) (h0 : Nat) (x1 : Int32) (x2 : Int32) (x3 : Int32) (H : Heap) (locs : List Loc) (ls : Array Slot), ez_S X B s.heap (σ0.length) σ H locs → z_X12_book_88 k_16 σ h0 x1 x2 x3 = some z → lv_has ls 6 [(0, .ref (B + h0)), (1, .int x1), (2, .int x2), (3, .int x3)] → W p l e R s m args below meth c H locs 0 0 Q (F0 m 88 ls []) := by
    intro k_16 hk_16 σ h0 x1 x2 x3 H locs ls hS h hl
    obtain ⟨t_88, e_88, h⟩ := ez_let_sp h
    refine lv_iinc (v := t_88) (lv' := [(3, .int t_88), (0, .ref (B + h0)), (1, .int x1), (2, .int x2)]) hx hb dX12_book_88 hl (k := 3) rfl (by rw [e_88]; rfl) (by decide) rfl (fun ls hl => ?_)
    refine lv_goto (tgt := 16) hx hb dX12_book_91 (by decide) ?_
    exact hk_16 σ h0 x1 x2 t_88 _ _ _ hS h (lv_sub hl [1, 2, 3, 0] rfl)
  have K_70 : ∀ (k_16 : ez_H → Nat → Int32 → Int32 → Int32 → Option (Int32 × ez_H)) (hk_16 : ∀ (σ : ez_H) (h0 : Nat) (x1 : Int32) (x2 : Int32) (x3 : Int32) (H : Heap) (locs : List Loc) (ls : Array Slot), ez_S X B s.heap (σ0.length) σ H locs → k_16 σ h0 x1 x2 x3 = some z → lv_has ls 6 [(0, .ref (B + h0)), (1, .int x1), (2, .int x2), (3, .int x3)] → W p l e R s m args below meth c H locs 0 0 Q (F0 m 16 ls [])), ∀ (σ : ez_H) (h0 : Nat) (x1 : Int32) (x2 : Int32) (x3 : Int32) (x4 : Int32) (H : Heap) (locs : List Loc) (ls : Array Slot), ez_S X B s.heap (σ0.length) σ H locs → z_X12_book_70 k_16 σ h0 x1 x2 x3 x4 = some z → lv_has ls 6 [(0, .ref (B + h0)), (1, .int x1), (2, .int x2), (3, .int x3), (4, .int x4)] → W p l e R s m args below meth c H locs 0 0 Q (F0 m 70 ls []) := by
    intro k_16 hk_16 σ h0 x1 x2 x3 x4 H locs ls hS h hl
    refine lv_iload hx hb dX12_book_70 (lv_at hl 4 rfl) ?_
    refine lv_if_ne (tgt := 78) hx hb dX12_book_72 (by decide) (fun c_72 => ?_) (fun c_72 => ?_)
    · replace h := ez_ifn h c_72
      refine lv_aload_n hx hb dX12_book_78 rfl (lv_at hl 0 rfl) ?_
      refine eg_RX12_124 hC hS h dX12_book_79 (fun t_79 h => ?_)
      refine lv_iload_n hx hb dX12_book_82 rfl (lv_at hl 2 rfl) ?_
      refine lv_iload_n hx hb dX12_book_83 rfl (lv_at hl 3 rfl) ?_
      refine ez_ias hC hS h dX12_book_84 (fun σ H locs hS h => ?_)
      obtain ⟨t_85, e_85, h⟩ := ez_let_sp h
      refine lv_iinc (v := t_85) (lv' := [(2, .int t_85), (0, .ref (B + h0)), (1, .int x1), (3, .int x3), (4, .int x4)]) hx hb dX12_book_85 hl (k := 2) rfl (by rw [e_85]; rfl) (by decide) rfl (fun ls hl => ?_)
      exact K_88 k_16 hk_16 σ h0 x1 t_85 x3 _ _ _ hS h (lv_sub hl [1, 2, 0, 3] rfl)
    · replace h := ez_ifp h c_72
      refine lv_goto (tgt := 88) hx hb dX12_book_75 (by decide) ?_
      exact K_88 k_16 hk_16 σ h0 x1 x2 x3 _ _ _ hS h (lv_sub hl [0, 1, 2, 3] rfl)
  have K_39 : ∀ (k_16 : ez_H → Nat → Int32 → Int32 → Int32 → Option (Int32 × ez_H)) (hk_16 : ∀ (σ : ez_H) (h0 : Nat) (x1 : Int32) (x2 : Int32) (x3 : Int32) (H : Heap) (locs : List Loc) (ls : Array Slot), ez_S X B s.heap (σ0.length) σ H locs → k_16 σ h0 x1 x2 x3 = some z → lv_has ls 6 [(0, .ref (B + h0)), (1, .int x1), (2, .int x2), (3, .int x3)] → W p l e R s m args below meth c H locs 0 0 Q (F0 m 16 ls [])) (k_39 : ez_H → Nat → Int32 → Int32 → Int32 → Int32 → Int32 → Option (Int32 × ez_H)) (hk_39 : ∀ (σ : ez_H) (h0 : Nat) (x1 : Int32) (x2 : Int32) (x3 : Int32) (x4 : Int32) (x5 : Int32) (H : Heap) (locs : List Loc) (ls : Array Slot), ez_S X B s.heap (σ0.length) σ H locs → k_39 σ h0 x1 x2 x3 x4 x5 = some z → lv_has ls 6 [(0, .ref (B + h0)), (1, .int x1), (2, .int x2), (3, .int x3), (4, .int x4), (5, .int x5)] → W p l e R s m args below meth c H locs 0 0 Q (F0 m 39 ls [])), ∀ (σ : ez_H) (h0 : Nat) (x1 : Int32) (x2 : Int32) (x3 : Int32) (x4 : Int32) (x5 : Int32) (H : Heap) (locs : List Loc) (ls : Array Slot), ez_S X B s.heap (σ0.length) σ H locs → z_X12_book_39 k_16 k_39 σ h0 x1 x2 x3 x4 x5 = some z → lv_has ls 6 [(0, .ref (B + h0)), (1, .int x1), (2, .int x2), (3, .int x3), (4, .int x4), (5, .int x5)] → W p l e R s m args below meth c H locs 0 0 Q (F0 m 39 ls []) := by
    intro k_16 hk_16 k_39 hk_39 σ h0 x1 x2 x3 x4 x5 H locs ls hS h hl
    refine lv_iload hx hb dX12_book_39 (lv_at hl 5 rfl) ?_
    refine lv_iload_n hx hb dX12_book_41 rfl (lv_at hl 2 rfl) ?_
    refine lv_icmp_ge (tgt := 70) hx hb dX12_book_42 (by decide) (fun c_42 => ?_) (fun c_42 => ?_)
    · replace h := ez_ifp h c_42
      exact K_70 k_16 hk_16 σ h0 x1 x2 x3 x4 _ _ _ hS h (lv_sub hl [0, 1, 2, 3, 4] rfl)
    · replace h := ez_ifn h c_42
      refine lv_iload hx hb dX12_book_45 (lv_at hl 4 rfl) ?_
      refine lv_if_eq (tgt := 70) hx hb dX12_book_47 (by decide) (fun c_47 => ?_) (fun c_47 => ?_)
      · replace h := ez_ifp h c_47
        exact K_70 k_16 hk_16 σ h0 x1 x2 x3 x4 _ _ _ hS h (lv_sub hl [0, 1, 2, 3, 4] rfl)
      · replace h := ez_ifn h c_47
        refine lv_aload_n hx hb dX12_book_50 rfl (lv_at hl 0 rfl) ?_
        refine lv_iload_n hx hb dX12_book_51 rfl (lv_at hl 3 rfl) ?_
        refine lv_aload_n hx hb dX12_book_52 rfl (lv_at hl 0 rfl) ?_
        refine eg_RX12_124 hC hS h dX12_book_53 (fun t_53 h => ?_)
        refine lv_iload hx hb dX12_book_56 (lv_at hl 5 rfl) ?_
        refine ez_ial hC hS h dX12_book_58 (fun t_58 h => ?_)
        refine ez_cVpi (As := [.int x3, .int t_58]) (rest := []) h (fun _ q => c_X12_isApart q) hC k_X12_isApart ql_RX12_535 rfl (by decide) hS (fun _ q => ez_rcv q) rfl hl.1 rfl (Nat.le_of_ble_eq_true rfl) ⟨Nat.zero_le _, Nat.zero_le _⟩ dX12_book_59 (fun t_59 H locs hS h => ?_)
        refine lv_istore (lv' := [(4, .int t_59), (0, .ref (B + h0)), (1, .int x1), (2, .int x2), (3, .int x3), (5, .int x5)]) hx hb dX12_book_62 hl (by decide) rfl (fun ls hl => ?_)
        obtain ⟨t_64, e_64, h⟩ := ez_let_sp h
        refine lv_iinc (v := t_64) (lv' := [(5, .int t_64), (4, .int t_59), (0, .ref (B + h0)), (1, .int x1), (2, .int x2), (3, .int x3)]) hx hb dX12_book_64 hl (k := 5) rfl (by rw [e_64]; rfl) (by decide) rfl (fun ls hl => ?_)
        refine lv_goto (tgt := 39) hx hb dX12_book_67 (by decide) ?_
        exact hk_39 σ h0 x1 x2 x3 t_59 t_64 _ _ _ hS h (lv_sub hl [2, 3, 4, 5, 1, 0] rfl)
  have E_39 : ∀ (k_16 : ez_H → Nat → Int32 → Int32 → Int32 → Option (Int32 × ez_H)) (hk_16 : ∀ (σ : ez_H) (h0 : Nat) (x1 : Int32) (x2 : Int32) (x3 : Int32) (H : Heap) (locs : List Loc) (ls : Array Slot), ez_S X B s.heap (σ0.length) σ H locs → k_16 σ h0 x1 x2 x3 = some z → lv_has ls 6 [(0, .ref (B + h0)), (1, .int x1), (2, .int x2), (3, .int x3)] → W p l e R s m args below meth c H locs 0 0 Q (F0 m 16 ls [])), ∀ (σ : ez_H) (h0 : Nat) (x1 : Int32) (x2 : Int32) (x3 : Int32) (x4 : Int32) (x5 : Int32) (H : Heap) (locs : List Loc) (ls : Array Slot), ez_S X B s.heap (σ0.length) σ H locs → (ez_fix (fun _ _ _ _ _ _ _ => none) (z_X12_book_39 k_16) ez_N) σ h0 x1 x2 x3 x4 x5 = some z → lv_has ls 6 [(0, .ref (B + h0)), (1, .int x1), (2, .int x2), (3, .int x3), (4, .int x4), (5, .int x5)] → W p l e R s m args below meth c H locs 0 0 Q (F0 m 39 ls []) := fun k_16 hk_16 => ez_fix_ind (fun k_39 : ez_H → Nat → Int32 → Int32 → Int32 → Int32 → Int32 → Option (Int32 × ez_H) => ∀ (σ : ez_H) (h0 : Nat) (x1 : Int32) (x2 : Int32) (x3 : Int32) (x4 : Int32) (x5 : Int32) (H : Heap) (locs : List Loc) (ls : Array Slot), ez_S X B s.heap (σ0.length) σ H locs → k_39 σ h0 x1 x2 x3 x4 x5 = some z → lv_has ls 6 [(0, .ref (B + h0)), (1, .int x1), (2, .int x2), (3, .int x3), (4, .int x4), (5, .int x5)] → W p l e R s m args below meth c H locs 0 0 Q (F0 m 39 ls [])) (fun _ _ _ _ _ _ _ _ _ _ _ h _ => by cases h) (fun k_39 hk_39 => K_39 k_16 hk_16 k_39 hk_39) ez_N
  have K_16 : ∀ (k_16 : ez_H → Nat → Int32 → Int32 → Int32 → Option (Int32 × ez_H)) (hk_16 : ∀ (σ : ez_H) (h0 : Nat) (x1 : Int32) (x2 : Int32) (x3 : Int32) (H : Heap) (locs : List Loc) (ls : Array Slot), ez_S X B s.heap (σ0.length) σ H locs → k_16 σ h0 x1 x2 x3 = some z → lv_has ls 6 [(0, .ref (B + h0)), (1, .int x1), (2, .int x2), (3, .int x3)] → W p l e R s m args below meth c H locs 0 0 Q (F0 m 16 ls [])), ∀ (σ : ez_H) (h0 : Nat) (x1 : Int32) (x2 : Int32) (x3 : Int32) (H : Heap) (locs : List Loc) (ls : Array Slot), ez_S X B s.heap (σ0.length) σ H locs → z_X12_book_16 k_16 σ h0 x1 x2 x3 = some z → lv_has ls 6 [(0, .ref (B + h0)), (1, .int x1), (2, .int x2), (3, .int x3)] → W p l e R s m args below meth c H locs 0 0 Q (F0 m 16 ls []) := by
    intro k_16 hk_16 σ h0 x1 x2 x3 H locs ls hS h hl
    refine lv_iload_n hx hb dX12_book_16 rfl (lv_at hl 3 rfl) ?_
    refine lv_aload_n hx hb dX12_book_17 rfl (lv_at hl 0 rfl) ?_
    refine ez_cVpi (As := []) (rest := [.int x3]) h (fun _ q => c_X12_bittings q) hC k_X12_bittings ql_RX12_438 rfl (by decide) hS (fun _ q => ez_rcv q) rfl hl.1 rfl (Nat.le_of_ble_eq_true rfl) ⟨Nat.zero_le _, Nat.zero_le _⟩ dX12_book_18 (fun t_18 H locs hS h => ?_)
    refine lv_icmp_ge (tgt := 94) hx hb dX12_book_21 (by decide) (fun c_21 => ?_) (fun c_21 => ?_)
    · replace h := ez_ifp h c_21
      exact K_94  σ h0 x1 x2 _ _ _ hS h (lv_sub hl [0, 1, 2] rfl)
    · replace h := ez_ifn h c_21
      refine lv_iload_n hx hb dX12_book_24 rfl (lv_at hl 2 rfl) ?_
      refine lv_iload_n hx hb dX12_book_25 rfl (lv_at hl 1 rfl) ?_
      refine lv_icmp_gt (tgt := 94) hx hb dX12_book_26 (by decide) (fun c_26 => ?_) (fun c_26 => ?_)
      · replace h := ez_ifp h c_26
        exact K_94  σ h0 x1 x2 _ _ _ hS h (lv_sub hl [0, 1, 2] rfl)
      · replace h := ez_ifn h c_26
        refine lv_aload_n hx hb dX12_book_29 rfl (lv_at hl 0 rfl) ?_
        refine lv_iload_n hx hb dX12_book_30 rfl (lv_at hl 3 rfl) ?_
        refine ez_cVpi (As := [.int x3]) (rest := []) h (fun _ q => c_X12_isLegal q) hC k_X12_isLegal ql_RX12_456 rfl (by decide) hS (fun _ q => ez_rcv q) rfl hl.1 rfl (Nat.le_of_ble_eq_true rfl) ⟨Nat.zero_le _, Nat.zero_le _⟩ dX12_book_31 (fun t_31 H locs hS h => ?_)
        refine lv_istore (lv' := [(4, .int t_31), (0, .ref (B + h0)), (1, .int x1), (2, .int x2), (3, .int x3)]) hx hb dX12_book_34 hl (by decide) rfl (fun ls hl => ?_)
        refine lv_iconst (v := 0) hx hb dX12_book_36 (by decide) ?_
        refine lv_istore (lv' := [(5, .int 0), (4, .int t_31), (0, .ref (B + h0)), (1, .int x1), (2, .int x2), (3, .int x3)]) hx hb dX12_book_37 hl (by decide) rfl (fun ls hl => ?_)
        exact E_39 k_16 hk_16 σ h0 x1 x2 x3 t_31 (0 : Int32) _ _ _ hS h (lv_sub hl [2, 3, 4, 5, 1, 0] rfl)
  have E_16 : ∀ (σ : ez_H) (h0 : Nat) (x1 : Int32) (x2 : Int32) (x3 : Int32) (H : Heap) (locs : List Loc) (ls : Array Slot), ez_S X B s.heap (σ0.length) σ H locs → (ez_fix (fun _ _ _ _ _ => none) (z_X12_book_16) ez_N) σ h0 x1 x2 x3 = some z → lv_has ls 6 [(0, .ref (B + h0)), (1, .int x1), (2, .int x2), (3, .int x3)] → W p l e R s m args below meth c H locs 0 0 Q (F0 m 16 ls []) := ez_fix_ind (fun k_16 : ez_H → Nat → Int32 → Int32 → Int32 → Option (Int32 × ez_H) => ∀ (σ : ez_H) (h0 : Nat) (x1 : Int32) (x2 : Int32) (x3 : Int32) (H : Heap) (locs : List Loc) (ls : Array Slot), ez_S X B s.heap (σ0.length) σ H locs → k_16 σ h0 x1 x2 x3 = some z → lv_has ls 6 [(0, .ref (B + h0)), (1, .int x1), (2, .int x2), (3, .int x3)] → W p l e R s m args below meth c H locs 0 0 Q (F0 m 16 ls [])) (fun _ _ _ _ _ _ _ _ _ h _ => by cases h) (fun k_16 hk_16 => K_16 k_16 hk_16) ez_N
  refine lv_iload_n hx hb dX12_book_0 rfl (lv_at hl 1 rfl) ?_
  refine lv_iconst (v := 0) hx hb dX12_book_1 (by decide) ?_
  refine lv_bipush (v := 59) hx hb dX12_book_2 (by decide) ?_
  refine ez_cSpi (As := [.int x1, .int 0, .int 59]) (rest := []) h (fun _ q => c_X12_isIn q) hC k_X12_isIn ql_RX12_407 rfl (by decide) hS hl.1 rfl (Nat.le_of_ble_eq_true rfl) ⟨Nat.zero_le _, Nat.zero_le _⟩ dX12_book_4 (fun t_4 H locs hS h => ?_)
  refine lv_if_ne (tgt := 12) hx hb dX12_book_7 (by decide) (fun c_7 => ?_) (fun c_7 => ?_)
  · replace h := ez_ifn h c_7
    refine lv_iconst (v := 0) hx hb dX12_book_12 (by decide) ?_
    refine lv_istore_n (lv' := [(2, .int 0), (0, .ref (B + h0)), (1, .int x1)]) hx hb dX12_book_13 rfl hl (by decide) rfl (fun ls hl => ?_)
    refine lv_iconst (v := 0) hx hb dX12_book_14 (by decide) ?_
    refine lv_istore_n (lv' := [(3, .int 0), (2, .int 0), (0, .ref (B + h0)), (1, .int x1)]) hx hb dX12_book_15 rfl hl (by decide) rfl (fun ls hl => ?_)
    exact E_16  σ h0 x1 (0 : Int32) (0 : Int32) _ _ _ hS h (lv_sub hl [2, 3, 1, 0] rfl)
  · replace h := ez_ifp h c_7
    refine lv_iconst (v := -1) hx hb dX12_book_10 (by decide) ?_
    exact hret _ _ _ _ _ _ (Option.some.inj h) rfl hS dX12_book_11
set_option maxHeartbeats 4000000 in
set_option maxRecDepth 100000 in
theorem c_X12_mustOf {l : Launch} {X : ez_X} {B : Nat} {σ : ez_H} {h0 : Nat} {x1 : Int32} {z : Int32} (h : z_X12_mustOf σ h0 x1 = some z) : ez_M l X B σ yX12_mustOf cX12_mustOf 2 (some .int) 0 [.ref (B + h0), .int x1] (some (.int z)) σ := by
  refine ez_startip (z := z) (by decide) (Nat.le_of_ble_eq_true rfl) (fun p e R s m args below meth c Q hC hret hS ls hl => ?_)
  have hC : ez_C p R s m args c X B RX12 cX12_mustOf 2 0 := hC
  have hx := hC.1.1
  have hb := hC.1.2.1
  have hown := hC.1.2.2.2.1
  have hts := hC.1.2.2.2.2
  have hl : lv_has ls 2 [(0, .ref (B + h0)), (1, .int x1)] := hl
  obtain ⟨n0, e0⟩ : ∃ n0 : Nat, n0 = σ.length := ⟨_, rfl⟩
  rw [← e0] at hret hS
  obtain ⟨-, h⟩ := ez_in h
  refine lv_aload_n hx hb dX12_mustOf_0 rfl (lv_at hl 0 rfl) ?_
  refine eg_RX12_75 hC hS h dX12_mustOf_1 (fun t_1 h => ?_)
  refine lv_bipush (v := 6) hx hb dX12_mustOf_4 (by decide) ?_
  refine lv_aload_n hx hb dX12_mustOf_6 rfl (lv_at hl 0 rfl) ?_
  refine eg_RX12_274 hC hS h dX12_mustOf_7 (fun t_7 h => ?_)
  refine lv_imul hx hb dX12_mustOf_10 ?_
  refine ez_top h (fun t_10 h => ?_)
  refine lv_iload_n hx hb dX12_mustOf_11 rfl (lv_at hl 1 rfl) ?_
  refine lv_iadd hx hb dX12_mustOf_12 ?_
  refine ez_top h (fun t_12 h => ?_)
  refine ez_ial hC hS h dX12_mustOf_13 (fun t_13 h => ?_)
  exact hret _ _ _ _ _ (Option.some.inj h) rfl hS dX12_mustOf_14
set_option maxHeartbeats 4000000 in
set_option maxRecDepth 100000 in
theorem c_X12_neverOf {l : Launch} {X : ez_X} {B : Nat} {σ : ez_H} {h0 : Nat} {x1 : Int32} {z : Int32} (h : z_X12_neverOf σ h0 x1 = some z) : ez_M l X B σ yX12_neverOf cX12_neverOf 2 (some .int) 0 [.ref (B + h0), .int x1] (some (.int z)) σ := by
  refine ez_startip (z := z) (by decide) (Nat.le_of_ble_eq_true rfl) (fun p e R s m args below meth c Q hC hret hS ls hl => ?_)
  have hC : ez_C p R s m args c X B RX12 cX12_neverOf 2 0 := hC
  have hx := hC.1.1
  have hb := hC.1.2.1
  have hown := hC.1.2.2.2.1
  have hts := hC.1.2.2.2.2
  have hl : lv_has ls 2 [(0, .ref (B + h0)), (1, .int x1)] := hl
  obtain ⟨n0, e0⟩ : ∃ n0 : Nat, n0 = σ.length := ⟨_, rfl⟩
  rw [← e0] at hret hS
  obtain ⟨-, h⟩ := ez_in h
  refine lv_aload_n hx hb dX12_neverOf_0 rfl (lv_at hl 0 rfl) ?_
  refine eg_RX12_78 hC hS h dX12_neverOf_1 (fun t_1 h => ?_)
  refine lv_bipush (v := 6) hx hb dX12_neverOf_4 (by decide) ?_
  refine lv_aload_n hx hb dX12_neverOf_6 rfl (lv_at hl 0 rfl) ?_
  refine eg_RX12_274 hC hS h dX12_neverOf_7 (fun t_7 h => ?_)
  refine lv_imul hx hb dX12_neverOf_10 ?_
  refine ez_top h (fun t_10 h => ?_)
  refine lv_iload_n hx hb dX12_neverOf_11 rfl (lv_at hl 1 rfl) ?_
  refine lv_iadd hx hb dX12_neverOf_12 ?_
  refine ez_top h (fun t_12 h => ?_)
  refine ez_ial hC hS h dX12_neverOf_13 (fun t_13 h => ?_)
  exact hret _ _ _ _ _ (Option.some.inj h) rfl hS dX12_neverOf_14
set_option maxHeartbeats 4000000 in
set_option maxRecDepth 100000 in
theorem c_X12_isBroken {l : Launch} {X : ez_X} {B : Nat} {σ : ez_H} {h0 : Nat} {x1 : Int32} {x2 : Int32} {z : Int32} (h : z_X12_isBroken σ h0 x1 x2 = some z) : ez_M l X B σ yX12_isBroken cX12_isBroken 3 (some .boolean) 3 [.ref (B + h0), .int x1, .int x2] (some (.int z)) σ := by
  refine ez_startip (z := z) (by decide) (Nat.le_of_ble_eq_true rfl) (fun p e R s m args below meth c Q hC hret hS ls hl => ?_)
  have hC : ez_C p R s m args c X B RX12 cX12_isBroken 3 3 := hC
  have hx := hC.1.1
  have hb := hC.1.2.1
  have hown := hC.1.2.2.2.1
  have hts := hC.1.2.2.2.2
  have hl : lv_has ls 3 [(0, .ref (B + h0)), (1, .int x1), (2, .int x2)] := hl
  obtain ⟨n0, e0⟩ : ∃ n0 : Nat, n0 = σ.length := ⟨_, rfl⟩
  rw [← e0] at hret hS
  obtain ⟨-, h⟩ := ez_in h
  have K_47 : ∀ (y0 : Int32) (H : Heap) (locs : List Loc) (ls : Array Slot), ez_S X B s.heap (n0) σ H locs → z_X12_isBroken_47 σ y0 = some z → lv_has ls 3 [] → W p l e R s m args below meth c H locs 0 0 Q (F0 m 47 ls [.int y0]) := by
    intro y0 H locs ls hS h hl
    obtain ⟨hn, h⟩ := ez_nr_sp rfl h
    exact hret _ _ _ _ _ (Option.some.inj h) hn hS dX12_isBroken_47
  have K_46 : ∀ (H : Heap) (locs : List Loc) (ls : Array Slot), ez_S X B s.heap (n0) σ H locs → z_X12_isBroken_46 σ = some z → lv_has ls 3 [] → W p l e R s m args below meth c H locs 0 0 Q (F0 m 46 ls []) := by
    intro  H locs ls hS h hl
    refine lv_iconst (v := 0) hx hb dX12_isBroken_46 (by decide) ?_
    exact K_47  (0 : Int32) _ _ _ hS h (lv_sub hl [] rfl)
  have K_42 : ∀ (H : Heap) (locs : List Loc) (ls : Array Slot), ez_S X B s.heap (n0) σ H locs → z_X12_isBroken_42 σ = some z → lv_has ls 3 [] → W p l e R s m args below meth c H locs 0 0 Q (F0 m 42 ls []) := by
    intro  H locs ls hS h hl
    refine lv_iconst (v := 1) hx hb dX12_isBroken_42 (by decide) ?_
    refine lv_goto (tgt := 47) hx hb dX12_isBroken_43 (by decide) ?_
    exact K_47  (1 : Int32) _ _ _ hS h (lv_sub hl [] rfl)
  have K_21 : ∀ (h0 : Nat) (x1 : Int32) (x2 : Int32) (H : Heap) (locs : List Loc) (ls : Array Slot), ez_S X B s.heap (n0) σ H locs → z_X12_isBroken_21 σ h0 x1 x2 = some z → lv_has ls 3 [(0, .ref (B + h0)), (1, .int x1), (2, .int x2)] → W p l e R s m args below meth c H locs 0 0 Q (F0 m 21 ls []) := by
    intro h0 x1 x2 H locs ls hS h hl
    refine lv_aload_n hx hb dX12_isBroken_21 rfl (lv_at hl 0 rfl) ?_
    refine lv_iload_n hx hb dX12_isBroken_22 rfl (lv_at hl 2 rfl) ?_
    refine ez_cVpi (As := [.int x2]) (rest := []) h (fun _ q => c_X12_neverOf q) hC k_X12_neverOf ql_RX12_489 rfl (by decide) hS (fun _ q => ez_rcv q) rfl hl.1 rfl (Nat.le_of_ble_eq_true rfl) ⟨Nat.zero_le _, Nat.zero_le _⟩ dX12_isBroken_23 (fun t_23 H locs hS h => ?_)
    refine lv_iload_n hx hb dX12_isBroken_26 rfl (lv_at hl 1 rfl) ?_
    refine ez_cSpi (As := [.int t_23, .int x1]) (rest := []) h (fun _ q => c_X12_bit q) hC k_X12_bit ql_RX12_261 rfl (by decide) hS hl.1 rfl (Nat.le_of_ble_eq_true rfl) ⟨Nat.zero_le _, Nat.zero_le _⟩ dX12_isBroken_27 (fun t_27 H locs hS h => ?_)
    refine lv_if_eq (tgt := 46) hx hb dX12_isBroken_30 (by decide) (fun c_30 => ?_) (fun c_30 => ?_)
    · replace h := ez_ifp h c_30
      exact K_46   _ _ _ hS h (lv_sub hl [] rfl)
    · replace h := ez_ifn h c_30
      refine lv_aload_n hx hb dX12_isBroken_33 rfl (lv_at hl 0 rfl) ?_
      refine lv_iload_n hx hb dX12_isBroken_34 rfl (lv_at hl 1 rfl) ?_
      refine lv_iload_n hx hb dX12_isBroken_35 rfl (lv_at hl 2 rfl) ?_
      refine ez_cVpi (As := [.int x1, .int x2]) (rest := []) h (fun _ q => c_X12_opensBy q) hC k_X12_opensBy ql_RX12_474 rfl (by decide) hS (fun _ q => ez_rcv q) rfl hl.1 rfl (Nat.le_of_ble_eq_true rfl) ⟨Nat.zero_le _, Nat.zero_le _⟩ dX12_isBroken_36 (fun t_36 H locs hS h => ?_)
      refine lv_if_eq (tgt := 46) hx hb dX12_isBroken_39 (by decide) (fun c_39 => ?_) (fun c_39 => ?_)
      · replace h := ez_ifp h c_39
        exact K_46   _ _ _ hS h (lv_sub hl [] rfl)
      · replace h := ez_ifn h c_39
        exact K_42   _ _ _ hS h (lv_sub hl [] rfl)
  refine lv_aload_n hx hb dX12_isBroken_0 rfl (lv_at hl 0 rfl) ?_
  refine lv_iload_n hx hb dX12_isBroken_1 rfl (lv_at hl 2 rfl) ?_
  refine ez_cVpi (As := [.int x2]) (rest := []) h (fun _ q => c_X12_mustOf q) hC k_X12_mustOf ql_RX12_486 rfl (by decide) hS (fun _ q => ez_rcv q) rfl hl.1 rfl (Nat.le_of_ble_eq_true rfl) ⟨Nat.zero_le _, Nat.zero_le _⟩ dX12_isBroken_2 (fun t_2 H locs hS h => ?_)
  refine lv_iload_n hx hb dX12_isBroken_5 rfl (lv_at hl 1 rfl) ?_
  refine ez_cSpi (As := [.int t_2, .int x1]) (rest := []) h (fun _ q => c_X12_bit q) hC k_X12_bit ql_RX12_261 rfl (by decide) hS hl.1 rfl (Nat.le_of_ble_eq_true rfl) ⟨Nat.zero_le _, Nat.zero_le _⟩ dX12_isBroken_6 (fun t_6 H locs hS h => ?_)
  refine lv_if_eq (tgt := 21) hx hb dX12_isBroken_9 (by decide) (fun c_9 => ?_) (fun c_9 => ?_)
  · replace h := ez_ifp h c_9
    exact K_21  h0 x1 x2 _ _ _ hS h (lv_sub hl [0, 1, 2] rfl)
  · replace h := ez_ifn h c_9
    refine lv_aload_n hx hb dX12_isBroken_12 rfl (lv_at hl 0 rfl) ?_
    refine lv_iload_n hx hb dX12_isBroken_13 rfl (lv_at hl 1 rfl) ?_
    refine lv_iload_n hx hb dX12_isBroken_14 rfl (lv_at hl 2 rfl) ?_
    refine ez_cVpi (As := [.int x1, .int x2]) (rest := []) h (fun _ q => c_X12_opensBy q) hC k_X12_opensBy ql_RX12_474 rfl (by decide) hS (fun _ q => ez_rcv q) rfl hl.1 rfl (Nat.le_of_ble_eq_true rfl) ⟨Nat.zero_le _, Nat.zero_le _⟩ dX12_isBroken_15 (fun t_15 H locs hS h => ?_)
    refine lv_if_eq (tgt := 42) hx hb dX12_isBroken_18 (by decide) (fun c_18 => ?_) (fun c_18 => ?_)
    · replace h := ez_ifp h c_18
      exact K_42   _ _ _ hS h (lv_sub hl [] rfl)
    · replace h := ez_ifn h c_18
      exact K_21  h0 x1 x2 _ _ _ hS h (lv_sub hl [0, 1, 2] rfl)
set_option maxHeartbeats 4000000 in
set_option maxRecDepth 100000 in
theorem c_X12_broken {l : Launch} {X : ez_X} {B : Nat} {σ : ez_H} {h0 : Nat} {x1 : Int32} {z : Int32} (h : z_X12_broken σ h0 x1 = some z) : ez_M l X B σ yX12_broken cX12_broken 7 (some .int) 4 [.ref (B + h0), .int x1] (some (.int z)) σ := by
  refine ez_startip (z := z) (by decide) (Nat.le_of_ble_eq_true rfl) (fun p e R s m args below meth c Q hC hret hS ls hl => ?_)
  have hC : ez_C p R s m args c X B RX12 cX12_broken 7 4 := hC
  have hx := hC.1.1
  have hb := hC.1.2.1
  have hown := hC.1.2.2.2.1
  have hts := hC.1.2.2.2.2
  have hl : lv_has ls 7 [(0, .ref (B + h0)), (1, .int x1)] := hl
  obtain ⟨n0, e0⟩ : ∃ n0 : Nat, n0 = σ.length := ⟨_, rfl⟩
  rw [← e0] at hret hS
  obtain ⟨-, h⟩ := ez_in h
  have K_101 : ∀ (y0 : Int32) (H : Heap) (locs : List Loc) (ls : Array Slot), ez_S X B s.heap (n0) σ H locs → z_X12_broken_101 σ y0 = some z → lv_has ls 7 [] → W p l e R s m args below meth c H locs 0 0 Q (F0 m 101 ls [.int y0]) := by
    intro y0 H locs ls hS h hl
    exact hret _ _ _ _ _ (Option.some.inj h) rfl hS dX12_broken_101
  have K_70 : ∀ (k_21 : Nat → Int32 → Int32 → Int32 → Int32 → Int32 → Option (Int32)) (hk_21 : ∀ (h0 : Nat) (x1 : Int32) (x2 : Int32) (x3 : Int32) (x4 : Int32) (x5 : Int32) (H : Heap) (locs : List Loc) (ls : Array Slot), ez_S X B s.heap (n0) σ H locs → k_21 h0 x1 x2 x3 x4 x5 = some z → lv_has ls 7 [(0, .ref (B + h0)), (1, .int x1), (2, .int x2), (3, .int x3), (4, .int x4), (5, .int x5)] → W p l e R s m args below meth c H locs 0 0 Q (F0 m 21 ls [])) (k_33 : Nat → Int32 → Int32 → Int32 → Int32 → Int32 → Int32 → Option (Int32)) (hk_33 : ∀ (h0 : Nat) (x1 : Int32) (x2 : Int32) (x3 : Int32) (x4 : Int32) (x5 : Int32) (x6 : Int32) (H : Heap) (locs : List Loc) (ls : Array Slot), ez_S X B s.heap (n0) σ H locs → k_33 h0 x1 x2 x3 x4 x5 x6 = some z → lv_has ls 7 [(0, .ref (B + h0)), (1, .int x1), (2, .int x2), (3, .int x3), (4, .int x4), (5, .int x5), (6, .int x6)] → W p l e R s m args below meth c H locs 0 0 Q (F0 m 33 ls [])), ∀ (h0 : Nat) (x1 : Int32) (x2 : Int32) (x3 : Int32) (x4 : Int32) (x5 : Int32) (x6 : Int32) (H : Heap) (locs : List Loc) (ls : Array Slot), ez_S X B s.heap (n0) σ H locs → z_X12_broken_70 σ k_21 k_33 h0 x1 x2 x3 x4 x5 x6 = some z → lv_has ls 7 [(0, .ref (B + h0)), (1, .int x1), (2, .int x2), (3, .int x3), (4, .int x4), (5, .int x5), (6, .int x6)] → W p l e R s m args below meth c H locs 0 0 Q (F0 m 70 ls []) := by
    intro k_21 hk_21 k_33 hk_33 h0 x1 x2 x3 x4 x5 x6 H locs ls hS h hl
    obtain ⟨t_70, e_70, h⟩ := ez_let_sp h
    refine lv_iinc (v := t_70) (lv' := [(6, .int t_70), (0, .ref (B + h0)), (1, .int x1), (2, .int x2), (3, .int x3), (4, .int x4), (5, .int x5)]) hx hb dX12_broken_70 hl (k := 6) rfl (by rw [e_70]; rfl) (by decide) rfl (fun ls hl => ?_)
    refine lv_goto (tgt := 33) hx hb dX12_broken_73 (by decide) ?_
    exact hk_33 h0 x1 x2 x3 x4 x5 t_70 _ _ _ hS h (lv_sub hl [1, 2, 3, 4, 5, 6, 0] rfl)
  have K_67 : ∀ (k_21 : Nat → Int32 → Int32 → Int32 → Int32 → Int32 → Option (Int32)) (hk_21 : ∀ (h0 : Nat) (x1 : Int32) (x2 : Int32) (x3 : Int32) (x4 : Int32) (x5 : Int32) (H : Heap) (locs : List Loc) (ls : Array Slot), ez_S X B s.heap (n0) σ H locs → k_21 h0 x1 x2 x3 x4 x5 = some z → lv_has ls 7 [(0, .ref (B + h0)), (1, .int x1), (2, .int x2), (3, .int x3), (4, .int x4), (5, .int x5)] → W p l e R s m args below meth c H locs 0 0 Q (F0 m 21 ls [])) (k_33 : Nat → Int32 → Int32 → Int32 → Int32 → Int32 → Int32 → Option (Int32)) (hk_33 : ∀ (h0 : Nat) (x1 : Int32) (x2 : Int32) (x3 : Int32) (x4 : Int32) (x5 : Int32) (x6 : Int32) (H : Heap) (locs : List Loc) (ls : Array Slot), ez_S X B s.heap (n0) σ H locs → k_33 h0 x1 x2 x3 x4 x5 x6 = some z → lv_has ls 7 [(0, .ref (B + h0)), (1, .int x1), (2, .int x2), (3, .int x3), (4, .int x4), (5, .int x5), (6, .int x6)] → W p l e R s m args below meth c H locs 0 0 Q (F0 m 33 ls [])), ∀ (h0 : Nat) (x1 : Int32) (x2 : Int32) (x3 : Int32) (x4 : Int32) (x5 : Int32) (x6 : Int32) (H : Heap) (locs : List Loc) (ls : Array Slot), ez_S X B s.heap (n0) σ H locs → z_X12_broken_67 σ k_21 k_33 h0 x1 x2 x3 x4 x5 x6 = some z → lv_has ls 7 [(0, .ref (B + h0)), (1, .int x1), (2, .int x2), (3, .int x3), (4, .int x4), (5, .int x5), (6, .int x6)] → W p l e R s m args below meth c H locs 0 0 Q (F0 m 67 ls []) := by
    intro k_21 hk_21 k_33 hk_33 h0 x1 x2 x3 x4 x5 x6 H locs ls hS h hl
    obtain ⟨t_67, e_67, h⟩ := ez_let_sp h
    refine lv_iinc (v := t_67) (lv' := [(2, .int t_67), (0, .ref (B + h0)), (1, .int x1), (3, .int x3), (4, .int x4), (5, .int x5), (6, .int x6)]) hx hb dX12_broken_67 hl (k := 2) rfl (by rw [e_67]; rfl) (by decide) rfl (fun ls hl => ?_)
    exact K_70 k_21 hk_21 k_33 hk_33 h0 x1 t_67 x3 x4 x5 x6 _ _ _ hS h (lv_sub hl [1, 2, 0, 3, 4, 5, 6] rfl)
  have K_33 : ∀ (k_21 : Nat → Int32 → Int32 → Int32 → Int32 → Int32 → Option (Int32)) (hk_21 : ∀ (h0 : Nat) (x1 : Int32) (x2 : Int32) (x3 : Int32) (x4 : Int32) (x5 : Int32) (H : Heap) (locs : List Loc) (ls : Array Slot), ez_S X B s.heap (n0) σ H locs → k_21 h0 x1 x2 x3 x4 x5 = some z → lv_has ls 7 [(0, .ref (B + h0)), (1, .int x1), (2, .int x2), (3, .int x3), (4, .int x4), (5, .int x5)] → W p l e R s m args below meth c H locs 0 0 Q (F0 m 21 ls [])) (k_33 : Nat → Int32 → Int32 → Int32 → Int32 → Int32 → Int32 → Option (Int32)) (hk_33 : ∀ (h0 : Nat) (x1 : Int32) (x2 : Int32) (x3 : Int32) (x4 : Int32) (x5 : Int32) (x6 : Int32) (H : Heap) (locs : List Loc) (ls : Array Slot), ez_S X B s.heap (n0) σ H locs → k_33 h0 x1 x2 x3 x4 x5 x6 = some z → lv_has ls 7 [(0, .ref (B + h0)), (1, .int x1), (2, .int x2), (3, .int x3), (4, .int x4), (5, .int x5), (6, .int x6)] → W p l e R s m args below meth c H locs 0 0 Q (F0 m 33 ls [])), ∀ (h0 : Nat) (x1 : Int32) (x2 : Int32) (x3 : Int32) (x4 : Int32) (x5 : Int32) (x6 : Int32) (H : Heap) (locs : List Loc) (ls : Array Slot), ez_S X B s.heap (n0) σ H locs → z_X12_broken_33 σ k_21 k_33 h0 x1 x2 x3 x4 x5 x6 = some z → lv_has ls 7 [(0, .ref (B + h0)), (1, .int x1), (2, .int x2), (3, .int x3), (4, .int x4), (5, .int x5), (6, .int x6)] → W p l e R s m args below meth c H locs 0 0 Q (F0 m 33 ls []) := by
    intro k_21 hk_21 k_33 hk_33 h0 x1 x2 x3 x4 x5 x6 H locs ls hS h hl
    refine lv_iload hx hb dX12_broken_33 (lv_at hl 6 rfl) ?_
    refine lv_aload_n hx hb dX12_broken_35 rfl (lv_at hl 0 rfl) ?_
    refine ez_cVpi (As := []) (rest := [.int x6]) h (fun _ q => c_X12_bolts q) hC k_X12_bolts ql_RX12_411 rfl (by decide) hS (fun _ q => ez_rcv q) rfl hl.1 rfl (Nat.le_of_ble_eq_true rfl) ⟨Nat.zero_le _, Nat.zero_le _⟩ dX12_broken_36 (fun t_36 H locs hS h => ?_)
    refine lv_icmp_ge (tgt := 76) hx hb dX12_broken_39 (by decide) (fun c_39 => ?_) (fun c_39 => ?_)
    · replace h := ez_ifp h c_39
      obtain ⟨t_76, e_76, h⟩ := ez_let_sp h
      refine lv_iinc (v := t_76) (lv' := [(5, .int t_76), (0, .ref (B + h0)), (1, .int x1), (2, .int x2), (3, .int x3), (4, .int x4), (6, .int x6)]) hx hb dX12_broken_76 hl (k := 5) rfl (by rw [e_76]; rfl) (by decide) rfl (fun ls hl => ?_)
      refine lv_goto (tgt := 21) hx hb dX12_broken_79 (by decide) ?_
      exact hk_21 h0 x1 x2 x3 x4 t_76 _ _ _ hS h (lv_sub hl [1, 2, 3, 4, 5, 0] rfl)
    · replace h := ez_ifn h c_39
      refine lv_aload_n hx hb dX12_broken_42 rfl (lv_at hl 0 rfl) ?_
      refine lv_iload hx hb dX12_broken_43 (lv_at hl 5 rfl) ?_
      refine lv_iload hx hb dX12_broken_45 (lv_at hl 6 rfl) ?_
      refine ez_cVpi (As := [.int x5, .int x6]) (rest := []) h (fun _ q => c_X12_isBroken q) hC k_X12_isBroken ql_RX12_547 rfl (by decide) hS (fun _ q => ez_rcv q) rfl hl.1 rfl (Nat.le_of_ble_eq_true rfl) ⟨Nat.zero_le _, Nat.zero_le _⟩ dX12_broken_47 (fun t_47 H locs hS h => ?_)
      refine lv_if_ne (tgt := 56) hx hb dX12_broken_50 (by decide) (fun c_50 => ?_) (fun c_50 => ?_)
      · replace h := ez_ifn h c_50
        refine lv_iload_n hx hb dX12_broken_56 rfl (lv_at hl 2 rfl) ?_
        refine lv_if_ne (tgt := 67) hx hb dX12_broken_57 (by decide) (fun c_57 => ?_) (fun c_57 => ?_)
        · replace h := ez_ifn h c_57
          exact K_67 k_21 hk_21 k_33 hk_33 h0 x1 x2 x3 x4 x5 x6 _ _ _ hS h (lv_sub hl [0, 1, 2, 3, 4, 5, 6] rfl)
        · replace h := ez_ifp h c_57
          refine lv_iload hx hb dX12_broken_60 (lv_at hl 5 rfl) ?_
          refine lv_istore_n (lv' := [(3, .int x5), (0, .ref (B + h0)), (1, .int x1), (2, .int x2), (4, .int x4), (5, .int x5), (6, .int x6)]) hx hb dX12_broken_62 rfl hl (by decide) rfl (fun ls hl => ?_)
          refine lv_iload hx hb dX12_broken_63 (lv_at hl 6 rfl) ?_
          refine lv_istore (lv' := [(4, .int x6), (3, .int x5), (0, .ref (B + h0)), (1, .int x1), (2, .int x2), (5, .int x5), (6, .int x6)]) hx hb dX12_broken_65 hl (by decide) rfl (fun ls hl => ?_)
          exact K_67 k_21 hk_21 k_33 hk_33 h0 x1 x2 x5 x6 x5 x6 _ _ _ hS h (lv_sub hl [2, 3, 4, 1, 0, 5, 6] rfl)
      · replace h := ez_ifp h c_50
        refine lv_goto (tgt := 70) hx hb dX12_broken_53 (by decide) ?_
        exact K_70 k_21 hk_21 k_33 hk_33 h0 x1 x2 x3 x4 x5 x6 _ _ _ hS h (lv_sub hl [0, 1, 2, 3, 4, 5, 6] rfl)
  have E_33 : ∀ (k_21 : Nat → Int32 → Int32 → Int32 → Int32 → Int32 → Option (Int32)) (hk_21 : ∀ (h0 : Nat) (x1 : Int32) (x2 : Int32) (x3 : Int32) (x4 : Int32) (x5 : Int32) (H : Heap) (locs : List Loc) (ls : Array Slot), ez_S X B s.heap (n0) σ H locs → k_21 h0 x1 x2 x3 x4 x5 = some z → lv_has ls 7 [(0, .ref (B + h0)), (1, .int x1), (2, .int x2), (3, .int x3), (4, .int x4), (5, .int x5)] → W p l e R s m args below meth c H locs 0 0 Q (F0 m 21 ls [])), ∀ (h0 : Nat) (x1 : Int32) (x2 : Int32) (x3 : Int32) (x4 : Int32) (x5 : Int32) (x6 : Int32) (H : Heap) (locs : List Loc) (ls : Array Slot), ez_S X B s.heap (n0) σ H locs → (ez_fix (fun _ _ _ _ _ _ _ => none) (z_X12_broken_33 σ k_21) ez_N) h0 x1 x2 x3 x4 x5 x6 = some z → lv_has ls 7 [(0, .ref (B + h0)), (1, .int x1), (2, .int x2), (3, .int x3), (4, .int x4), (5, .int x5), (6, .int x6)] → W p l e R s m args below meth c H locs 0 0 Q (F0 m 33 ls []) := fun k_21 hk_21 => ez_fix_ind (fun k_33 : Nat → Int32 → Int32 → Int32 → Int32 → Int32 → Int32 → Option (Int32) => ∀ (h0 : Nat) (x1 : Int32) (x2 : Int32) (x3 : Int32) (x4 : Int32) (x5 : Int32) (x6 : Int32) (H : Heap) (locs : List Loc) (ls : Array Slot), ez_S X B s.heap (n0) σ H locs → k_33 h0 x1 x2 x3 x4 x5 x6 = some z → lv_has ls 7 [(0, .ref (B + h0)), (1, .int x1), (2, .int x2), (3, .int x3), (4, .int x4), (5, .int x5), (6, .int x6)] → W p l e R s m args below meth c H locs 0 0 Q (F0 m 33 ls [])) (fun _ _ _ _ _ _ _ _ _ _ _ h _ => by cases h) (fun k_33 hk_33 => K_33 k_21 hk_21 k_33 hk_33) ez_N
  have K_21 : ∀ (k_21 : Nat → Int32 → Int32 → Int32 → Int32 → Int32 → Option (Int32)) (hk_21 : ∀ (h0 : Nat) (x1 : Int32) (x2 : Int32) (x3 : Int32) (x4 : Int32) (x5 : Int32) (H : Heap) (locs : List Loc) (ls : Array Slot), ez_S X B s.heap (n0) σ H locs → k_21 h0 x1 x2 x3 x4 x5 = some z → lv_has ls 7 [(0, .ref (B + h0)), (1, .int x1), (2, .int x2), (3, .int x3), (4, .int x4), (5, .int x5)] → W p l e R s m args below meth c H locs 0 0 Q (F0 m 21 ls [])), ∀ (h0 : Nat) (x1 : Int32) (x2 : Int32) (x3 : Int32) (x4 : Int32) (x5 : Int32) (H : Heap) (locs : List Loc) (ls : Array Slot), ez_S X B s.heap (n0) σ H locs → z_X12_broken_21 σ k_21 h0 x1 x2 x3 x4 x5 = some z → lv_has ls 7 [(0, .ref (B + h0)), (1, .int x1), (2, .int x2), (3, .int x3), (4, .int x4), (5, .int x5)] → W p l e R s m args below meth c H locs 0 0 Q (F0 m 21 ls []) := by
    intro k_21 hk_21 h0 x1 x2 x3 x4 x5 H locs ls hS h hl
    refine lv_iload hx hb dX12_broken_21 (lv_at hl 5 rfl) ?_
    refine lv_aload_n hx hb dX12_broken_23 rfl (lv_at hl 0 rfl) ?_
    refine ez_cVpi (As := []) (rest := [.int x5]) h (fun _ q => c_X12_many q) hC k_X12_many ql_RX12_404 rfl (by decide) hS (fun _ q => ez_rcv q) rfl hl.1 rfl (Nat.le_of_ble_eq_true rfl) ⟨Nat.zero_le _, Nat.zero_le _⟩ dX12_broken_24 (fun t_24 H locs hS h => ?_)
    refine lv_icmp_ge (tgt := 82) hx hb dX12_broken_27 (by decide) (fun c_27 => ?_) (fun c_27 => ?_)
    · replace h := ez_ifp h c_27
      refine lv_iload_n hx hb dX12_broken_82 rfl (lv_at hl 1 rfl) ?_
      refine lv_if_ne (tgt := 90) hx hb dX12_broken_83 (by decide) (fun c_83 => ?_) (fun c_83 => ?_)
      · replace h := ez_ifn h c_83
        refine lv_iload_n hx hb dX12_broken_90 rfl (lv_at hl 1 rfl) ?_
        refine lv_iconst (v := 1) hx hb dX12_broken_91 (by decide) ?_
        refine lv_icmp_ne (tgt := 99) hx hb dX12_broken_92 (by decide) (fun c_92 => ?_) (fun c_92 => ?_)
        · replace h := ez_ifn h c_92
          refine lv_iload hx hb dX12_broken_99 (lv_at hl 4 rfl) ?_
          exact K_101  x4 _ _ _ hS h (lv_sub hl [] rfl)
        · replace h := ez_ifp h c_92
          refine lv_iload_n hx hb dX12_broken_95 rfl (lv_at hl 3 rfl) ?_
          refine lv_goto (tgt := 101) hx hb dX12_broken_96 (by decide) ?_
          exact K_101  x3 _ _ _ hS h (lv_sub hl [] rfl)
      · replace h := ez_ifp h c_83
        refine lv_iload_n hx hb dX12_broken_86 rfl (lv_at hl 2 rfl) ?_
        refine lv_goto (tgt := 101) hx hb dX12_broken_87 (by decide) ?_
        exact K_101  x2 _ _ _ hS h (lv_sub hl [] rfl)
    · replace h := ez_ifn h c_27
      refine lv_iconst (v := 0) hx hb dX12_broken_30 (by decide) ?_
      refine lv_istore (lv' := [(6, .int 0), (0, .ref (B + h0)), (1, .int x1), (2, .int x2), (3, .int x3), (4, .int x4), (5, .int x5)]) hx hb dX12_broken_31 hl (by decide) rfl (fun ls hl => ?_)
      exact E_33 k_21 hk_21 h0 x1 x2 x3 x4 x5 (0 : Int32) _ _ _ hS h (lv_sub hl [1, 2, 3, 4, 5, 6, 0] rfl)
  have E_21 : ∀ (h0 : Nat) (x1 : Int32) (x2 : Int32) (x3 : Int32) (x4 : Int32) (x5 : Int32) (H : Heap) (locs : List Loc) (ls : Array Slot), ez_S X B s.heap (n0) σ H locs → (ez_fix (fun _ _ _ _ _ _ => none) (z_X12_broken_21 σ) ez_N) h0 x1 x2 x3 x4 x5 = some z → lv_has ls 7 [(0, .ref (B + h0)), (1, .int x1), (2, .int x2), (3, .int x3), (4, .int x4), (5, .int x5)] → W p l e R s m args below meth c H locs 0 0 Q (F0 m 21 ls []) := ez_fix_ind (fun k_21 : Nat → Int32 → Int32 → Int32 → Int32 → Int32 → Option (Int32) => ∀ (h0 : Nat) (x1 : Int32) (x2 : Int32) (x3 : Int32) (x4 : Int32) (x5 : Int32) (H : Heap) (locs : List Loc) (ls : Array Slot), ez_S X B s.heap (n0) σ H locs → k_21 h0 x1 x2 x3 x4 x5 = some z → lv_has ls 7 [(0, .ref (B + h0)), (1, .int x1), (2, .int x2), (3, .int x3), (4, .int x4), (5, .int x5)] → W p l e R s m args below meth c H locs 0 0 Q (F0 m 21 ls [])) (fun _ _ _ _ _ _ _ _ _ _ h _ => by cases h) (fun k_21 hk_21 => K_21 k_21 hk_21) ez_N
  refine lv_iload_n hx hb dX12_broken_0 rfl (lv_at hl 1 rfl) ?_
  refine lv_iconst (v := 0) hx hb dX12_broken_1 (by decide) ?_
  refine lv_iconst (v := 2) hx hb dX12_broken_2 (by decide) ?_
  refine ez_cSpi (As := [.int x1, .int 0, .int 2]) (rest := []) h (fun _ q => c_X12_isIn q) hC k_X12_isIn ql_RX12_407 rfl (by decide) hS hl.1 rfl (Nat.le_of_ble_eq_true rfl) ⟨Nat.zero_le _, Nat.zero_le _⟩ dX12_broken_3 (fun t_3 H locs hS h => ?_)
  refine lv_if_ne (tgt := 11) hx hb dX12_broken_6 (by decide) (fun c_6 => ?_) (fun c_6 => ?_)
  · replace h := ez_ifn h c_6
    refine lv_iconst (v := 0) hx hb dX12_broken_11 (by decide) ?_
    refine lv_istore_n (lv' := [(2, .int 0), (0, .ref (B + h0)), (1, .int x1)]) hx hb dX12_broken_12 rfl hl (by decide) rfl (fun ls hl => ?_)
    refine lv_iconst (v := -1) hx hb dX12_broken_13 (by decide) ?_
    refine lv_istore_n (lv' := [(3, .int (-1)), (2, .int 0), (0, .ref (B + h0)), (1, .int x1)]) hx hb dX12_broken_14 rfl hl (by decide) rfl (fun ls hl => ?_)
    refine lv_iconst (v := -1) hx hb dX12_broken_15 (by decide) ?_
    refine lv_istore (lv' := [(4, .int (-1)), (3, .int (-1)), (2, .int 0), (0, .ref (B + h0)), (1, .int x1)]) hx hb dX12_broken_16 hl (by decide) rfl (fun ls hl => ?_)
    refine lv_iconst (v := 0) hx hb dX12_broken_18 (by decide) ?_
    refine lv_istore (lv' := [(5, .int 0), (4, .int (-1)), (3, .int (-1)), (2, .int 0), (0, .ref (B + h0)), (1, .int x1)]) hx hb dX12_broken_19 hl (by decide) rfl (fun ls hl => ?_)
    exact E_21  h0 x1 (0 : Int32) (-1 : Int32) (-1 : Int32) (0 : Int32) _ _ _ hS h (lv_sub hl [4, 5, 3, 2, 1, 0] rfl)
  · replace h := ez_ifp h c_6
    refine lv_iconst (v := -1) hx hb dX12_broken_9 (by decide) ?_
    exact hret _ _ _ _ _ (Option.some.inj h) rfl hS dX12_broken_10
