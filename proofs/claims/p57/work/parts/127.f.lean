set_option maxHeartbeats 4000000 in
set_option maxRecDepth 100000 in
theorem c_X12_span {l : Launch} {X : ez_X} {B : Nat} {σ : ez_H} {h0 : Nat} {x1 : Int32} {x2 : Int32} {z : Int32} (h : z_X12_span σ h0 x1 x2 = some z) : ez_M l X B σ yX12_span cX12_span 5 (some .int) 2 [.ref (B + h0), .int x1, .int x2] (some (.int z)) σ := by
  refine ez_startip (z := z) (by decide) (Nat.le_of_ble_eq_true rfl) (fun p e R s m args below meth c Q hC hret hS ls hl => ?_)
  have hC : ez_C p R s m args c X B RX12 cX12_span 5 2 := hC
  have hx := hC.1.1
  have hb := hC.1.2.1
  have hown := hC.1.2.2.2.1
  have hts := hC.1.2.2.2.2
  have hl : lv_has ls 5 [(0, .ref (B + h0)), (1, .int x1), (2, .int x2)] := hl
  obtain ⟨n0, e0⟩ : ∃ n0 : Nat, n0 = σ.length := ⟨_, rfl⟩
  rw [← e0] at hret hS
  obtain ⟨-, h⟩ := ez_in h
  have K_16 : ∀ (H : Heap) (locs : List Loc) (ls : Array Slot), ez_S X B s.heap (n0) σ H locs → z_X12_span_16 σ = some z → lv_has ls 5 [] → W p l e R s m args below meth c H locs 0 0 Q (F0 m 16 ls []) := by
    intro  H locs ls hS h hl
    refine lv_iconst (v := -1) hx hb dX12_span_16 (by decide) ?_
    exact hret _ _ _ _ _ (Option.some.inj h) rfl hS dX12_span_17
  have K_23 : ∀ (k_23 : Nat → Int32 → Int32 → Int32 → Int32 → Option (Int32)) (hk_23 : ∀ (h0 : Nat) (x1 : Int32) (x2 : Int32) (x3 : Int32) (x4 : Int32) (H : Heap) (locs : List Loc) (ls : Array Slot), ez_S X B s.heap (n0) σ H locs → k_23 h0 x1 x2 x3 x4 = some z → lv_has ls 5 [(0, .ref (B + h0)), (1, .int x1), (2, .int x2), (3, .int x3), (4, .int x4)] → W p l e R s m args below meth c H locs 0 0 Q (F0 m 23 ls [])), ∀ (h0 : Nat) (x1 : Int32) (x2 : Int32) (x3 : Int32) (x4 : Int32) (H : Heap) (locs : List Loc) (ls : Array Slot), ez_S X B s.heap (n0) σ H locs → z_X12_span_23 σ k_23 h0 x1 x2 x3 x4 = some z → lv_has ls 5 [(0, .ref (B + h0)), (1, .int x1), (2, .int x2), (3, .int x3), (4, .int x4)] → W p l e R s m args below meth c H locs 0 0 Q (F0 m 23 ls []) := by
    intro k_23 hk_23 h0 x1 x2 x3 x4 H locs ls hS h hl
    refine lv_iload hx hb dX12_span_23 (lv_at hl 4 rfl) ?_
    refine lv_aload_n hx hb dX12_span_25 rfl (lv_at hl 0 rfl) ?_
    refine ez_cVpi (As := []) (rest := [.int x4]) h (fun _ q => c_X12_wide q) hC k_X12_wide ql_RX12_414 rfl (by decide) hS (fun _ q => ez_rcv q) rfl hl.1 rfl (Nat.le_of_ble_eq_true rfl) ⟨Nat.zero_le _, Nat.zero_le _⟩ dX12_span_26 (fun t_26 H locs hS h => ?_)
    refine lv_icmp_ge (tgt := 59) hx hb dX12_span_29 (by decide) (fun c_29 => ?_) (fun c_29 => ?_)
    · replace h := ez_ifp h c_29
      refine lv_iload_n hx hb dX12_span_59 rfl (lv_at hl 3 rfl) ?_
      exact hret _ _ _ _ _ (Option.some.inj h) rfl hS dX12_span_60
    · replace h := ez_ifn h c_29
      refine lv_iload_n hx hb dX12_span_32 rfl (lv_at hl 3 rfl) ?_
      refine lv_aload_n hx hb dX12_span_33 rfl (lv_at hl 0 rfl) ?_
      refine lv_iload_n hx hb dX12_span_34 rfl (lv_at hl 1 rfl) ?_
      refine lv_iload hx hb dX12_span_35 (lv_at hl 4 rfl) ?_
      refine ez_cVpi (As := [.int x1, .int x4]) (rest := [.int x3]) h (fun _ q => c_X12_cutOf q) hC k_X12_cutOf ql_RX12_444 rfl (by decide) hS (fun _ q => ez_rcv q) rfl hl.1 rfl (Nat.le_of_ble_eq_true rfl) ⟨Nat.zero_le _, Nat.zero_le _⟩ dX12_span_37 (fun t_37 H locs hS h => ?_)
      refine lv_aload_n hx hb dX12_span_40 rfl (lv_at hl 0 rfl) ?_
      refine lv_iload_n hx hb dX12_span_41 rfl (lv_at hl 2 rfl) ?_
      refine lv_iload hx hb dX12_span_42 (lv_at hl 4 rfl) ?_
      refine ez_cVpi (As := [.int x2, .int x4]) (rest := [.int t_37, .int x3]) h (fun _ q => c_X12_cutOf q) hC k_X12_cutOf ql_RX12_444 rfl (by decide) hS (fun _ q => ez_rcv q) rfl hl.1 rfl (Nat.le_of_ble_eq_true rfl) ⟨Nat.zero_le _, Nat.zero_le _⟩ dX12_span_44 (fun t_44 H locs hS h => ?_)
      refine lv_isub hx hb dX12_span_47 ?_
      refine ez_top h (fun t_47 h => ?_)
      refine ez_cSpi (As := [.int t_47]) (rest := [.int x3]) h (fun _ q => c_X12_absolute q) hC k_X12_absolute ql_RX12_435 rfl (by decide) hS hl.1 rfl (Nat.le_of_ble_eq_true rfl) ⟨Nat.zero_le _, Nat.zero_le _⟩ dX12_span_48 (fun t_48 H locs hS h => ?_)
      refine lv_iadd hx hb dX12_span_51 ?_
      refine ez_top h (fun t_51 h => ?_)
      refine lv_istore_n (lv' := [(3, .int t_51), (0, .ref (B + h0)), (1, .int x1), (2, .int x2), (4, .int x4)]) hx hb dX12_span_52 rfl hl (by decide) rfl (fun ls hl => ?_)
      obtain ⟨t_53, e_53, h⟩ := ez_let_sp h
      refine lv_iinc (v := t_53) (lv' := [(4, .int t_53), (3, .int t_51), (0, .ref (B + h0)), (1, .int x1), (2, .int x2)]) hx hb dX12_span_53 hl (k := 4) rfl (by rw [e_53]; rfl) (by decide) rfl (fun ls hl => ?_)
      refine lv_goto (tgt := 23) hx hb dX12_span_56 (by decide) ?_
      exact hk_23 h0 x1 x2 t_51 t_53 _ _ _ hS h (lv_sub hl [2, 3, 4, 1, 0] rfl)
  have E_23 : ∀ (h0 : Nat) (x1 : Int32) (x2 : Int32) (x3 : Int32) (x4 : Int32) (H : Heap) (locs : List Loc) (ls : Array Slot), ez_S X B s.heap (n0) σ H locs → (ez_fix (fun _ _ _ _ _ => none) (z_X12_span_23 σ) ez_N) h0 x1 x2 x3 x4 = some z → lv_has ls 5 [(0, .ref (B + h0)), (1, .int x1), (2, .int x2), (3, .int x3), (4, .int x4)] → W p l e R s m args below meth c H locs 0 0 Q (F0 m 23 ls []) := ez_fix_ind (fun k_23 : Nat → Int32 → Int32 → Int32 → Int32 → Option (Int32) => ∀ (h0 : Nat) (x1 : Int32) (x2 : Int32) (x3 : Int32) (x4 : Int32) (H : Heap) (locs : List Loc) (ls : Array Slot), ez_S X B s.heap (n0) σ H locs → k_23 h0 x1 x2 x3 x4 = some z → lv_has ls 5 [(0, .ref (B + h0)), (1, .int x1), (2, .int x2), (3, .int x3), (4, .int x4)] → W p l e R s m args below meth c H locs 0 0 Q (F0 m 23 ls [])) (fun _ _ _ _ _ _ _ _ _ h _ => by cases h) (fun k_23 hk_23 => K_23 k_23 hk_23) ez_N
  refine lv_aload_n hx hb dX12_span_0 rfl (lv_at hl 0 rfl) ?_
  refine lv_iload_n hx hb dX12_span_1 rfl (lv_at hl 1 rfl) ?_
  refine ez_cVpi (As := [.int x1]) (rest := []) h (fun _ q => c_X12_isKey q) hC k_X12_isKey ql_RX12_462 rfl (by decide) hS (fun _ q => ez_rcv q) rfl hl.1 rfl (Nat.le_of_ble_eq_true rfl) ⟨Nat.zero_le _, Nat.zero_le _⟩ dX12_span_2 (fun t_2 H locs hS h => ?_)
  refine lv_if_eq (tgt := 16) hx hb dX12_span_5 (by decide) (fun c_5 => ?_) (fun c_5 => ?_)
  · replace h := ez_ifp h c_5
    exact K_16   _ _ _ hS h (lv_sub hl [] rfl)
  · replace h := ez_ifn h c_5
    refine lv_aload_n hx hb dX12_span_8 rfl (lv_at hl 0 rfl) ?_
    refine lv_iload_n hx hb dX12_span_9 rfl (lv_at hl 2 rfl) ?_
    refine ez_cVpi (As := [.int x2]) (rest := []) h (fun _ q => c_X12_isKey q) hC k_X12_isKey ql_RX12_462 rfl (by decide) hS (fun _ q => ez_rcv q) rfl hl.1 rfl (Nat.le_of_ble_eq_true rfl) ⟨Nat.zero_le _, Nat.zero_le _⟩ dX12_span_10 (fun t_10 H locs hS h => ?_)
    refine lv_if_ne (tgt := 18) hx hb dX12_span_13 (by decide) (fun c_13 => ?_) (fun c_13 => ?_)
    · replace h := ez_ifn h c_13
      refine lv_iconst (v := 0) hx hb dX12_span_18 (by decide) ?_
      refine lv_istore_n (lv' := [(3, .int 0), (0, .ref (B + h0)), (1, .int x1), (2, .int x2)]) hx hb dX12_span_19 rfl hl (by decide) rfl (fun ls hl => ?_)
      refine lv_iconst (v := 0) hx hb dX12_span_20 (by decide) ?_
      refine lv_istore (lv' := [(4, .int 0), (3, .int 0), (0, .ref (B + h0)), (1, .int x1), (2, .int x2)]) hx hb dX12_span_21 hl (by decide) rfl (fun ls hl => ?_)
      exact E_23  h0 x1 x2 (0 : Int32) (0 : Int32) _ _ _ hS h (lv_sub hl [2, 3, 4, 1, 0] rfl)
    · replace h := ez_ifp h c_13
      exact K_16   _ _ _ hS h (lv_sub hl [] rfl)
set_option maxHeartbeats 4000000 in
set_option maxRecDepth 100000 in
theorem c_X12_strays {l : Launch} {X : ez_X} {B : Nat} {σ : ez_H} {h0 : Nat} {x1 : Int32} {z : Int32 × ez_H} (h : z_X12_strays σ h0 x1 = some z) : ez_M l X B σ yX12_strays cX12_strays 3 (some .int) 4 [.ref (B + h0), .int x1] (some (.int z.1)) z.2 := by
  refine ez_starti (z := z) (by decide) (Nat.le_of_ble_eq_true rfl) (fun p e R s m args below meth c Q hC hret hS ls hl => ?_)
  have hC : ez_C p R s m args c X B RX12 cX12_strays 3 4 := hC
  have hx := hC.1.1
  have hb := hC.1.2.1
  have hown := hC.1.2.2.2.1
  have hts := hC.1.2.2.2.2
  have hl : lv_has ls 3 [(0, .ref (B + h0)), (1, .int x1)] := hl
  obtain ⟨σ0, eσ⟩ : ∃ σ0 : ez_H, σ0 = σ := ⟨_, rfl⟩
  rw [← eσ] at hret
  have hS : ez_S X B s.heap σ0.length σ s.heap [] := eσ ▸ hS
  obtain ⟨-, h⟩ := ez_in h
  refine lv_iload_n hx hb dX12_strays_0 rfl (lv_at hl 1 rfl) ?_
  refine lv_iconst (v := 0) hx hb dX12_strays_1 (by decide) ?_
  refine lv_iconst (v := 2) hx hb dX12_strays_2 (by decide) ?_
  refine ez_cSpi (As := [.int x1, .int 0, .int 2]) (rest := []) h (fun _ q => c_X12_isIn q) hC k_X12_isIn ql_RX12_407 rfl (by decide) hS hl.1 rfl (Nat.le_of_ble_eq_true rfl) ⟨Nat.zero_le _, Nat.zero_le _⟩ dX12_strays_3 (fun t_3 H locs hS h => ?_)
  refine lv_if_ne (tgt := 11) hx hb dX12_strays_6 (by decide) (fun c_6 => ?_) (fun c_6 => ?_)
  · replace h := ez_ifn h c_6
    refine lv_aload_n hx hb dX12_strays_11 rfl (lv_at hl 0 rfl) ?_
    refine ez_cVv (As := []) (rest := []) h (fun _ q => c_X12_keepNow q) hC k_X12_keepNow ql_RX12_553 rfl (by decide) hS (fun _ q => ez_rcv q) rfl hl.1 rfl (Nat.le_of_ble_eq_true rfl) ⟨Nat.zero_le _, Nat.zero_le _⟩ dX12_strays_12 (fun _ σ H locs hS h => ?_)
    refine lv_aload_n hx hb dX12_strays_15 rfl (lv_at hl 0 rfl) ?_
    refine ez_cVv (As := []) (rest := []) h (fun _ q => c_X12_pinByPlan q) hC k_X12_pinByPlan ql_RX12_556 rfl (by decide) hS (fun _ q => ez_rcv q) rfl hl.1 rfl (Nat.le_of_ble_eq_true rfl) ⟨Nat.zero_le _, Nat.zero_le _⟩ dX12_strays_16 (fun _ σ H locs hS h => ?_)
    refine lv_aload_n hx hb dX12_strays_19 rfl (lv_at hl 0 rfl) ?_
    refine lv_iload_n hx hb dX12_strays_20 rfl (lv_at hl 1 rfl) ?_
    refine ez_cVpi (As := [.int x1]) (rest := []) h (fun _ q => c_X12_straysBy q) hC k_X12_straysBy ql_RX12_559 rfl (by decide) hS (fun _ q => ez_rcv q) rfl hl.1 rfl (Nat.le_of_ble_eq_true rfl) ⟨Nat.zero_le _, Nat.zero_le _⟩ dX12_strays_21 (fun t_21 H locs hS h => ?_)
    refine lv_istore_n (lv' := [(2, .int t_21), (0, .ref (B + h0)), (1, .int x1)]) hx hb dX12_strays_24 rfl hl (by decide) rfl (fun ls hl => ?_)
    refine lv_aload_n hx hb dX12_strays_25 rfl (lv_at hl 1 rfl) ?_
    refine ez_cVv (As := []) (rest := []) h (fun _ q => c_X12_bringBack q) hC k_X12_bringBack ql_RX12_562 rfl (by decide) hS (fun _ q => ez_rcv q) rfl hl.1 rfl (Nat.le_of_ble_eq_true rfl) ⟨Nat.zero_le _, Nat.zero_le _⟩ dX12_strays_26 (fun _ σ H locs hS h => ?_)
    refine lv_iload_n hx hb dX12_strays_29 rfl (lv_at hl 0 rfl) ?_
    exact hret _ _ _ _ _ _ (Option.some.inj h) rfl hS dX12_strays_30
  · replace h := ez_ifp h c_6
    refine lv_iconst (v := -1) hx hb dX12_strays_9 (by decide) ?_
    exact hret _ _ _ _ _ _ (Option.some.inj h) rfl hS dX12_strays_10
set_option maxHeartbeats 4000000 in
set_option maxRecDepth 100000 in
theorem c_X12_stuck {l : Launch} {X : ez_X} {B : Nat} {σ : ez_H} {h0 : Nat} {z : Int32} (h : z_X12_stuck σ h0 = some z) : ez_M l X B σ yX12_stuck cX12_stuck 3 (some .int) 3 [.ref (B + h0)] (some (.int z)) σ := by
  refine ez_startip (z := z) (by decide) (Nat.le_of_ble_eq_true rfl) (fun p e R s m args below meth c Q hC hret hS ls hl => ?_)
  have hC : ez_C p R s m args c X B RX12 cX12_stuck 3 3 := hC
  have hx := hC.1.1
  have hb := hC.1.2.1
  have hown := hC.1.2.2.2.1
  have hts := hC.1.2.2.2.2
  have hl : lv_has ls 3 [(0, .ref (B + h0))] := hl
  obtain ⟨n0, e0⟩ : ∃ n0 : Nat, n0 = σ.length := ⟨_, rfl⟩
  rw [← e0] at hret hS
  obtain ⟨-, h⟩ := ez_in h
  have K_43 : ∀ (k_11 : Nat → Int32 → Int32 → Option (Int32)) (hk_11 : ∀ (h0 : Nat) (x1 : Int32) (x2 : Int32) (H : Heap) (locs : List Loc) (ls : Array Slot), ez_S X B s.heap (n0) σ H locs → k_11 h0 x1 x2 = some z → lv_has ls 3 [(0, .ref (B + h0)), (1, .int x1), (2, .int x2)] → W p l e R s m args below meth c H locs 0 0 Q (F0 m 11 ls [])), ∀ (h0 : Nat) (x1 : Int32) (x2 : Int32) (H : Heap) (locs : List Loc) (ls : Array Slot), ez_S X B s.heap (n0) σ H locs → z_X12_stuck_43 σ k_11 h0 x1 x2 = some z → lv_has ls 3 [(0, .ref (B + h0)), (1, .int x1), (2, .int x2)] → W p l e R s m args below meth c H locs 0 0 Q (F0 m 43 ls []) := by
    intro k_11 hk_11 h0 x1 x2 H locs ls hS h hl
    obtain ⟨t_43, e_43, h⟩ := ez_let_sp h
    refine lv_iinc (v := t_43) (lv' := [(2, .int t_43), (0, .ref (B + h0)), (1, .int x1)]) hx hb dX12_stuck_43 hl (k := 2) rfl (by rw [e_43]; rfl) (by decide) rfl (fun ls hl => ?_)
    refine lv_goto (tgt := 11) hx hb dX12_stuck_46 (by decide) ?_
    exact hk_11 h0 x1 t_43 _ _ _ hS h (lv_sub hl [1, 2, 0] rfl)
  have K_11 : ∀ (k_11 : Nat → Int32 → Int32 → Option (Int32)) (hk_11 : ∀ (h0 : Nat) (x1 : Int32) (x2 : Int32) (H : Heap) (locs : List Loc) (ls : Array Slot), ez_S X B s.heap (n0) σ H locs → k_11 h0 x1 x2 = some z → lv_has ls 3 [(0, .ref (B + h0)), (1, .int x1), (2, .int x2)] → W p l e R s m args below meth c H locs 0 0 Q (F0 m 11 ls [])), ∀ (h0 : Nat) (x1 : Int32) (x2 : Int32) (H : Heap) (locs : List Loc) (ls : Array Slot), ez_S X B s.heap (n0) σ H locs → z_X12_stuck_11 σ k_11 h0 x1 x2 = some z → lv_has ls 3 [(0, .ref (B + h0)), (1, .int x1), (2, .int x2)] → W p l e R s m args below meth c H locs 0 0 Q (F0 m 11 ls []) := by
    intro k_11 hk_11 h0 x1 x2 H locs ls hS h hl
    refine lv_iload_n hx hb dX12_stuck_11 rfl (lv_at hl 2 rfl) ?_
    refine lv_aload_n hx hb dX12_stuck_12 rfl (lv_at hl 0 rfl) ?_
    refine ez_cVpi (As := []) (rest := [.int x2]) h (fun _ q => c_X12_many q) hC k_X12_many ql_RX12_404 rfl (by decide) hS (fun _ q => ez_rcv q) rfl hl.1 rfl (Nat.le_of_ble_eq_true rfl) ⟨Nat.zero_le _, Nat.zero_le _⟩ dX12_stuck_13 (fun t_13 H locs hS h => ?_)
    refine lv_icmp_ge (tgt := 49) hx hb dX12_stuck_16 (by decide) (fun c_16 => ?_) (fun c_16 => ?_)
    · replace h := ez_ifp h c_16
      refine lv_iload_n hx hb dX12_stuck_49 rfl (lv_at hl 1 rfl) ?_
      exact hret _ _ _ _ _ (Option.some.inj h) rfl hS dX12_stuck_50
    · replace h := ez_ifn h c_16
      refine lv_aload_n hx hb dX12_stuck_19 rfl (lv_at hl 0 rfl) ?_
      refine lv_iload_n hx hb dX12_stuck_20 rfl (lv_at hl 2 rfl) ?_
      refine ez_cVpi (As := [.int x2]) (rest := []) h (fun _ q => c_X12_holderOf q) hC k_X12_holderOf ql_RX12_465 rfl (by decide) hS (fun _ q => ez_rcv q) rfl hl.1 rfl (Nat.le_of_ble_eq_true rfl) ⟨Nat.zero_le _, Nat.zero_le _⟩ dX12_stuck_21 (fun t_21 H locs hS h => ?_)
      refine lv_bipush (v := -2) hx hb dX12_stuck_24 (by decide) ?_
      refine lv_icmp_eq (tgt := 43) hx hb dX12_stuck_26 (by decide) (fun c_26 => ?_) (fun c_26 => ?_)
      · replace h := ez_ifp h c_26
        exact K_43 k_11 hk_11 h0 x1 x2 _ _ _ hS h (lv_sub hl [0, 1, 2] rfl)
      · replace h := ez_ifn h c_26
        refine lv_iload_n hx hb dX12_stuck_29 rfl (lv_at hl 1 rfl) ?_
        refine lv_aload_n hx hb dX12_stuck_30 rfl (lv_at hl 0 rfl) ?_
        refine lv_aload_n hx hb dX12_stuck_31 rfl (lv_at hl 0 rfl) ?_
        refine lv_iload_n hx hb dX12_stuck_32 rfl (lv_at hl 2 rfl) ?_
        refine ez_cVpi (As := [.int x2]) (rest := [.ref (B + h0), .int x1]) h (fun _ q => c_X12_numberOf q) hC k_X12_numberOf ql_RX12_450 rfl (by decide) hS (fun _ q => ez_rcv q) rfl hl.1 rfl (Nat.le_of_ble_eq_true rfl) ⟨Nat.zero_le _, Nat.zero_le _⟩ dX12_stuck_33 (fun t_33 H locs hS h => ?_)
        refine ez_cVpi (As := [.int t_33]) (rest := [.int x1]) h (fun _ q => c_X12_openedBy q) hC k_X12_openedBy ql_RX12_459 rfl (by decide) hS (fun _ q => ez_rcv q) rfl hl.1 rfl (Nat.le_of_ble_eq_true rfl) ⟨Nat.zero_le _, Nat.zero_le _⟩ dX12_stuck_36 (fun t_36 H locs hS h => ?_)
        refine lv_iconst (v := -1) hx hb dX12_stuck_39 (by decide) ?_
        refine lv_ixor hx hb dX12_stuck_40 ?_
        refine ez_top h (fun t_40 h => ?_)
        refine lv_iand hx hb dX12_stuck_41 ?_
        refine ez_top h (fun t_41 h => ?_)
        refine lv_istore_n (lv' := [(1, .int t_41), (0, .ref (B + h0)), (2, .int x2)]) hx hb dX12_stuck_42 rfl hl (by decide) rfl (fun ls hl => ?_)
        exact K_43 k_11 hk_11 h0 t_41 x2 _ _ _ hS h (lv_sub hl [1, 0, 2] rfl)
  have E_11 : ∀ (h0 : Nat) (x1 : Int32) (x2 : Int32) (H : Heap) (locs : List Loc) (ls : Array Slot), ez_S X B s.heap (n0) σ H locs → (ez_fix (fun _ _ _ => none) (z_X12_stuck_11 σ) ez_N) h0 x1 x2 = some z → lv_has ls 3 [(0, .ref (B + h0)), (1, .int x1), (2, .int x2)] → W p l e R s m args below meth c H locs 0 0 Q (F0 m 11 ls []) := ez_fix_ind (fun k_11 : Nat → Int32 → Int32 → Option (Int32) => ∀ (h0 : Nat) (x1 : Int32) (x2 : Int32) (H : Heap) (locs : List Loc) (ls : Array Slot), ez_S X B s.heap (n0) σ H locs → k_11 h0 x1 x2 = some z → lv_has ls 3 [(0, .ref (B + h0)), (1, .int x1), (2, .int x2)] → W p l e R s m args below meth c H locs 0 0 Q (F0 m 11 ls [])) (fun _ _ _ _ _ _ _ h _ => by cases h) (fun k_11 hk_11 => K_11 k_11 hk_11) ez_N
  refine lv_iconst (v := 1) hx hb dX12_stuck_0 (by decide) ?_
  refine lv_aload_n hx hb dX12_stuck_1 rfl (lv_at hl 0 rfl) ?_
  refine ez_cVpi (As := []) (rest := [.int 1]) h (fun _ q => c_X12_bolts q) hC k_X12_bolts ql_RX12_411 rfl (by decide) hS (fun _ q => ez_rcv q) rfl hl.1 rfl (Nat.le_of_ble_eq_true rfl) ⟨Nat.zero_le _, Nat.zero_le _⟩ dX12_stuck_2 (fun t_2 H locs hS h => ?_)
  refine lv_ishl hx hb dX12_stuck_5 ?_
  refine ez_top h (fun t_5 h => ?_)
  refine lv_iconst (v := 1) hx hb dX12_stuck_6 (by decide) ?_
  refine lv_isub hx hb dX12_stuck_7 ?_
  refine ez_top h (fun t_7 h => ?_)
  refine lv_istore_n (lv' := [(1, .int t_7), (0, .ref (B + h0))]) hx hb dX12_stuck_8 rfl hl (by decide) rfl (fun ls hl => ?_)
  refine lv_iconst (v := 0) hx hb dX12_stuck_9 (by decide) ?_
  refine lv_istore_n (lv' := [(2, .int 0), (1, .int t_7), (0, .ref (B + h0))]) hx hb dX12_stuck_10 rfl hl (by decide) rfl (fun ls hl => ?_)
  exact E_11  h0 t_7 (0 : Int32) _ _ _ hS h (lv_sub hl [2, 1, 0] rfl)
set_option maxHeartbeats 4000000 in
set_option maxRecDepth 100000 in
theorem c_X12_sure {l : Launch} {X : ez_X} {B : Nat} {σ : ez_H} {h0 : Nat} {x1 : Int32} {x2 : Int32} {z : Int32} (h : z_X12_sure σ h0 x1 x2 = some z) : ez_M l X B σ yX12_sure cX12_sure 5 (some .int) 4 [.ref (B + h0), .int x1, .int x2] (some (.int z)) σ := by
  refine ez_startip (z := z) (by decide) (Nat.le_of_ble_eq_true rfl) (fun p e R s m args below meth c Q hC hret hS ls hl => ?_)
  have hC : ez_C p R s m args c X B RX12 cX12_sure 5 4 := hC
  have hx := hC.1.1
  have hb := hC.1.2.1
  have hown := hC.1.2.2.2.1
  have hts := hC.1.2.2.2.2
  have hl : lv_has ls 5 [(0, .ref (B + h0)), (1, .int x1), (2, .int x2)] := hl
  obtain ⟨n0, e0⟩ : ∃ n0 : Nat, n0 = σ.length := ⟨_, rfl⟩
  rw [← e0] at hret hS
  obtain ⟨-, h⟩ := ez_in h
  have K_63 : ∀ (k_15 : Nat → Int32 → Int32 → Int32 → Int32 → Option (Int32)) (hk_15 : ∀ (h0 : Nat) (x1 : Int32) (x2 : Int32) (x3 : Int32) (x4 : Int32) (H : Heap) (locs : List Loc) (ls : Array Slot), ez_S X B s.heap (n0) σ H locs → k_15 h0 x1 x2 x3 x4 = some z → lv_has ls 5 [(0, .ref (B + h0)), (1, .int x1), (2, .int x2), (3, .int x3), (4, .int x4)] → W p l e R s m args below meth c H locs 0 0 Q (F0 m 15 ls [])), ∀ (h0 : Nat) (x1 : Int32) (x2 : Int32) (x3 : Int32) (x4 : Int32) (H : Heap) (locs : List Loc) (ls : Array Slot), ez_S X B s.heap (n0) σ H locs → z_X12_sure_63 σ k_15 h0 x1 x2 x3 x4 = some z → lv_has ls 5 [(0, .ref (B + h0)), (1, .int x1), (2, .int x2), (3, .int x3), (4, .int x4)] → W p l e R s m args below meth c H locs 0 0 Q (F0 m 63 ls []) := by
    intro k_15 hk_15 h0 x1 x2 x3 x4 H locs ls hS h hl
    obtain ⟨t_63, e_63, h⟩ := ez_let_sp h
    refine lv_iinc (v := t_63) (lv' := [(4, .int t_63), (0, .ref (B + h0)), (1, .int x1), (2, .int x2), (3, .int x3)]) hx hb dX12_sure_63 hl (k := 4) rfl (by rw [e_63]; rfl) (by decide) rfl (fun ls hl => ?_)
    refine lv_goto (tgt := 15) hx hb dX12_sure_66 (by decide) ?_
    exact hk_15 h0 x1 x2 x3 t_63 _ _ _ hS h (lv_sub hl [1, 2, 3, 4, 0] rfl)
  have K_55 : ∀ (k_15 : Nat → Int32 → Int32 → Int32 → Int32 → Option (Int32)) (hk_15 : ∀ (h0 : Nat) (x1 : Int32) (x2 : Int32) (x3 : Int32) (x4 : Int32) (H : Heap) (locs : List Loc) (ls : Array Slot), ez_S X B s.heap (n0) σ H locs → k_15 h0 x1 x2 x3 x4 = some z → lv_has ls 5 [(0, .ref (B + h0)), (1, .int x1), (2, .int x2), (3, .int x3), (4, .int x4)] → W p l e R s m args below meth c H locs 0 0 Q (F0 m 15 ls [])), ∀ (h0 : Nat) (x1 : Int32) (x2 : Int32) (x4 : Int32) (H : Heap) (locs : List Loc) (ls : Array Slot), ez_S X B s.heap (n0) σ H locs → z_X12_sure_55 σ k_15 h0 x1 x2 x4 = some z → lv_has ls 5 [(0, .ref (B + h0)), (1, .int x1), (2, .int x2), (4, .int x4)] → W p l e R s m args below meth c H locs 0 0 Q (F0 m 55 ls []) := by
    intro k_15 hk_15 h0 x1 x2 x4 H locs ls hS h hl
    refine lv_aload_n hx hb dX12_sure_55 rfl (lv_at hl 0 rfl) ?_
    refine lv_iload hx hb dX12_sure_56 (lv_at hl 3 rfl) ?_
    refine lv_iload_n hx hb dX12_sure_58 rfl (lv_at hl 1 rfl) ?_
    refine ez_cVpi (As := [.int x4, .int x1]) (rest := []) h (fun _ q => c_X12_cutIn q) hC k_X12_cutIn ql_RX12_525 rfl (by decide) hS (fun _ q => ez_rcv q) rfl hl.1 rfl (Nat.le_of_ble_eq_true rfl) ⟨Nat.zero_le _, Nat.zero_le _⟩ dX12_sure_59 (fun t_59 H locs hS h => ?_)
    refine lv_istore_n (lv' := [(3, .int t_59), (0, .ref (B + h0)), (1, .int x1), (2, .int x2), (4, .int x4)]) hx hb dX12_sure_62 rfl hl (by decide) rfl (fun ls hl => ?_)
    exact K_63 k_15 hk_15 h0 x1 x2 t_59 x4 _ _ _ hS h (lv_sub hl [1, 2, 3, 0, 4] rfl)
  have K_15 : ∀ (k_15 : Nat → Int32 → Int32 → Int32 → Int32 → Option (Int32)) (hk_15 : ∀ (h0 : Nat) (x1 : Int32) (x2 : Int32) (x3 : Int32) (x4 : Int32) (H : Heap) (locs : List Loc) (ls : Array Slot), ez_S X B s.heap (n0) σ H locs → k_15 h0 x1 x2 x3 x4 = some z → lv_has ls 5 [(0, .ref (B + h0)), (1, .int x1), (2, .int x2), (3, .int x3), (4, .int x4)] → W p l e R s m args below meth c H locs 0 0 Q (F0 m 15 ls [])), ∀ (h0 : Nat) (x1 : Int32) (x2 : Int32) (x3 : Int32) (x4 : Int32) (H : Heap) (locs : List Loc) (ls : Array Slot), ez_S X B s.heap (n0) σ H locs → z_X12_sure_15 σ k_15 h0 x1 x2 x3 x4 = some z → lv_has ls 5 [(0, .ref (B + h0)), (1, .int x1), (2, .int x2), (3, .int x3), (4, .int x4)] → W p l e R s m args below meth c H locs 0 0 Q (F0 m 15 ls []) := by
    intro k_15 hk_15 h0 x1 x2 x3 x4 H locs ls hS h hl
    refine lv_iload hx hb dX12_sure_15 (lv_at hl 4 rfl) ?_
    refine lv_aload_n hx hb dX12_sure_17 rfl (lv_at hl 0 rfl) ?_
    refine ez_cVpi (As := []) (rest := [.int x4]) h (fun _ q => c_X12_bittings q) hC k_X12_bittings ql_RX12_438 rfl (by decide) hS (fun _ q => ez_rcv q) rfl hl.1 rfl (Nat.le_of_ble_eq_true rfl) ⟨Nat.zero_le _, Nat.zero_le _⟩ dX12_sure_18 (fun t_18 H locs hS h => ?_)
    refine lv_icmp_ge (tgt := 69) hx hb dX12_sure_21 (by decide) (fun c_21 => ?_) (fun c_21 => ?_)
    · replace h := ez_ifp h c_21
      refine lv_iload_n hx hb dX12_sure_69 rfl (lv_at hl 3 rfl) ?_
      exact hret _ _ _ _ _ (Option.some.inj h) rfl hS dX12_sure_70
    · replace h := ez_ifn h c_21
      refine lv_aload_n hx hb dX12_sure_24 rfl (lv_at hl 0 rfl) ?_
      refine lv_iload hx hb dX12_sure_25 (lv_at hl 4 rfl) ?_
      refine lv_iload_n hx hb dX12_sure_27 rfl (lv_at hl 2 rfl) ?_
      refine ez_cVpi (As := [.int x4, .int x2]) (rest := []) h (fun _ q => c_X12_doesFit q) hC k_X12_doesFit ql_RX12_615 rfl (by decide) hS (fun _ q => ez_rcv q) rfl hl.1 rfl (Nat.le_of_ble_eq_true rfl) ⟨Nat.zero_le _, Nat.zero_le _⟩ dX12_sure_28 (fun t_28 H locs hS h => ?_)
      refine lv_if_ne (tgt := 37) hx hb dX12_sure_31 (by decide) (fun c_31 => ?_) (fun c_31 => ?_)
      · replace h := ez_ifn h c_31
        refine lv_iload_n hx hb dX12_sure_37 rfl (lv_at hl 3 rfl) ?_
        refine lv_if_lt (tgt := 55) hx hb dX12_sure_38 (by decide) (fun c_38 => ?_) (fun c_38 => ?_)
        · replace h := ez_ifp h c_38
          exact K_55 k_15 hk_15 h0 x1 x2 x4 _ _ _ hS h (lv_sub hl [0, 1, 2, 4] rfl)
        · replace h := ez_ifn h c_38
          refine lv_aload_n hx hb dX12_sure_41 rfl (lv_at hl 0 rfl) ?_
          refine lv_iload hx hb dX12_sure_42 (lv_at hl 4 rfl) ?_
          refine lv_iload_n hx hb dX12_sure_44 rfl (lv_at hl 1 rfl) ?_
          refine ez_cVpi (As := [.int x4, .int x1]) (rest := []) h (fun _ q => c_X12_cutIn q) hC k_X12_cutIn ql_RX12_525 rfl (by decide) hS (fun _ q => ez_rcv q) rfl hl.1 rfl (Nat.le_of_ble_eq_true rfl) ⟨Nat.zero_le _, Nat.zero_le _⟩ dX12_sure_45 (fun t_45 H locs hS h => ?_)
          refine lv_iload_n hx hb dX12_sure_48 rfl (lv_at hl 3 rfl) ?_
          refine lv_icmp_eq (tgt := 55) hx hb dX12_sure_49 (by decide) (fun c_49 => ?_) (fun c_49 => ?_)
          · replace h := ez_ifp h c_49
            exact K_55 k_15 hk_15 h0 x1 x2 x4 _ _ _ hS h (lv_sub hl [0, 1, 2, 4] rfl)
          · replace h := ez_ifn h c_49
            refine lv_bipush (v := -2) hx hb dX12_sure_52 (by decide) ?_
            exact hret _ _ _ _ _ (Option.some.inj h) rfl hS dX12_sure_54
      · replace h := ez_ifp h c_31
        refine lv_goto (tgt := 63) hx hb dX12_sure_34 (by decide) ?_
        exact K_63 k_15 hk_15 h0 x1 x2 x3 x4 _ _ _ hS h (lv_sub hl [0, 1, 2, 3, 4] rfl)
  have E_15 : ∀ (h0 : Nat) (x1 : Int32) (x2 : Int32) (x3 : Int32) (x4 : Int32) (H : Heap) (locs : List Loc) (ls : Array Slot), ez_S X B s.heap (n0) σ H locs → (ez_fix (fun _ _ _ _ _ => none) (z_X12_sure_15 σ) ez_N) h0 x1 x2 x3 x4 = some z → lv_has ls 5 [(0, .ref (B + h0)), (1, .int x1), (2, .int x2), (3, .int x3), (4, .int x4)] → W p l e R s m args below meth c H locs 0 0 Q (F0 m 15 ls []) := ez_fix_ind (fun k_15 : Nat → Int32 → Int32 → Int32 → Int32 → Option (Int32) => ∀ (h0 : Nat) (x1 : Int32) (x2 : Int32) (x3 : Int32) (x4 : Int32) (H : Heap) (locs : List Loc) (ls : Array Slot), ez_S X B s.heap (n0) σ H locs → k_15 h0 x1 x2 x3 x4 = some z → lv_has ls 5 [(0, .ref (B + h0)), (1, .int x1), (2, .int x2), (3, .int x3), (4, .int x4)] → W p l e R s m args below meth c H locs 0 0 Q (F0 m 15 ls [])) (fun _ _ _ _ _ _ _ _ _ h _ => by cases h) (fun k_15 hk_15 => K_15 k_15 hk_15) ez_N
  refine lv_aload_n hx hb dX12_sure_0 rfl (lv_at hl 0 rfl) ?_
  refine lv_iload_n hx hb dX12_sure_1 rfl (lv_at hl 1 rfl) ?_
  refine ez_cVpi (As := [.int x1]) (rest := []) h (fun _ q => c_X12_isChamber q) hC k_X12_isChamber ql_RX12_468 rfl (by decide) hS (fun _ q => ez_rcv q) rfl hl.1 rfl (Nat.le_of_ble_eq_true rfl) ⟨Nat.zero_le _, Nat.zero_le _⟩ dX12_sure_2 (fun t_2 H locs hS h => ?_)
  refine lv_if_ne (tgt := 10) hx hb dX12_sure_5 (by decide) (fun c_5 => ?_) (fun c_5 => ?_)
  · replace h := ez_ifn h c_5
    refine lv_iconst (v := -1) hx hb dX12_sure_10 (by decide) ?_
    refine lv_istore_n (lv' := [(3, .int (-1)), (0, .ref (B + h0)), (1, .int x1), (2, .int x2)]) hx hb dX12_sure_11 rfl hl (by decide) rfl (fun ls hl => ?_)
    refine lv_iconst (v := 0) hx hb dX12_sure_12 (by decide) ?_
    refine lv_istore (lv' := [(4, .int 0), (3, .int (-1)), (0, .ref (B + h0)), (1, .int x1), (2, .int x2)]) hx hb dX12_sure_13 hl (by decide) rfl (fun ls hl => ?_)
    exact E_15  h0 x1 x2 (-1 : Int32) (0 : Int32) _ _ _ hS h (lv_sub hl [2, 3, 4, 1, 0] rfl)
  · replace h := ez_ifp h c_5
    refine lv_iconst (v := -1) hx hb dX12_sure_8 (by decide) ?_
    exact hret _ _ _ _ _ (Option.some.inj h) rfl hS dX12_sure_9
set_option maxHeartbeats 4000000 in
set_option maxRecDepth 100000 in
theorem c_X12_together {l : Launch} {X : ez_X} {B : Nat} {σ : ez_H} {h0 : Nat} {x1 : Int32} {z : Int32 × ez_H} (h : z_X12_together σ h0 x1 = some z) : ez_M l X B σ yX12_together cX12_together 6 (some .int) 6 [.ref (B + h0), .int x1] (some (.int z.1)) z.2 := by
  refine ez_starti (z := z) (by decide) (Nat.le_of_ble_eq_true rfl) (fun p e R s m args below meth c Q hC hret hS ls hl => ?_)
  have hC : ez_C p R s m args c X B RX12 cX12_together 6 6 := hC
  have hx := hC.1.1
  have hb := hC.1.2.1
  have hown := hC.1.2.2.2.1
  have hts := hC.1.2.2.2.2
  have hl : lv_has ls 6 [(0, .ref (B + h0)), (1, .int x1)] := hl
  obtain ⟨σ0, eσ⟩ : ∃ σ0 : ez_H, σ0 = σ := ⟨_, rfl⟩
  rw [← eσ] at hret
  have hS : ez_S X B s.heap σ0.length σ s.heap [] := eσ ▸ hS
  obtain ⟨-, h⟩ := ez_in h
  have K_188 : ∀ (k_44 : ez_H → Nat → Int32 → Int32 → Option (Int32 × ez_H)) (hk_44 : ∀ (σ : ez_H) (h0 : Nat) (x1 : Int32) (x2 : Int32) (H : Heap) (locs : List Loc) (ls : Array Slot), ez_S X B s.heap (σ0.length) σ H locs → k_44 σ h0 x1 x2 = some z → lv_has ls 6 [(0, .ref (B + h0)), (1, .int x1), (2, .int x2)] → W p l e R s m args below meth c H locs 0 0 Q (F0 m 44 ls [])) (k_52 : ez_H → Nat → Int32 → Int32 → Int32 → Option (Int32 × ez_H)) (hk_52 : ∀ (σ : ez_H) (h0 : Nat) (x1 : Int32) (x2 : Int32) (x3 : Int32) (H : Heap) (locs : List Loc) (ls : Array Slot), ez_S X B s.heap (σ0.length) σ H locs → k_52 σ h0 x1 x2 x3 = some z → lv_has ls 6 [(0, .ref (B + h0)), (1, .int x1), (2, .int x2), (3, .int x3)] → W p l e R s m args below meth c H locs 0 0 Q (F0 m 52 ls [])), ∀ (σ : ez_H) (h0 : Nat) (x1 : Int32) (x2 : Int32) (x3 : Int32) (H : Heap) (locs : List Loc) (ls : Array Slot), ez_S X B s.heap (σ0.length) σ H locs → z_X12_together_188 k_44 k_52 σ h0 x1 x2 x3 = some z → lv_has ls 6 [(0, .ref (B + h0)), (1, .int x1), (2, .int x2), (3, .int x3)] → W p l e R s m args below meth c H locs 0 0 Q (F0 m 188 ls []) := by
    intro k_44 hk_44 k_52 hk_52 σ h0 x1 x2 x3 H locs ls hS h hl
    obtain ⟨t_188, e_188, h⟩ := ez_let_sp h
    refine lv_iinc (v := t_188) (lv' := [(3, .int t_188), (0, .ref (B + h0)), (1, .int x1), (2, .int x2)]) hx hb dX12_together_188 hl (k := 3) rfl (by rw [e_188]; rfl) (by decide) rfl (fun ls hl => ?_)
    refine lv_goto (tgt := 52) hx hb dX12_together_191 (by decide) ?_
    exact hk_52 σ h0 x1 x2 t_188 _ _ _ hS h (lv_sub hl [1, 2, 3, 0] rfl)
  have K_52 : ∀ (k_44 : ez_H → Nat → Int32 → Int32 → Option (Int32 × ez_H)) (hk_44 : ∀ (σ : ez_H) (h0 : Nat) (x1 : Int32) (x2 : Int32) (H : Heap) (locs : List Loc) (ls : Array Slot), ez_S X B s.heap (σ0.length) σ H locs → k_44 σ h0 x1 x2 = some z → lv_has ls 6 [(0, .ref (B + h0)), (1, .int x1), (2, .int x2)] → W p l e R s m args below meth c H locs 0 0 Q (F0 m 44 ls [])) (k_52 : ez_H → Nat → Int32 → Int32 → Int32 → Option (Int32 × ez_H)) (hk_52 : ∀ (σ : ez_H) (h0 : Nat) (x1 : Int32) (x2 : Int32) (x3 : Int32) (H : Heap) (locs : List Loc) (ls : Array Slot), ez_S X B s.heap (σ0.length) σ H locs → k_52 σ h0 x1 x2 x3 = some z → lv_has ls 6 [(0, .ref (B + h0)), (1, .int x1), (2, .int x2), (3, .int x3)] → W p l e R s m args below meth c H locs 0 0 Q (F0 m 52 ls [])), ∀ (σ : ez_H) (h0 : Nat) (x1 : Int32) (x2 : Int32) (x3 : Int32) (H : Heap) (locs : List Loc) (ls : Array Slot), ez_S X B s.heap (σ0.length) σ H locs → z_X12_together_52 k_44 k_52 σ h0 x1 x2 x3 = some z → lv_has ls 6 [(0, .ref (B + h0)), (1, .int x1), (2, .int x2), (3, .int x3)] → W p l e R s m args below meth c H locs 0 0 Q (F0 m 52 ls []) := by
    intro k_44 hk_44 k_52 hk_52 σ h0 x1 x2 x3 H locs ls hS h hl
    refine lv_iload_n hx hb dX12_together_52 rfl (lv_at hl 3 rfl) ?_
    refine lv_bipush (v := 16) hx hb dX12_together_53 (by decide) ?_
    refine lv_icmp_ge (tgt := 194) hx hb dX12_together_55 (by decide) (fun c_55 => ?_) (fun c_55 => ?_)
    · replace h := ez_ifp h c_55
      refine lv_goto (tgt := 44) hx hb dX12_together_194 (by decide) ?_
      exact hk_44 σ h0 x1 x2 _ _ _ hS h (lv_sub hl [0, 1, 2] rfl)
    · replace h := ez_ifn h c_55
      refine lv_iload_n hx hb dX12_together_58 rfl (lv_at hl 3 rfl) ?_
      refine lv_iconst (v := 4) hx hb dX12_together_59 (by decide) ?_
      obtain ⟨nz_60, h⟩ := ez_nz_sp h
      refine lv_idiv hx hb dX12_together_60 nz_60 ?_
      refine ez_top h (fun t_60 h => ?_)
      refine lv_istore (lv' := [(4, .int t_60), (0, .ref (B + h0)), (1, .int x1), (2, .int x2), (3, .int x3)]) hx hb dX12_together_61 hl (by decide) rfl (fun ls hl => ?_)
      refine lv_iload_n hx hb dX12_together_63 rfl (lv_at hl 4 rfl) ?_
      refine lv_iconst (v := 4) hx hb dX12_together_64 (by decide) ?_
      obtain ⟨nz_65, h⟩ := ez_nz_sp h
      refine lv_irem hx hb dX12_together_65 nz_65 ?_
      refine ez_top h (fun t_65 h => ?_)
      refine lv_istore (lv' := [(5, .int t_65), (4, .int t_60), (0, .ref (B + h0)), (1, .int x1), (2, .int x2), (3, .int x3)]) hx hb dX12_together_66 hl (by decide) rfl (fun ls hl => ?_)
      refine lv_aload_n hx hb dX12_together_68 rfl (lv_at hl 2 rfl) ?_
      refine lv_iload hx hb dX12_together_69 (lv_at hl 1 rfl) ?_
      refine ez_cVpi (As := [.int t_60]) (rest := []) h (fun _ q => c_X12_isPerson q) hC k_X12_isPerson ql_RX12_495 rfl (by decide) hS (fun _ q => ez_rcv q) rfl hl.1 rfl (Nat.le_of_ble_eq_true rfl) ⟨Nat.zero_le _, Nat.zero_le _⟩ dX12_together_71 (fun t_71 H locs hS h => ?_)
      refine lv_if_eq (tgt := 188) hx hb dX12_together_74 (by decide) (fun c_74 => ?_) (fun c_74 => ?_)
      · replace h := ez_ifp h c_74
        exact K_188 k_44 hk_44 k_52 hk_52 σ h0 x1 x2 x3 _ _ _ hS h (lv_sub hl [2, 3, 4, 5] rfl)
      · replace h := ez_ifn h c_74
        refine lv_aload_n hx hb dX12_together_77 rfl (lv_at hl 2 rfl) ?_
        refine lv_iload hx hb dX12_together_78 (lv_at hl 0 rfl) ?_
        refine ez_cVpi (As := [.int t_65]) (rest := []) h (fun _ q => c_X12_isPerson q) hC k_X12_isPerson ql_RX12_495 rfl (by decide) hS (fun _ q => ez_rcv q) rfl hl.1 rfl (Nat.le_of_ble_eq_true rfl) ⟨Nat.zero_le _, Nat.zero_le _⟩ dX12_together_80 (fun t_80 H locs hS h => ?_)
        refine lv_if_eq (tgt := 188) hx hb dX12_together_83 (by decide) (fun c_83 => ?_) (fun c_83 => ?_)
        · replace h := ez_ifp h c_83
          exact K_188 k_44 hk_44 k_52 hk_52 σ h0 x1 x2 x3 _ _ _ hS h (lv_sub hl [2, 3, 4, 5] rfl)
        · replace h := ez_ifn h c_83
          refine lv_aload_n hx hb dX12_together_86 rfl (lv_at hl 2 rfl) ?_
          refine eg_RX12_130 hC hS h dX12_together_87 (fun t_87 h => ?_)
          refine lv_iload hx hb dX12_together_90 (lv_at hl 1 rfl) ?_
          refine ez_ial hC hS h dX12_together_92 (fun t_92 h => ?_)
          refine lv_aload_n hx hb dX12_together_93 rfl (lv_at hl 2 rfl) ?_
          refine eg_RX12_130 hC hS h dX12_together_94 (fun t_94 h => ?_)
          refine lv_iload hx hb dX12_together_97 (lv_at hl 0 rfl) ?_
          refine ez_ial hC hS h dX12_together_99 (fun t_99 h => ?_)
          refine lv_icmp_ne (tgt := 106) hx hb dX12_together_100 (by decide) (fun c_100 => ?_) (fun c_100 => ?_)
          · replace h := ez_ifn h c_100
            refine lv_aload_n hx hb dX12_together_106 rfl (lv_at hl 2 rfl) ?_
            refine lv_aload_n hx hb dX12_together_107 rfl (lv_at hl 2 rfl) ?_
            refine eg_RX12_118 hC hS h dX12_together_108 (fun t_108 h => ?_)
            refine lv_bipush (v := 86) hx hb dX12_together_111 (by decide) ?_
            refine lv_iload hx hb dX12_together_113 (lv_at hl 1 rfl) ?_
            refine lv_iadd hx hb dX12_together_115 ?_
            refine ez_top h (fun t_115 h => ?_)
            refine ez_ial hC hS h dX12_together_116 (fun t_116 h => ?_)
            refine lv_aload_n hx hb dX12_together_117 rfl (lv_at hl 2 rfl) ?_
            refine eg_RX12_130 hC hS h dX12_together_118 (fun t_118 h => ?_)
            refine lv_iload hx hb dX12_together_121 (lv_at hl 1 rfl) ?_
            refine ez_ial hC hS h dX12_together_123 (fun t_123 h => ?_)
            refine ez_cVpi (As := [.int t_116, .int t_123]) (rest := []) h (fun _ q => c_X12_reachBy q) hC k_X12_reachBy ql_RX12_574 rfl (by decide) hS (fun _ q => ez_rcv q) rfl hl.1 rfl (Nat.le_of_ble_eq_true rfl) ⟨Nat.zero_le _, Nat.zero_le _⟩ dX12_together_124 (fun t_124 H locs hS h => ?_)
            refine lv_aload_n hx hb dX12_together_127 rfl (lv_at hl 2 rfl) ?_
            refine lv_aload_n hx hb dX12_together_128 rfl (lv_at hl 2 rfl) ?_
            refine eg_RX12_118 hC hS h dX12_together_129 (fun t_129 h => ?_)
            refine lv_bipush (v := 86) hx hb dX12_together_132 (by decide) ?_
            refine lv_iload hx hb dX12_together_134 (lv_at hl 0 rfl) ?_
            refine lv_iadd hx hb dX12_together_136 ?_
            refine ez_top h (fun t_136 h => ?_)
            refine ez_ial hC hS h dX12_together_137 (fun t_137 h => ?_)
            refine lv_aload_n hx hb dX12_together_138 rfl (lv_at hl 2 rfl) ?_
            refine eg_RX12_130 hC hS h dX12_together_139 (fun t_139 h => ?_)
            refine lv_iload hx hb dX12_together_142 (lv_at hl 0 rfl) ?_
            refine ez_ial hC hS h dX12_together_144 (fun t_144 h => ?_)
            refine ez_cVpi (As := [.int t_137, .int t_144]) (rest := [.int t_124]) h (fun _ q => c_X12_reachBy q) hC k_X12_reachBy ql_RX12_574 rfl (by decide) hS (fun _ q => ez_rcv q) rfl hl.1 rfl (Nat.le_of_ble_eq_true rfl) ⟨Nat.zero_le _, Nat.zero_le _⟩ dX12_together_145 (fun t_145 H locs hS h => ?_)
            refine lv_iand hx hb dX12_together_148 ?_
            refine ez_top h (fun t_148 h => ?_)
            refine lv_if_ne (tgt := 155) hx hb dX12_together_149 (by decide) (fun c_149 => ?_) (fun c_149 => ?_)
            · replace h := ez_ifn h c_149
              refine lv_aload_n hx hb dX12_together_155 rfl (lv_at hl 2 rfl) ?_
              refine eg_RX12_130 hC hS h dX12_together_156 (fun t_156 h => ?_)
              refine lv_iload hx hb dX12_together_159 (lv_at hl 1 rfl) ?_
              refine lv_dup2_11 hx hb dX12_together_161 rfl rfl ?_
              refine ez_ial hC hS h dX12_together_162 (fun t_162 h => ?_)
              refine lv_aload_n hx hb dX12_together_163 rfl (lv_at hl 2 rfl) ?_
              refine eg_RX12_130 hC hS h dX12_together_164 (fun t_164 h => ?_)
              refine lv_iload hx hb dX12_together_167 (lv_at hl 0 rfl) ?_
              refine ez_ial hC hS h dX12_together_169 (fun t_169 h => ?_)
              refine lv_ior hx hb dX12_together_170 ?_
              refine ez_top h (fun t_170 h => ?_)
              refine ez_ias hC hS h dX12_together_171 (fun σ H locs hS h => ?_)
              refine lv_aload_n hx hb dX12_together_172 rfl (lv_at hl 2 rfl) ?_
              refine eg_RX12_130 hC hS h dX12_together_173 (fun t_173 h => ?_)
              refine lv_iload hx hb dX12_together_176 (lv_at hl 0 rfl) ?_
              refine lv_aload_n hx hb dX12_together_178 rfl (lv_at hl 2 rfl) ?_
              refine eg_RX12_130 hC hS h dX12_together_179 (fun t_179 h => ?_)
              refine lv_iload hx hb dX12_together_182 (lv_at hl 1 rfl) ?_
              refine ez_ial hC hS h dX12_together_184 (fun t_184 h => ?_)
              refine ez_ias hC hS h dX12_together_185 (fun σ H locs hS h => ?_)
              refine lv_iconst (v := 1) hx hb dX12_together_186 (by decide) ?_
              refine lv_istore_n (lv' := [(2, .int 1), (5, .int t_65), (4, .int t_60), (0, .ref (B + h0)), (1, .int x1), (3, .int x3)]) hx hb dX12_together_187 rfl hl (by decide) rfl (fun ls hl => ?_)
              exact K_188 k_44 hk_44 k_52 hk_52 σ h0 x1 (1 : Int32) x3 _ _ _ hS h (lv_sub hl [3, 4, 0, 5] rfl)
            · replace h := ez_ifp h c_149
              refine lv_goto (tgt := 188) hx hb dX12_together_152 (by decide) ?_
              exact K_188 k_44 hk_44 k_52 hk_52 σ h0 x1 x2 x3 _ _ _ hS h (lv_sub hl [2, 3, 4, 5] rfl)
          · replace h := ez_ifp h c_100
            refine lv_goto (tgt := 188) hx hb dX12_together_103 (by decide) ?_
            exact K_188 k_44 hk_44 k_52 hk_52 σ h0 x1 x2 x3 _ _ _ hS h (lv_sub hl [2, 3, 4, 5] rfl)
  have E_52 : ∀ (k_44 : ez_H → Nat → Int32 → Int32 → Option (Int32 × ez_H)) (hk_44 : ∀ (σ : ez_H) (h0 : Nat) (x1 : Int32) (x2 : Int32) (H : Heap) (locs : List Loc) (ls : Array Slot), ez_S X B s.heap (σ0.length) σ H locs → k_44 σ h0 x1 x2 = some z → lv_has ls 6 [(0, .ref (B + h0)), (1, .int x1), (2, .int x2)] → W p l e R s m args below meth c H locs 0 0 Q (F0 m 44 ls [])), ∀ (σ : ez_H) (h0 : Nat) (x1 : Int32) (x2 : Int32) (x3 : Int32) (H : Heap) (locs : List Loc) (ls : Array Slot), ez_S X B s.heap (σ0.length) σ H locs → (ez_fix (fun _ _ _ _ _ => none) (z_X12_together_52 k_44) ez_N) σ h0 x1 x2 x3 = some z → lv_has ls 6 [(0, .ref (B + h0)), (1, .int x1), (2, .int x2), (3, .int x3)] → W p l e R s m args below meth c H locs 0 0 Q (F0 m 52 ls []) := fun k_44 hk_44 => ez_fix_ind (fun k_52 : ez_H → Nat → Int32 → Int32 → Int32 → Option (Int32 × ez_H) => ∀ (σ : ez_H) (h0 : Nat) (x1 : Int32) (x2 : Int32) (x3 : Int32) (H : Heap) (locs : List Loc) (ls : Array Slot), ez_S X B s.heap (σ0.length) σ H locs → k_52 σ h0 x1 x2 x3 = some z → lv_has ls 6 [(0, .ref (B + h0)), (1, .int x1), (2, .int x2), (3, .int x3)] → W p l e R s m args below meth c H locs 0 0 Q (F0 m 52 ls [])) (fun _ _ _ _ _ _ _ _ _ h _ => by cases h) (fun k_52 hk_52 => K_52 k_44 hk_44 k_52 hk_52) ez_N
  have K_44 : ∀ (k_44 : ez_H → Nat → Int32 → Int32 → Option (Int32 × ez_H)) (hk_44 : ∀ (σ : ez_H) (h0 : Nat) (x1 : Int32) (x2 : Int32) (H : Heap) (locs : List Loc) (ls : Array Slot), ez_S X B s.heap (σ0.length) σ H locs → k_44 σ h0 x1 x2 = some z → lv_has ls 6 [(0, .ref (B + h0)), (1, .int x1), (2, .int x2)] → W p l e R s m args below meth c H locs 0 0 Q (F0 m 44 ls [])), ∀ (σ : ez_H) (h0 : Nat) (x1 : Int32) (x2 : Int32) (H : Heap) (locs : List Loc) (ls : Array Slot), ez_S X B s.heap (σ0.length) σ H locs → z_X12_together_44 k_44 σ h0 x1 x2 = some z → lv_has ls 6 [(0, .ref (B + h0)), (1, .int x1), (2, .int x2)] → W p l e R s m args below meth c H locs 0 0 Q (F0 m 44 ls []) := by
    intro k_44 hk_44 σ h0 x1 x2 H locs ls hS h hl
    refine lv_iload_n hx hb dX12_together_44 rfl (lv_at hl 2 rfl) ?_
    refine lv_if_eq (tgt := 197) hx hb dX12_together_45 (by decide) (fun c_45 => ?_) (fun c_45 => ?_)
    · replace h := ez_ifp h c_45
      refine lv_aload_n hx hb dX12_together_197 rfl (lv_at hl 0 rfl) ?_
      refine lv_aload_n hx hb dX12_together_198 rfl (lv_at hl 0 rfl) ?_
      refine eg_RX12_118 hC hS h dX12_together_199 (fun t_199 h => ?_)
      refine lv_bipush (v := 86) hx hb dX12_together_202 (by decide) ?_
      refine lv_iload_n hx hb dX12_together_204 rfl (lv_at hl 1 rfl) ?_
      refine lv_iadd hx hb dX12_together_205 ?_
      refine ez_top h (fun t_205 h => ?_)
      refine ez_ial hC hS h dX12_together_206 (fun t_206 h => ?_)
      refine lv_aload_n hx hb dX12_together_207 rfl (lv_at hl 0 rfl) ?_
      refine eg_RX12_130 hC hS h dX12_together_208 (fun t_208 h => ?_)
      refine lv_iload_n hx hb dX12_together_211 rfl (lv_at hl 1 rfl) ?_
      refine ez_ial hC hS h dX12_together_212 (fun t_212 h => ?_)
      refine ez_cVpi (As := [.int t_206, .int t_212]) (rest := []) h (fun _ q => c_X12_reachBy q) hC k_X12_reachBy ql_RX12_574 rfl (by decide) hS (fun _ q => ez_rcv q) rfl hl.1 rfl (Nat.le_of_ble_eq_true rfl) ⟨Nat.zero_le _, Nat.zero_le _⟩ dX12_together_213 (fun t_213 H locs hS h => ?_)
      exact hret _ _ _ _ _ _ (Option.some.inj h) rfl hS dX12_together_216
    · replace h := ez_ifn h c_45
      refine lv_iconst (v := 0) hx hb dX12_together_48 (by decide) ?_
      refine lv_istore_n (lv' := [(2, .int 0), (0, .ref (B + h0)), (1, .int x1)]) hx hb dX12_together_49 rfl hl (by decide) rfl (fun ls hl => ?_)
      refine lv_iconst (v := 0) hx hb dX12_together_50 (by decide) ?_
      refine lv_istore_n (lv' := [(3, .int 0), (2, .int 0), (0, .ref (B + h0)), (1, .int x1)]) hx hb dX12_together_51 rfl hl (by decide) rfl (fun ls hl => ?_)
      exact E_52 k_44 hk_44 σ h0 x1 (0 : Int32) (0 : Int32) _ _ _ hS h (lv_sub hl [2, 3, 1, 0] rfl)
  have E_44 : ∀ (σ : ez_H) (h0 : Nat) (x1 : Int32) (x2 : Int32) (H : Heap) (locs : List Loc) (ls : Array Slot), ez_S X B s.heap (σ0.length) σ H locs → (ez_fix (fun _ _ _ _ => none) (z_X12_together_44) ez_N) σ h0 x1 x2 = some z → lv_has ls 6 [(0, .ref (B + h0)), (1, .int x1), (2, .int x2)] → W p l e R s m args below meth c H locs 0 0 Q (F0 m 44 ls []) := ez_fix_ind (fun k_44 : ez_H → Nat → Int32 → Int32 → Option (Int32 × ez_H) => ∀ (σ : ez_H) (h0 : Nat) (x1 : Int32) (x2 : Int32) (H : Heap) (locs : List Loc) (ls : Array Slot), ez_S X B s.heap (σ0.length) σ H locs → k_44 σ h0 x1 x2 = some z → lv_has ls 6 [(0, .ref (B + h0)), (1, .int x1), (2, .int x2)] → W p l e R s m args below meth c H locs 0 0 Q (F0 m 44 ls [])) (fun _ _ _ _ _ _ _ _ h _ => by cases h) (fun k_44 hk_44 => K_44 k_44 hk_44) ez_N
  have K_12 : ∀ (k_12 : ez_H → Nat → Int32 → Int32 → Option (Int32 × ez_H)) (hk_12 : ∀ (σ : ez_H) (h0 : Nat) (x1 : Int32) (x2 : Int32) (H : Heap) (locs : List Loc) (ls : Array Slot), ez_S X B s.heap (σ0.length) σ H locs → k_12 σ h0 x1 x2 = some z → lv_has ls 6 [(0, .ref (B + h0)), (1, .int x1), (2, .int x2)] → W p l e R s m args below meth c H locs 0 0 Q (F0 m 12 ls [])), ∀ (σ : ez_H) (h0 : Nat) (x1 : Int32) (x2 : Int32) (H : Heap) (locs : List Loc) (ls : Array Slot), ez_S X B s.heap (σ0.length) σ H locs → z_X12_together_12 k_12 σ h0 x1 x2 = some z → lv_has ls 6 [(0, .ref (B + h0)), (1, .int x1), (2, .int x2)] → W p l e R s m args below meth c H locs 0 0 Q (F0 m 12 ls []) := by
    intro k_12 hk_12 σ h0 x1 x2 H locs ls hS h hl
    refine lv_iload_n hx hb dX12_together_12 rfl (lv_at hl 2 rfl) ?_
    refine lv_aload_n hx hb dX12_together_13 rfl (lv_at hl 0 rfl) ?_
    refine eg_RX12_42 hC hS h dX12_together_14 (fun t_14 h => ?_)
    refine lv_aload_n hx hb dX12_together_17 rfl (lv_at hl 0 rfl) ?_
    refine eg_RX12_274 hC hS h dX12_together_18 (fun t_18 h => ?_)
    refine ez_ial hC hS h dX12_together_21 (fun t_21 h => ?_)
    refine lv_icmp_ge (tgt := 42) hx hb dX12_together_22 (by decide) (fun c_22 => ?_) (fun c_22 => ?_)
    · replace h := ez_ifp h c_22
      refine lv_iconst (v := 1) hx hb dX12_together_42 (by decide) ?_
      refine lv_istore_n (lv' := [(2, .int 1), (0, .ref (B + h0)), (1, .int x1)]) hx hb dX12_together_43 rfl hl (by decide) rfl (fun ls hl => ?_)
      exact E_44  σ h0 x1 (1 : Int32) _ _ _ hS h (lv_sub hl [1, 2, 0] rfl)
    · replace h := ez_ifn h c_22
      refine lv_aload_n hx hb dX12_together_25 rfl (lv_at hl 0 rfl) ?_
      refine eg_RX12_130 hC hS h dX12_together_26 (fun t_26 h => ?_)
      refine lv_iload_n hx hb dX12_together_29 rfl (lv_at hl 2 rfl) ?_
      refine lv_aload_n hx hb dX12_together_30 rfl (lv_at hl 0 rfl) ?_
      refine lv_iload_n hx hb dX12_together_31 rfl (lv_at hl 2 rfl) ?_
      refine ez_cVpi (As := [.int x2]) (rest := [.int x2, .ref (B + t_26)]) h (fun _ q => c_X12_keysOf q) hC k_X12_keysOf ql_RX12_498 rfl (by decide) hS (fun _ q => ez_rcv q) rfl hl.1 rfl (Nat.le_of_ble_eq_true rfl) ⟨Nat.zero_le _, Nat.zero_le _⟩ dX12_together_32 (fun t_32 H locs hS h => ?_)
      refine ez_ias hC hS h dX12_together_35 (fun σ H locs hS h => ?_)
      obtain ⟨t_36, e_36, h⟩ := ez_let_sp h
      refine lv_iinc (v := t_36) (lv' := [(2, .int t_36), (0, .ref (B + h0)), (1, .int x1)]) hx hb dX12_together_36 hl (k := 2) rfl (by rw [e_36]; rfl) (by decide) rfl (fun ls hl => ?_)
      refine lv_goto (tgt := 12) hx hb dX12_together_39 (by decide) ?_
      exact hk_12 σ h0 x1 t_36 _ _ _ hS h (lv_sub hl [1, 2, 0] rfl)
  have E_12 : ∀ (σ : ez_H) (h0 : Nat) (x1 : Int32) (x2 : Int32) (H : Heap) (locs : List Loc) (ls : Array Slot), ez_S X B s.heap (σ0.length) σ H locs → (ez_fix (fun _ _ _ _ => none) (z_X12_together_12) ez_N) σ h0 x1 x2 = some z → lv_has ls 6 [(0, .ref (B + h0)), (1, .int x1), (2, .int x2)] → W p l e R s m args below meth c H locs 0 0 Q (F0 m 12 ls []) := ez_fix_ind (fun k_12 : ez_H → Nat → Int32 → Int32 → Option (Int32 × ez_H) => ∀ (σ : ez_H) (h0 : Nat) (x1 : Int32) (x2 : Int32) (H : Heap) (locs : List Loc) (ls : Array Slot), ez_S X B s.heap (σ0.length) σ H locs → k_12 σ h0 x1 x2 = some z → lv_has ls 6 [(0, .ref (B + h0)), (1, .int x1), (2, .int x2)] → W p l e R s m args below meth c H locs 0 0 Q (F0 m 12 ls [])) (fun _ _ _ _ _ _ _ _ h _ => by cases h) (fun k_12 hk_12 => K_12 k_12 hk_12) ez_N
  refine lv_aload_n hx hb dX12_together_0 rfl (lv_at hl 0 rfl) ?_
  refine lv_iload_n hx hb dX12_together_1 rfl (lv_at hl 1 rfl) ?_
  refine ez_cVpi (As := [.int x1]) (rest := []) h (fun _ q => c_X12_isPerson q) hC k_X12_isPerson ql_RX12_495 rfl (by decide) hS (fun _ q => ez_rcv q) rfl hl.1 rfl (Nat.le_of_ble_eq_true rfl) ⟨Nat.zero_le _, Nat.zero_le _⟩ dX12_together_2 (fun t_2 H locs hS h => ?_)
  refine lv_if_ne (tgt := 10) hx hb dX12_together_5 (by decide) (fun c_5 => ?_) (fun c_5 => ?_)
  · replace h := ez_ifn h c_5
    refine lv_iconst (v := 0) hx hb dX12_together_10 (by decide) ?_
    refine lv_istore_n (lv' := [(2, .int 0), (0, .ref (B + h0)), (1, .int x1)]) hx hb dX12_together_11 rfl hl (by decide) rfl (fun ls hl => ?_)
    exact E_12  σ h0 x1 (0 : Int32) _ _ _ hS h (lv_sub hl [1, 2, 0] rfl)
  · replace h := ez_ifp h c_5
    refine lv_iconst (v := -1) hx hb dX12_together_8 (by decide) ?_
    exact hret _ _ _ _ _ _ (Option.some.inj h) rfl hS dX12_together_9
set_option maxHeartbeats 4000000 in
set_option maxRecDepth 100000 in
theorem c_X12_areBetter {l : Launch} {X : ez_X} {B : Nat} {σ : ez_H} {h0 : Nat} {x1 : Int32} {x2 : Int32} {x3 : Int32} {x4 : Int32} {z : Int32} (h : z_X12_areBetter σ h0 x1 x2 x3 x4 = some z) : ez_M l X B σ yX12_areBetter cX12_areBetter 7 (some .boolean) 7 [.ref (B + h0), .int x1, .int x2, .int x3, .int x4] (some (.int z)) σ := by
  refine ez_startip (z := z) (by decide) (Nat.le_of_ble_eq_true rfl) (fun p e R s m args below meth c Q hC hret hS ls hl => ?_)
  have hC : ez_C p R s m args c X B RX12 cX12_areBetter 7 7 := hC
  have hx := hC.1.1
  have hb := hC.1.2.1
  have hown := hC.1.2.2.2.1
  have hts := hC.1.2.2.2.2
  have hl : lv_has ls 7 [(0, .ref (B + h0)), (1, .int x1), (2, .int x2), (3, .int x3), (4, .int x4)] := hl
  obtain ⟨n0, e0⟩ : ∃ n0 : Nat, n0 = σ.length := ⟨_, rfl⟩
  rw [← e0] at hret hS
  obtain ⟨-, h⟩ := ez_in h
  have K_99 : ∀ (y0 : Int32) (H : Heap) (locs : List Loc) (ls : Array Slot), ez_S X B s.heap (n0) σ H locs → z_X12_areBetter_99 σ y0 = some z → lv_has ls 7 [] → W p l e R s m args below meth c H locs 0 0 Q (F0 m 99 ls [.int y0]) := by
    intro y0 H locs ls hS h hl
    obtain ⟨hn, h⟩ := ez_nr_sp rfl h
    exact hret _ _ _ _ _ (Option.some.inj h) hn hS dX12_areBetter_99
  have K_98 : ∀ (H : Heap) (locs : List Loc) (ls : Array Slot), ez_S X B s.heap (n0) σ H locs → z_X12_areBetter_98 σ = some z → lv_has ls 7 [] → W p l e R s m args below meth c H locs 0 0 Q (F0 m 98 ls []) := by
    intro  H locs ls hS h hl
    refine lv_iconst (v := 0) hx hb dX12_areBetter_98 (by decide) ?_
    exact K_99  (0 : Int32) _ _ _ hS h (lv_sub hl [] rfl)
  refine lv_aload_n hx hb dX12_areBetter_0 rfl (lv_at hl 0 rfl) ?_
  refine lv_iload_n hx hb dX12_areBetter_1 rfl (lv_at hl 1 rfl) ?_
  refine ez_cVpi (As := [.int x1]) (rest := []) h (fun _ q => c_X12_keysOf q) hC k_X12_keysOf ql_RX12_498 rfl (by decide) hS (fun _ q => ez_rcv q) rfl hl.1 rfl (Nat.le_of_ble_eq_true rfl) ⟨Nat.zero_le _, Nat.zero_le _⟩ dX12_areBetter_2 (fun t_2 H locs hS h => ?_)
  refine lv_iconst (v := 1) hx hb dX12_areBetter_5 (by decide) ?_
  refine lv_iload_n hx hb dX12_areBetter_6 rfl (lv_at hl 3 rfl) ?_
  refine lv_ishl hx hb dX12_areBetter_7 ?_
  refine ez_top h (fun t_7 h => ?_)
  refine lv_iconst (v := -1) hx hb dX12_areBetter_8 (by decide) ?_
  refine lv_ixor hx hb dX12_areBetter_9 ?_
  refine ez_top h (fun t_9 h => ?_)
  refine lv_iand hx hb dX12_areBetter_10 ?_
  refine ez_top h (fun t_10 h => ?_)
  refine lv_iconst (v := 1) hx hb dX12_areBetter_11 (by decide) ?_
  refine lv_iload hx hb dX12_areBetter_12 (lv_at hl 4 rfl) ?_
  refine lv_ishl hx hb dX12_areBetter_14 ?_
  refine ez_top h (fun t_14 h => ?_)
  refine lv_ior hx hb dX12_areBetter_15 ?_
  refine ez_top h (fun t_15 h => ?_)
  refine lv_istore (lv' := [(5, .int t_15), (0, .ref (B + h0)), (1, .int x1), (2, .int x2), (3, .int x3), (4, .int x4)]) hx hb dX12_areBetter_16 hl (by decide) rfl (fun ls hl => ?_)
  refine lv_aload_n hx hb dX12_areBetter_18 rfl (lv_at hl 1 rfl) ?_
  refine lv_iload_n hx hb dX12_areBetter_19 rfl (lv_at hl 3 rfl) ?_
  refine ez_cVpi (As := [.int x2]) (rest := []) h (fun _ q => c_X12_keysOf q) hC k_X12_keysOf ql_RX12_498 rfl (by decide) hS (fun _ q => ez_rcv q) rfl hl.1 rfl (Nat.le_of_ble_eq_true rfl) ⟨Nat.zero_le _, Nat.zero_le _⟩ dX12_areBetter_20 (fun t_20 H locs hS h => ?_)
  refine lv_iconst (v := 1) hx hb dX12_areBetter_23 (by decide) ?_
  refine lv_iload hx hb dX12_areBetter_24 (lv_at hl 5 rfl) ?_
  refine lv_ishl hx hb dX12_areBetter_26 ?_
  refine ez_top h (fun t_26 h => ?_)
  refine lv_iconst (v := -1) hx hb dX12_areBetter_27 (by decide) ?_
  refine lv_ixor hx hb dX12_areBetter_28 ?_
  refine ez_top h (fun t_28 h => ?_)
  refine lv_iand hx hb dX12_areBetter_29 ?_
  refine ez_top h (fun t_29 h => ?_)
  refine lv_iconst (v := 1) hx hb dX12_areBetter_30 (by decide) ?_
  refine lv_iload_n hx hb dX12_areBetter_31 rfl (lv_at hl 4 rfl) ?_
  refine lv_ishl hx hb dX12_areBetter_32 ?_
  refine ez_top h (fun t_32 h => ?_)
  refine lv_ior hx hb dX12_areBetter_33 ?_
  refine ez_top h (fun t_33 h => ?_)
  refine lv_istore (lv' := [(6, .int t_33), (5, .int t_15), (0, .ref (B + h0)), (1, .int x1), (2, .int x2), (3, .int x3), (4, .int x4)]) hx hb dX12_areBetter_34 hl (by decide) rfl (fun ls hl => ?_)
  refine lv_aload_n hx hb dX12_areBetter_36 rfl (lv_at hl 2 rfl) ?_
  refine lv_aload_n hx hb dX12_areBetter_37 rfl (lv_at hl 2 rfl) ?_
  refine eg_RX12_118 hC hS h dX12_areBetter_38 (fun t_38 h => ?_)
  refine lv_bipush (v := 86) hx hb dX12_areBetter_41 (by decide) ?_
  refine lv_iload_n hx hb dX12_areBetter_43 rfl (lv_at hl 3 rfl) ?_
  refine lv_iadd hx hb dX12_areBetter_44 ?_
  refine ez_top h (fun t_44 h => ?_)
  refine ez_ial hC hS h dX12_areBetter_45 (fun t_45 h => ?_)
  refine lv_iload hx hb dX12_areBetter_46 (lv_at hl 1 rfl) ?_
  refine ez_cVpi (As := [.int t_45, .int t_15]) (rest := []) h (fun _ q => c_X12_reachBy q) hC k_X12_reachBy ql_RX12_574 rfl (by decide) hS (fun _ q => ez_rcv q) rfl hl.1 rfl (Nat.le_of_ble_eq_true rfl) ⟨Nat.zero_le _, Nat.zero_le _⟩ dX12_areBetter_48 (fun t_48 H locs hS h => ?_)
  refine ez_cSpi (As := [.int t_48]) (rest := []) h (fun _ q => c_X12_bitsOf q) hC k_X12_bitsOf ql_RX12_471 rfl (by decide) hS hl.1 rfl (Nat.le_of_ble_eq_true rfl) ⟨Nat.zero_le _, Nat.zero_le _⟩ dX12_areBetter_51 (fun t_51 H locs hS h => ?_)
  refine lv_aload_n hx hb dX12_areBetter_54 rfl (lv_at hl 2 rfl) ?_
  refine lv_iload_n hx hb dX12_areBetter_55 rfl (lv_at hl 3 rfl) ?_
  refine ez_cVpi (As := [.int x1]) (rest := [.int t_51]) h (fun _ q => c_X12_reachOf q) hC k_X12_reachOf ql_RX12_501 rfl (by decide) hS (fun _ q => ez_rcv q) rfl hl.1 rfl (Nat.le_of_ble_eq_true rfl) ⟨Nat.zero_le _, Nat.zero_le _⟩ dX12_areBetter_56 (fun t_56 H locs hS h => ?_)
  refine ez_cSpi (As := [.int t_56]) (rest := [.int t_51]) h (fun _ q => c_X12_bitsOf q) hC k_X12_bitsOf ql_RX12_471 rfl (by decide) hS hl.1 rfl (Nat.le_of_ble_eq_true rfl) ⟨Nat.zero_le _, Nat.zero_le _⟩ dX12_areBetter_59 (fun t_59 H locs hS h => ?_)
  refine lv_icmp_le (tgt := 98) hx hb dX12_areBetter_62 (by decide) (fun c_62 => ?_) (fun c_62 => ?_)
  · replace h := ez_ifp h c_62
    exact K_98   _ _ _ hS h (lv_sub hl [] rfl)
  · replace h := ez_ifn h c_62
    refine lv_aload_n hx hb dX12_areBetter_65 rfl (lv_at hl 2 rfl) ?_
    refine lv_aload_n hx hb dX12_areBetter_66 rfl (lv_at hl 2 rfl) ?_
    refine eg_RX12_118 hC hS h dX12_areBetter_67 (fun t_67 h => ?_)
    refine lv_bipush (v := 86) hx hb dX12_areBetter_70 (by decide) ?_
    refine lv_iload_n hx hb dX12_areBetter_72 rfl (lv_at hl 4 rfl) ?_
    refine lv_iadd hx hb dX12_areBetter_73 ?_
    refine ez_top h (fun t_73 h => ?_)
    refine ez_ial hC hS h dX12_areBetter_74 (fun t_74 h => ?_)
    refine lv_iload hx hb dX12_areBetter_75 (lv_at hl 0 rfl) ?_
    refine ez_cVpi (As := [.int t_74, .int t_33]) (rest := []) h (fun _ q => c_X12_reachBy q) hC k_X12_reachBy ql_RX12_574 rfl (by decide) hS (fun _ q => ez_rcv q) rfl hl.1 rfl (Nat.le_of_ble_eq_true rfl) ⟨Nat.zero_le _, Nat.zero_le _⟩ dX12_areBetter_77 (fun t_77 H locs hS h => ?_)
    refine ez_cSpi (As := [.int t_77]) (rest := []) h (fun _ q => c_X12_bitsOf q) hC k_X12_bitsOf ql_RX12_471 rfl (by decide) hS hl.1 rfl (Nat.le_of_ble_eq_true rfl) ⟨Nat.zero_le _, Nat.zero_le _⟩ dX12_areBetter_80 (fun t_80 H locs hS h => ?_)
    refine lv_aload_n hx hb dX12_areBetter_83 rfl (lv_at hl 2 rfl) ?_
    refine lv_iload_n hx hb dX12_areBetter_84 rfl (lv_at hl 4 rfl) ?_
    refine ez_cVpi (As := [.int x2]) (rest := [.int t_80]) h (fun _ q => c_X12_reachOf q) hC k_X12_reachOf ql_RX12_501 rfl (by decide) hS (fun _ q => ez_rcv q) rfl hl.1 rfl (Nat.le_of_ble_eq_true rfl) ⟨Nat.zero_le _, Nat.zero_le _⟩ dX12_areBetter_85 (fun t_85 H locs hS h => ?_)
    refine ez_cSpi (As := [.int t_85]) (rest := [.int t_80]) h (fun _ q => c_X12_bitsOf q) hC k_X12_bitsOf ql_RX12_471 rfl (by decide) hS hl.1 rfl (Nat.le_of_ble_eq_true rfl) ⟨Nat.zero_le _, Nat.zero_le _⟩ dX12_areBetter_88 (fun t_88 H locs hS h => ?_)
    refine lv_icmp_le (tgt := 98) hx hb dX12_areBetter_91 (by decide) (fun c_91 => ?_) (fun c_91 => ?_)
    · replace h := ez_ifp h c_91
      exact K_98   _ _ _ hS h (lv_sub hl [] rfl)
    · replace h := ez_ifn h c_91
      refine lv_iconst (v := 1) hx hb dX12_areBetter_94 (by decide) ?_
      refine lv_goto (tgt := 99) hx hb dX12_areBetter_95 (by decide) ?_
      exact K_99  (1 : Int32) _ _ _ hS h (lv_sub hl [] rfl)
set_option maxHeartbeats 4000000 in
set_option maxRecDepth 100000 in
theorem c_X12_trade {l : Launch} {X : ez_X} {B : Nat} {σ : ez_H} {h0 : Nat} {x1 : Int32} {x2 : Int32} {x3 : Int32} {z : Int32} (h : z_X12_trade σ h0 x1 x2 x3 = some z) : ez_M l X B σ yX12_trade cX12_trade 6 (some .int) 8 [.ref (B + h0), .int x1, .int x2, .int x3] (some (.int z)) σ := by
  refine ez_startip (z := z) (by decide) (Nat.le_of_ble_eq_true rfl) (fun p e R s m args below meth c Q hC hret hS ls hl => ?_)
  have hC : ez_C p R s m args c X B RX12 cX12_trade 6 8 := hC
  have hx := hC.1.1
  have hb := hC.1.2.1
  have hown := hC.1.2.2.2.1
  have hts := hC.1.2.2.2.2
  have hl : lv_has ls 6 [(0, .ref (B + h0)), (1, .int x1), (2, .int x2), (3, .int x3)] := hl
  obtain ⟨n0, e0⟩ : ∃ n0 : Nat, n0 = σ.length := ⟨_, rfl⟩
  rw [← e0] at hret hS
  obtain ⟨-, h⟩ := ez_in h
  have K_30 : ∀ (H : Heap) (locs : List Loc) (ls : Array Slot), ez_S X B s.heap (n0) σ H locs → z_X12_trade_30 σ = some z → lv_has ls 6 [] → W p l e R s m args below meth c H locs 0 0 Q (F0 m 30 ls []) := by
    intro  H locs ls hS h hl
    refine lv_iconst (v := -1) hx hb dX12_trade_30 (by decide) ?_
    exact hret _ _ _ _ _ (Option.some.inj h) rfl hS dX12_trade_31
  have K_104 : ∀ (k_35 : Nat → Int32 → Int32 → Int32 → Int32 → Option (Int32)) (hk_35 : ∀ (h0 : Nat) (x1 : Int32) (x2 : Int32) (x3 : Int32) (x4 : Int32) (H : Heap) (locs : List Loc) (ls : Array Slot), ez_S X B s.heap (n0) σ H locs → k_35 h0 x1 x2 x3 x4 = some z → lv_has ls 6 [(0, .ref (B + h0)), (1, .int x1), (2, .int x2), (3, .int x3), (4, .int x4)] → W p l e R s m args below meth c H locs 0 0 Q (F0 m 35 ls [])) (k_47 : Nat → Int32 → Int32 → Int32 → Int32 → Int32 → Option (Int32)) (hk_47 : ∀ (h0 : Nat) (x1 : Int32) (x2 : Int32) (x3 : Int32) (x4 : Int32) (x5 : Int32) (H : Heap) (locs : List Loc) (ls : Array Slot), ez_S X B s.heap (n0) σ H locs → k_47 h0 x1 x2 x3 x4 x5 = some z → lv_has ls 6 [(0, .ref (B + h0)), (1, .int x1), (2, .int x2), (3, .int x3), (4, .int x4), (5, .int x5)] → W p l e R s m args below meth c H locs 0 0 Q (F0 m 47 ls [])), ∀ (h0 : Nat) (x1 : Int32) (x2 : Int32) (x3 : Int32) (x4 : Int32) (x5 : Int32) (H : Heap) (locs : List Loc) (ls : Array Slot), ez_S X B s.heap (n0) σ H locs → z_X12_trade_104 σ k_35 k_47 h0 x1 x2 x3 x4 x5 = some z → lv_has ls 6 [(0, .ref (B + h0)), (1, .int x1), (2, .int x2), (3, .int x3), (4, .int x4), (5, .int x5)] → W p l e R s m args below meth c H locs 0 0 Q (F0 m 104 ls []) := by
    intro k_35 hk_35 k_47 hk_47 h0 x1 x2 x3 x4 x5 H locs ls hS h hl
    obtain ⟨t_104, e_104, h⟩ := ez_let_sp h
    refine lv_iinc (v := t_104) (lv' := [(5, .int t_104), (0, .ref (B + h0)), (1, .int x1), (2, .int x2), (3, .int x3), (4, .int x4)]) hx hb dX12_trade_104 hl (k := 5) rfl (by rw [e_104]; rfl) (by decide) rfl (fun ls hl => ?_)
    refine lv_goto (tgt := 47) hx hb dX12_trade_107 (by decide) ?_
    exact hk_47 h0 x1 x2 x3 x4 t_104 _ _ _ hS h (lv_sub hl [1, 2, 3, 4, 5, 0] rfl)
  have K_103 : ∀ (y0 : Int32) (H : Heap) (locs : List Loc) (ls : Array Slot), ez_S X B s.heap (n0) σ H locs → z_X12_trade_103 σ y0 = some z → lv_has ls 6 [] → W p l e R s m args below meth c H locs 0 0 Q (F0 m 103 ls [.int y0]) := by
    intro y0 H locs ls hS h hl
    exact hret _ _ _ _ _ (Option.some.inj h) rfl hS dX12_trade_103
  have K_47 : ∀ (k_35 : Nat → Int32 → Int32 → Int32 → Int32 → Option (Int32)) (hk_35 : ∀ (h0 : Nat) (x1 : Int32) (x2 : Int32) (x3 : Int32) (x4 : Int32) (H : Heap) (locs : List Loc) (ls : Array Slot), ez_S X B s.heap (n0) σ H locs → k_35 h0 x1 x2 x3 x4 = some z → lv_has ls 6 [(0, .ref (B + h0)), (1, .int x1), (2, .int x2), (3, .int x3), (4, .int x4)] → W p l e R s m args below meth c H locs 0 0 Q (F0 m 35 ls [])) (k_47 : Nat → Int32 → Int32 → Int32 → Int32 → Int32 → Option (Int32)) (hk_47 : ∀ (h0 : Nat) (x1 : Int32) (x2 : Int32) (x3 : Int32) (x4 : Int32) (x5 : Int32) (H : Heap) (locs : List Loc) (ls : Array Slot), ez_S X B s.heap (n0) σ H locs → k_47 h0 x1 x2 x3 x4 x5 = some z → lv_has ls 6 [(0, .ref (B + h0)), (1, .int x1), (2, .int x2), (3, .int x3), (4, .int x4), (5, .int x5)] → W p l e R s m args below meth c H locs 0 0 Q (F0 m 47 ls [])), ∀ (h0 : Nat) (x1 : Int32) (x2 : Int32) (x3 : Int32) (x4 : Int32) (x5 : Int32) (H : Heap) (locs : List Loc) (ls : Array Slot), ez_S X B s.heap (n0) σ H locs → z_X12_trade_47 σ k_35 k_47 h0 x1 x2 x3 x4 x5 = some z → lv_has ls 6 [(0, .ref (B + h0)), (1, .int x1), (2, .int x2), (3, .int x3), (4, .int x4), (5, .int x5)] → W p l e R s m args below meth c H locs 0 0 Q (F0 m 47 ls []) := by
    intro k_35 hk_35 k_47 hk_47 h0 x1 x2 x3 x4 x5 H locs ls hS h hl
    refine lv_iload hx hb dX12_trade_47 (lv_at hl 5 rfl) ?_
    refine lv_aload_n hx hb dX12_trade_49 rfl (lv_at hl 0 rfl) ?_
    refine ez_cVpi (As := []) (rest := [.int x5]) h (fun _ q => c_X12_many q) hC k_X12_many ql_RX12_404 rfl (by decide) hS (fun _ q => ez_rcv q) rfl hl.1 rfl (Nat.le_of_ble_eq_true rfl) ⟨Nat.zero_le _, Nat.zero_le _⟩ dX12_trade_50 (fun t_50 H locs hS h => ?_)
    refine lv_icmp_ge (tgt := 110) hx hb dX12_trade_53 (by decide) (fun c_53 => ?_) (fun c_53 => ?_)
    · replace h := ez_ifp h c_53
      obtain ⟨t_110, e_110, h⟩ := ez_let_sp h
      refine lv_iinc (v := t_110) (lv' := [(4, .int t_110), (0, .ref (B + h0)), (1, .int x1), (2, .int x2), (3, .int x3), (5, .int x5)]) hx hb dX12_trade_110 hl (k := 4) rfl (by rw [e_110]; rfl) (by decide) rfl (fun ls hl => ?_)
      refine lv_goto (tgt := 35) hx hb dX12_trade_113 (by decide) ?_
      exact hk_35 h0 x1 x2 x3 t_110 _ _ _ hS h (lv_sub hl [1, 2, 3, 4, 0] rfl)
    · replace h := ez_ifn h c_53
      refine lv_aload_n hx hb dX12_trade_56 rfl (lv_at hl 0 rfl) ?_
      refine lv_iload hx hb dX12_trade_57 (lv_at hl 4 rfl) ?_
      refine ez_cVpi (As := [.int x4]) (rest := []) h (fun _ q => c_X12_holderOf q) hC k_X12_holderOf ql_RX12_465 rfl (by decide) hS (fun _ q => ez_rcv q) rfl hl.1 rfl (Nat.le_of_ble_eq_true rfl) ⟨Nat.zero_le _, Nat.zero_le _⟩ dX12_trade_59 (fun t_59 H locs hS h => ?_)
      refine lv_iload_n hx hb dX12_trade_62 rfl (lv_at hl 1 rfl) ?_
      refine lv_icmp_ne (tgt := 104) hx hb dX12_trade_63 (by decide) (fun c_63 => ?_) (fun c_63 => ?_)
      · replace h := ez_ifn h c_63
        exact K_104 k_35 hk_35 k_47 hk_47 h0 x1 x2 x3 x4 x5 _ _ _ hS h (lv_sub hl [0, 1, 2, 3, 4, 5] rfl)
      · replace h := ez_ifp h c_63
        refine lv_aload_n hx hb dX12_trade_66 rfl (lv_at hl 0 rfl) ?_
        refine lv_iload hx hb dX12_trade_67 (lv_at hl 5 rfl) ?_
        refine ez_cVpi (As := [.int x5]) (rest := []) h (fun _ q => c_X12_holderOf q) hC k_X12_holderOf ql_RX12_465 rfl (by decide) hS (fun _ q => ez_rcv q) rfl hl.1 rfl (Nat.le_of_ble_eq_true rfl) ⟨Nat.zero_le _, Nat.zero_le _⟩ dX12_trade_69 (fun t_69 H locs hS h => ?_)
        refine lv_iload_n hx hb dX12_trade_72 rfl (lv_at hl 2 rfl) ?_
        refine lv_icmp_eq (tgt := 79) hx hb dX12_trade_73 (by decide) (fun c_73 => ?_) (fun c_73 => ?_)
        · replace h := ez_ifp h c_73
          refine lv_aload_n hx hb dX12_trade_79 rfl (lv_at hl 0 rfl) ?_
          refine lv_iload_n hx hb dX12_trade_80 rfl (lv_at hl 1 rfl) ?_
          refine lv_iload_n hx hb dX12_trade_81 rfl (lv_at hl 2 rfl) ?_
          refine lv_iload hx hb dX12_trade_82 (lv_at hl 4 rfl) ?_
          refine lv_iload hx hb dX12_trade_84 (lv_at hl 5 rfl) ?_
          refine ez_cVpi (As := [.int x1, .int x2, .int x4, .int x5]) (rest := []) h (fun _ q => c_X12_areBetter q) hC k_X12_areBetter ql_RX12_586 rfl (by decide) hS (fun _ q => ez_rcv q) rfl hl.1 rfl (Nat.le_of_ble_eq_true rfl) ⟨Nat.zero_le _, Nat.zero_le _⟩ dX12_trade_86 (fun t_86 H locs hS h => ?_)
          refine lv_if_eq (tgt := 104) hx hb dX12_trade_89 (by decide) (fun c_89 => ?_) (fun c_89 => ?_)
          · replace h := ez_ifp h c_89
            exact K_104 k_35 hk_35 k_47 hk_47 h0 x1 x2 x3 x4 x5 _ _ _ hS h (lv_sub hl [0, 1, 2, 3, 4, 5] rfl)
          · replace h := ez_ifn h c_89
            refine lv_iload_n hx hb dX12_trade_92 rfl (lv_at hl 3 rfl) ?_
            refine lv_if_ne (tgt := 101) hx hb dX12_trade_93 (by decide) (fun c_93 => ?_) (fun c_93 => ?_)
            · replace h := ez_ifn h c_93
              refine lv_iload hx hb dX12_trade_101 (lv_at hl 5 rfl) ?_
              exact K_103  x5 _ _ _ hS h (lv_sub hl [] rfl)
            · replace h := ez_ifp h c_93
              refine lv_iload hx hb dX12_trade_96 (lv_at hl 4 rfl) ?_
              refine lv_goto (tgt := 103) hx hb dX12_trade_98 (by decide) ?_
              exact K_103  x4 _ _ _ hS h (lv_sub hl [] rfl)
        · replace h := ez_ifn h c_73
          refine lv_goto (tgt := 104) hx hb dX12_trade_76 (by decide) ?_
          exact K_104 k_35 hk_35 k_47 hk_47 h0 x1 x2 x3 x4 x5 _ _ _ hS h (lv_sub hl [0, 1, 2, 3, 4, 5] rfl)
  have E_47 : ∀ (k_35 : Nat → Int32 → Int32 → Int32 → Int32 → Option (Int32)) (hk_35 : ∀ (h0 : Nat) (x1 : Int32) (x2 : Int32) (x3 : Int32) (x4 : Int32) (H : Heap) (locs : List Loc) (ls : Array Slot), ez_S X B s.heap (n0) σ H locs → k_35 h0 x1 x2 x3 x4 = some z → lv_has ls 6 [(0, .ref (B + h0)), (1, .int x1), (2, .int x2), (3, .int x3), (4, .int x4)] → W p l e R s m args below meth c H locs 0 0 Q (F0 m 35 ls [])), ∀ (h0 : Nat) (x1 : Int32) (x2 : Int32) (x3 : Int32) (x4 : Int32) (x5 : Int32) (H : Heap) (locs : List Loc) (ls : Array Slot), ez_S X B s.heap (n0) σ H locs → (ez_fix (fun _ _ _ _ _ _ => none) (z_X12_trade_47 σ k_35) ez_N) h0 x1 x2 x3 x4 x5 = some z → lv_has ls 6 [(0, .ref (B + h0)), (1, .int x1), (2, .int x2), (3, .int x3), (4, .int x4), (5, .int x5)] → W p l e R s m args below meth c H locs 0 0 Q (F0 m 47 ls []) := fun k_35 hk_35 => ez_fix_ind (fun k_47 : Nat → Int32 → Int32 → Int32 → Int32 → Int32 → Option (Int32) => ∀ (h0 : Nat) (x1 : Int32) (x2 : Int32) (x3 : Int32) (x4 : Int32) (x5 : Int32) (H : Heap) (locs : List Loc) (ls : Array Slot), ez_S X B s.heap (n0) σ H locs → k_47 h0 x1 x2 x3 x4 x5 = some z → lv_has ls 6 [(0, .ref (B + h0)), (1, .int x1), (2, .int x2), (3, .int x3), (4, .int x4), (5, .int x5)] → W p l e R s m args below meth c H locs 0 0 Q (F0 m 47 ls [])) (fun _ _ _ _ _ _ _ _ _ _ h _ => by cases h) (fun k_47 hk_47 => K_47 k_35 hk_35 k_47 hk_47) ez_N
  have K_35 : ∀ (k_35 : Nat → Int32 → Int32 → Int32 → Int32 → Option (Int32)) (hk_35 : ∀ (h0 : Nat) (x1 : Int32) (x2 : Int32) (x3 : Int32) (x4 : Int32) (H : Heap) (locs : List Loc) (ls : Array Slot), ez_S X B s.heap (n0) σ H locs → k_35 h0 x1 x2 x3 x4 = some z → lv_has ls 6 [(0, .ref (B + h0)), (1, .int x1), (2, .int x2), (3, .int x3), (4, .int x4)] → W p l e R s m args below meth c H locs 0 0 Q (F0 m 35 ls [])), ∀ (h0 : Nat) (x1 : Int32) (x2 : Int32) (x3 : Int32) (x4 : Int32) (H : Heap) (locs : List Loc) (ls : Array Slot), ez_S X B s.heap (n0) σ H locs → z_X12_trade_35 σ k_35 h0 x1 x2 x3 x4 = some z → lv_has ls 6 [(0, .ref (B + h0)), (1, .int x1), (2, .int x2), (3, .int x3), (4, .int x4)] → W p l e R s m args below meth c H locs 0 0 Q (F0 m 35 ls []) := by
    intro k_35 hk_35 h0 x1 x2 x3 x4 H locs ls hS h hl
    refine lv_iload hx hb dX12_trade_35 (lv_at hl 4 rfl) ?_
    refine lv_aload_n hx hb dX12_trade_37 rfl (lv_at hl 0 rfl) ?_
    refine ez_cVpi (As := []) (rest := [.int x4]) h (fun _ q => c_X12_many q) hC k_X12_many ql_RX12_404 rfl (by decide) hS (fun _ q => ez_rcv q) rfl hl.1 rfl (Nat.le_of_ble_eq_true rfl) ⟨Nat.zero_le _, Nat.zero_le _⟩ dX12_trade_38 (fun t_38 H locs hS h => ?_)
    refine lv_icmp_ge (tgt := 116) hx hb dX12_trade_41 (by decide) (fun c_41 => ?_) (fun c_41 => ?_)
    · replace h := ez_ifp h c_41
      refine lv_iconst (v := -1) hx hb dX12_trade_116 (by decide) ?_
      exact hret _ _ _ _ _ (Option.some.inj h) rfl hS dX12_trade_117
    · replace h := ez_ifn h c_41
      refine lv_iconst (v := 0) hx hb dX12_trade_44 (by decide) ?_
      refine lv_istore (lv' := [(5, .int 0), (0, .ref (B + h0)), (1, .int x1), (2, .int x2), (3, .int x3), (4, .int x4)]) hx hb dX12_trade_45 hl (by decide) rfl (fun ls hl => ?_)
      exact E_47 k_35 hk_35 h0 x1 x2 x3 x4 (0 : Int32) _ _ _ hS h (lv_sub hl [1, 2, 3, 4, 5, 0] rfl)
  have E_35 : ∀ (h0 : Nat) (x1 : Int32) (x2 : Int32) (x3 : Int32) (x4 : Int32) (H : Heap) (locs : List Loc) (ls : Array Slot), ez_S X B s.heap (n0) σ H locs → (ez_fix (fun _ _ _ _ _ => none) (z_X12_trade_35 σ) ez_N) h0 x1 x2 x3 x4 = some z → lv_has ls 6 [(0, .ref (B + h0)), (1, .int x1), (2, .int x2), (3, .int x3), (4, .int x4)] → W p l e R s m args below meth c H locs 0 0 Q (F0 m 35 ls []) := ez_fix_ind (fun k_35 : Nat → Int32 → Int32 → Int32 → Int32 → Option (Int32) => ∀ (h0 : Nat) (x1 : Int32) (x2 : Int32) (x3 : Int32) (x4 : Int32) (H : Heap) (locs : List Loc) (ls : Array Slot), ez_S X B s.heap (n0) σ H locs → k_35 h0 x1 x2 x3 x4 = some z → lv_has ls 6 [(0, .ref (B + h0)), (1, .int x1), (2, .int x2), (3, .int x3), (4, .int x4)] → W p l e R s m args below meth c H locs 0 0 Q (F0 m 35 ls [])) (fun _ _ _ _ _ _ _ _ _ h _ => by cases h) (fun k_35 hk_35 => K_35 k_35 hk_35) ez_N
  refine lv_aload_n hx hb dX12_trade_0 rfl (lv_at hl 0 rfl) ?_
  refine lv_iload_n hx hb dX12_trade_1 rfl (lv_at hl 1 rfl) ?_
  refine ez_cVpi (As := [.int x1]) (rest := []) h (fun _ q => c_X12_isPerson q) hC k_X12_isPerson ql_RX12_495 rfl (by decide) hS (fun _ q => ez_rcv q) rfl hl.1 rfl (Nat.le_of_ble_eq_true rfl) ⟨Nat.zero_le _, Nat.zero_le _⟩ dX12_trade_2 (fun t_2 H locs hS h => ?_)
  refine lv_if_eq (tgt := 30) hx hb dX12_trade_5 (by decide) (fun c_5 => ?_) (fun c_5 => ?_)
  · replace h := ez_ifp h c_5
    exact K_30   _ _ _ hS h (lv_sub hl [] rfl)
  · replace h := ez_ifn h c_5
    refine lv_aload_n hx hb dX12_trade_8 rfl (lv_at hl 0 rfl) ?_
    refine lv_iload_n hx hb dX12_trade_9 rfl (lv_at hl 2 rfl) ?_
    refine ez_cVpi (As := [.int x2]) (rest := []) h (fun _ q => c_X12_isPerson q) hC k_X12_isPerson ql_RX12_495 rfl (by decide) hS (fun _ q => ez_rcv q) rfl hl.1 rfl (Nat.le_of_ble_eq_true rfl) ⟨Nat.zero_le _, Nat.zero_le _⟩ dX12_trade_10 (fun t_10 H locs hS h => ?_)
    refine lv_if_eq (tgt := 30) hx hb dX12_trade_13 (by decide) (fun c_13 => ?_) (fun c_13 => ?_)
    · replace h := ez_ifp h c_13
      exact K_30   _ _ _ hS h (lv_sub hl [] rfl)
    · replace h := ez_ifn h c_13
      refine lv_iload_n hx hb dX12_trade_16 rfl (lv_at hl 1 rfl) ?_
      refine lv_iload_n hx hb dX12_trade_17 rfl (lv_at hl 2 rfl) ?_
      refine lv_icmp_eq (tgt := 30) hx hb dX12_trade_18 (by decide) (fun c_18 => ?_) (fun c_18 => ?_)
      · replace h := ez_ifp h c_18
        exact K_30   _ _ _ hS h (lv_sub hl [] rfl)
      · replace h := ez_ifn h c_18
        refine lv_iload_n hx hb dX12_trade_21 rfl (lv_at hl 3 rfl) ?_
        refine lv_iconst (v := 0) hx hb dX12_trade_22 (by decide) ?_
        refine lv_iconst (v := 1) hx hb dX12_trade_23 (by decide) ?_
        refine ez_cSpi (As := [.int x3, .int 0, .int 1]) (rest := []) h (fun _ q => c_X12_isIn q) hC k_X12_isIn ql_RX12_407 rfl (by decide) hS hl.1 rfl (Nat.le_of_ble_eq_true rfl) ⟨Nat.zero_le _, Nat.zero_le _⟩ dX12_trade_24 (fun t_24 H locs hS h => ?_)
        refine lv_if_ne (tgt := 32) hx hb dX12_trade_27 (by decide) (fun c_27 => ?_) (fun c_27 => ?_)
        · replace h := ez_ifn h c_27
          refine lv_iconst (v := 0) hx hb dX12_trade_32 (by decide) ?_
          refine lv_istore (lv' := [(4, .int 0), (0, .ref (B + h0)), (1, .int x1), (2, .int x2), (3, .int x3)]) hx hb dX12_trade_33 hl (by decide) rfl (fun ls hl => ?_)
          exact E_35  h0 x1 x2 x3 (0 : Int32) _ _ _ hS h (lv_sub hl [1, 2, 3, 4, 0] rfl)
        · replace h := ez_ifp h c_27
          exact K_30   _ _ _ hS h (lv_sub hl [] rfl)
set_option maxHeartbeats 4000000 in
set_option maxRecDepth 100000 in
theorem c_X12_tried {l : Launch} {X : ez_X} {B : Nat} {σ : ez_H} {h0 : Nat} {x1 : Int32} {x2 : Int32} {z : Int32 × ez_H} (h : z_X12_tried σ h0 x1 x2 = some z) : ez_M l X B σ yX12_tried cX12_tried 3 (some .int) 2 [.ref (B + h0), .int x1, .int x2] (some (.int z.1)) z.2 := by
  refine ez_starti (z := z) (by decide) (Nat.le_of_ble_eq_true rfl) (fun p e R s m args below meth c Q hC hret hS ls hl => ?_)
  have hC : ez_C p R s m args c X B RX12 cX12_tried 3 2 := hC
  have hx := hC.1.1
  have hb := hC.1.2.1
  have hown := hC.1.2.2.2.1
  have hts := hC.1.2.2.2.2
  have hl : lv_has ls 3 [(0, .ref (B + h0)), (1, .int x1), (2, .int x2)] := hl
  obtain ⟨σ0, eσ⟩ : ∃ σ0 : ez_H, σ0 = σ := ⟨_, rfl⟩
  rw [← eσ] at hret
  have hS : ez_S X B s.heap σ0.length σ s.heap [] := eσ ▸ hS
  obtain ⟨-, h⟩ := ez_in h
  have K_17 : ∀ (σ : ez_H) (H : Heap) (locs : List Loc) (ls : Array Slot), ez_S X B s.heap (σ0.length) σ H locs → z_X12_tried_17 σ = some z → lv_has ls 3 [] → W p l e R s m args below meth c H locs 0 0 Q (F0 m 17 ls []) := by
    intro σ H locs ls hS h hl
    refine lv_iconst (v := -1) hx hb dX12_tried_17 (by decide) ?_
    exact hret _ _ _ _ _ _ (Option.some.inj h) rfl hS dX12_tried_18
  have K_46 : ∀ (σ : ez_H) (h0 : Nat) (y0 : Nat) (y1 : Int32) (y2 : Int32) (H : Heap) (locs : List Loc) (ls : Array Slot), ez_S X B s.heap (σ0.length) σ H locs → z_X12_tried_46 σ h0 y0 y1 y2 = some z → lv_has ls 3 [(0, .ref (B + h0))] → W p l e R s m args below meth c H locs 0 0 Q (F0 m 46 ls [.int y2, .int y1, .ref (B + y0)]) := by
    intro σ h0 y0 y1 y2 H locs ls hS h hl
    refine ez_ias hC hS h dX12_tried_46 (fun σ H locs hS h => ?_)
    refine lv_aload_n hx hb dX12_tried_47 rfl (lv_at hl 0 rfl) ?_
    refine eg_RX12_142 hC hS h dX12_tried_48 (fun t_48 h => ?_)
    refine lv_aload_n hx hb dX12_tried_51 rfl (lv_at hl 0 rfl) ?_
    refine eg_RX12_423 hC hS h dX12_tried_52 (fun t_52 h => ?_)
    refine lv_aload_n hx hb dX12_tried_55 rfl (lv_at hl 0 rfl) ?_
    refine eg_RX12_609 hC hS h dX12_tried_56 (fun t_56 h => ?_)
    refine ez_ias hC hS h dX12_tried_59 (fun σ H locs hS h => ?_)
    refine lv_aload_n hx hb dX12_tried_60 rfl (lv_at hl 0 rfl) ?_
    refine eg_RX12_145 hC hS h dX12_tried_61 (fun t_61 h => ?_)
    refine lv_aload_n hx hb dX12_tried_64 rfl (lv_at hl 0 rfl) ?_
    refine eg_RX12_423 hC hS h dX12_tried_65 (fun t_65 h => ?_)
    refine lv_iconst (v := -1) hx hb dX12_tried_68 (by decide) ?_
    refine ez_ias hC hS h dX12_tried_69 (fun σ H locs hS h => ?_)
    refine lv_aload_n hx hb dX12_tried_70 rfl (lv_at hl 0 rfl) ?_
    refine lv_dup hx hb dX12_tried_71 rfl ?_
    refine eg_RX12_423 hC hS h dX12_tried_72 (fun t_72 h => ?_)
    refine lv_iconst (v := 1) hx hb dX12_tried_75 (by decide) ?_
    refine lv_iadd hx hb dX12_tried_76 ?_
    refine ez_top h (fun t_76 h => ?_)
    refine ep_RX12_423 hC hS h dX12_tried_77 (fun σ H locs hS h => ?_)
    refine lv_aload_n hx hb dX12_tried_80 rfl (lv_at hl 0 rfl) ?_
    refine eg_RX12_423 hC hS h dX12_tried_81 (fun t_81 h => ?_)
    refine lv_iconst (v := 1) hx hb dX12_tried_84 (by decide) ?_
    refine lv_isub hx hb dX12_tried_85 ?_
    refine ez_top h (fun t_85 h => ?_)
    exact hret _ _ _ _ _ _ (Option.some.inj h) rfl hS dX12_tried_86
  refine lv_aload_n hx hb dX12_tried_0 rfl (lv_at hl 0 rfl) ?_
  refine lv_iload_n hx hb dX12_tried_1 rfl (lv_at hl 1 rfl) ?_
  refine ez_cVpi (As := [.int x1]) (rest := []) h (fun _ q => c_X12_isLock q) hC k_X12_isLock ql_RX12_477 rfl (by decide) hS (fun _ q => ez_rcv q) rfl hl.1 rfl (Nat.le_of_ble_eq_true rfl) ⟨Nat.zero_le _, Nat.zero_le _⟩ dX12_tried_2 (fun t_2 H locs hS h => ?_)
  refine lv_if_eq (tgt := 17) hx hb dX12_tried_5 (by decide) (fun c_5 => ?_) (fun c_5 => ?_)
  · replace h := ez_ifp h c_5
    exact K_17  σ _ _ _ hS h (lv_sub hl [] rfl)
  · replace h := ez_ifn h c_5
    refine lv_aload_n hx hb dX12_tried_8 rfl (lv_at hl 0 rfl) ?_
    refine eg_RX12_423 hC hS h dX12_tried_9 (fun t_9 h => ?_)
    refine lv_bipush (v := 30) hx hb dX12_tried_12 (by decide) ?_
    refine lv_icmp_ne (tgt := 19) hx hb dX12_tried_14 (by decide) (fun c_14 => ?_) (fun c_14 => ?_)
    · replace h := ez_ifn h c_14
      refine lv_aload_n hx hb dX12_tried_19 rfl (lv_at hl 0 rfl) ?_
      refine eg_RX12_136 hC hS h dX12_tried_20 (fun t_20 h => ?_)
      refine lv_aload_n hx hb dX12_tried_23 rfl (lv_at hl 0 rfl) ?_
      refine eg_RX12_423 hC hS h dX12_tried_24 (fun t_24 h => ?_)
      refine lv_iload_n hx hb dX12_tried_27 rfl (lv_at hl 1 rfl) ?_
      refine ez_ias hC hS h dX12_tried_28 (fun σ H locs hS h => ?_)
      refine lv_aload_n hx hb dX12_tried_29 rfl (lv_at hl 0 rfl) ?_
      refine eg_RX12_139 hC hS h dX12_tried_30 (fun t_30 h => ?_)
      refine lv_aload_n hx hb dX12_tried_33 rfl (lv_at hl 0 rfl) ?_
      refine eg_RX12_423 hC hS h dX12_tried_34 (fun t_34 h => ?_)
      refine lv_iload_n hx hb dX12_tried_37 rfl (lv_at hl 2 rfl) ?_
      refine lv_if_eq (tgt := 45) hx hb dX12_tried_38 (by decide) (fun c_38 => ?_) (fun c_38 => ?_)
      · replace h := ez_ifp h c_38
        refine lv_iconst (v := 0) hx hb dX12_tried_45 (by decide) ?_
        exact K_46  σ h0 t_30 t_34 (0 : Int32) _ _ _ hS h (lv_sub hl [0] rfl)
      · replace h := ez_ifn h c_38
        refine lv_iconst (v := 1) hx hb dX12_tried_41 (by decide) ?_
        refine lv_goto (tgt := 46) hx hb dX12_tried_42 (by decide) ?_
        exact K_46  σ h0 t_30 t_34 (1 : Int32) _ _ _ hS h (lv_sub hl [0] rfl)
    · replace h := ez_ifp h c_14
      exact K_17  σ _ _ _ hS h (lv_sub hl [] rfl)
set_option maxHeartbeats 4000000 in
set_option maxRecDepth 100000 in
theorem c_X12_twin {l : Launch} {X : ez_X} {B : Nat} {σ : ez_H} {h0 : Nat} {x1 : Int32} {z : Int32} (h : z_X12_twin σ h0 x1 = some z) : ez_M l X B σ yX12_twin cX12_twin 4 (some .int) 3 [.ref (B + h0), .int x1] (some (.int z)) σ := by
  refine ez_startip (z := z) (by decide) (Nat.le_of_ble_eq_true rfl) (fun p e R s m args below meth c Q hC hret hS ls hl => ?_)
  have hC : ez_C p R s m args c X B RX12 cX12_twin 4 3 := hC
  have hx := hC.1.1
  have hb := hC.1.2.1
  have hown := hC.1.2.2.2.1
  have hts := hC.1.2.2.2.2
  have hl : lv_has ls 4 [(0, .ref (B + h0)), (1, .int x1)] := hl
  obtain ⟨n0, e0⟩ : ∃ n0 : Nat, n0 = σ.length := ⟨_, rfl⟩
  rw [← e0] at hret hS
  obtain ⟨-, h⟩ := ez_in h
  have K_48 : ∀ (k_14 : Nat → Int32 → Int32 → Int32 → Option (Int32)) (hk_14 : ∀ (h0 : Nat) (x1 : Int32) (x2 : Int32) (x3 : Int32) (H : Heap) (locs : List Loc) (ls : Array Slot), ez_S X B s.heap (n0) σ H locs → k_14 h0 x1 x2 x3 = some z → lv_has ls 4 [(0, .ref (B + h0)), (1, .int x1), (2, .int x2), (3, .int x3)] → W p l e R s m args below meth c H locs 0 0 Q (F0 m 14 ls [])), ∀ (h0 : Nat) (x1 : Int32) (x2 : Int32) (x3 : Int32) (H : Heap) (locs : List Loc) (ls : Array Slot), ez_S X B s.heap (n0) σ H locs → z_X12_twin_48 σ k_14 h0 x1 x2 x3 = some z → lv_has ls 4 [(0, .ref (B + h0)), (1, .int x1), (2, .int x2), (3, .int x3)] → W p l e R s m args below meth c H locs 0 0 Q (F0 m 48 ls []) := by
    intro k_14 hk_14 h0 x1 x2 x3 H locs ls hS h hl
    obtain ⟨t_48, e_48, h⟩ := ez_let_sp h
    refine lv_iinc (v := t_48) (lv' := [(3, .int t_48), (0, .ref (B + h0)), (1, .int x1), (2, .int x2)]) hx hb dX12_twin_48 hl (k := 3) rfl (by rw [e_48]; rfl) (by decide) rfl (fun ls hl => ?_)
    refine lv_goto (tgt := 14) hx hb dX12_twin_51 (by decide) ?_
    exact hk_14 h0 x1 x2 t_48 _ _ _ hS h (lv_sub hl [1, 2, 3, 0] rfl)
  have K_46 : ∀ (k_14 : Nat → Int32 → Int32 → Int32 → Option (Int32)) (hk_14 : ∀ (h0 : Nat) (x1 : Int32) (x2 : Int32) (x3 : Int32) (H : Heap) (locs : List Loc) (ls : Array Slot), ez_S X B s.heap (n0) σ H locs → k_14 h0 x1 x2 x3 = some z → lv_has ls 4 [(0, .ref (B + h0)), (1, .int x1), (2, .int x2), (3, .int x3)] → W p l e R s m args below meth c H locs 0 0 Q (F0 m 14 ls [])), ∀ (h0 : Nat) (x1 : Int32) (x3 : Int32) (H : Heap) (locs : List Loc) (ls : Array Slot), ez_S X B s.heap (n0) σ H locs → z_X12_twin_46 σ k_14 h0 x1 x3 = some z → lv_has ls 4 [(0, .ref (B + h0)), (1, .int x1), (3, .int x3)] → W p l e R s m args below meth c H locs 0 0 Q (F0 m 46 ls []) := by
    intro k_14 hk_14 h0 x1 x3 H locs ls hS h hl
    refine lv_iload_n hx hb dX12_twin_46 rfl (lv_at hl 2 rfl) ?_
    refine lv_istore_n (lv' := [(2, .int x3), (0, .ref (B + h0)), (1, .int x1), (3, .int x3)]) hx hb dX12_twin_47 rfl hl (by decide) rfl (fun ls hl => ?_)
    exact K_48 k_14 hk_14 h0 x1 x3 x3 _ _ _ hS h (lv_sub hl [1, 2, 0, 3] rfl)
  have K_14 : ∀ (k_14 : Nat → Int32 → Int32 → Int32 → Option (Int32)) (hk_14 : ∀ (h0 : Nat) (x1 : Int32) (x2 : Int32) (x3 : Int32) (H : Heap) (locs : List Loc) (ls : Array Slot), ez_S X B s.heap (n0) σ H locs → k_14 h0 x1 x2 x3 = some z → lv_has ls 4 [(0, .ref (B + h0)), (1, .int x1), (2, .int x2), (3, .int x3)] → W p l e R s m args below meth c H locs 0 0 Q (F0 m 14 ls [])), ∀ (h0 : Nat) (x1 : Int32) (x2 : Int32) (x3 : Int32) (H : Heap) (locs : List Loc) (ls : Array Slot), ez_S X B s.heap (n0) σ H locs → z_X12_twin_14 σ k_14 h0 x1 x2 x3 = some z → lv_has ls 4 [(0, .ref (B + h0)), (1, .int x1), (2, .int x2), (3, .int x3)] → W p l e R s m args below meth c H locs 0 0 Q (F0 m 14 ls []) := by
    intro k_14 hk_14 h0 x1 x2 x3 H locs ls hS h hl
    refine lv_iload_n hx hb dX12_twin_14 rfl (lv_at hl 3 rfl) ?_
    refine lv_aload_n hx hb dX12_twin_15 rfl (lv_at hl 0 rfl) ?_
    refine ez_cVpi (As := []) (rest := [.int x3]) h (fun _ q => c_X12_many q) hC k_X12_many ql_RX12_404 rfl (by decide) hS (fun _ q => ez_rcv q) rfl hl.1 rfl (Nat.le_of_ble_eq_true rfl) ⟨Nat.zero_le _, Nat.zero_le _⟩ dX12_twin_16 (fun t_16 H locs hS h => ?_)
    refine lv_icmp_ge (tgt := 54) hx hb dX12_twin_19 (by decide) (fun c_19 => ?_) (fun c_19 => ?_)
    · replace h := ez_ifp h c_19
      refine lv_iload_n hx hb dX12_twin_54 rfl (lv_at hl 2 rfl) ?_
      exact hret _ _ _ _ _ (Option.some.inj h) rfl hS dX12_twin_55
    · replace h := ez_ifn h c_19
      refine lv_iload_n hx hb dX12_twin_22 rfl (lv_at hl 3 rfl) ?_
      refine lv_iload_n hx hb dX12_twin_23 rfl (lv_at hl 1 rfl) ?_
      refine lv_icmp_eq (tgt := 48) hx hb dX12_twin_24 (by decide) (fun c_24 => ?_) (fun c_24 => ?_)
      · replace h := ez_ifp h c_24
        exact K_48 k_14 hk_14 h0 x1 x2 x3 _ _ _ hS h (lv_sub hl [0, 1, 2, 3] rfl)
      · replace h := ez_ifn h c_24
        refine lv_iload_n hx hb dX12_twin_27 rfl (lv_at hl 2 rfl) ?_
        refine lv_if_lt (tgt := 46) hx hb dX12_twin_28 (by decide) (fun c_28 => ?_) (fun c_28 => ?_)
        · replace h := ez_ifp h c_28
          exact K_46 k_14 hk_14 h0 x1 x3 _ _ _ hS h (lv_sub hl [0, 1, 3] rfl)
        · replace h := ez_ifn h c_28
          refine lv_aload_n hx hb dX12_twin_31 rfl (lv_at hl 0 rfl) ?_
          refine lv_iload_n hx hb dX12_twin_32 rfl (lv_at hl 1 rfl) ?_
          refine lv_iload_n hx hb dX12_twin_33 rfl (lv_at hl 3 rfl) ?_
          refine ez_cVpi (As := [.int x1, .int x3]) (rest := []) h (fun _ q => c_X12_span q) hC k_X12_span ql_RX12_532 rfl (by decide) hS (fun _ q => ez_rcv q) rfl hl.1 rfl (Nat.le_of_ble_eq_true rfl) ⟨Nat.zero_le _, Nat.zero_le _⟩ dX12_twin_34 (fun t_34 H locs hS h => ?_)
          refine lv_aload_n hx hb dX12_twin_37 rfl (lv_at hl 0 rfl) ?_
          refine lv_iload_n hx hb dX12_twin_38 rfl (lv_at hl 1 rfl) ?_
          refine lv_iload_n hx hb dX12_twin_39 rfl (lv_at hl 2 rfl) ?_
          refine ez_cVpi (As := [.int x1, .int x2]) (rest := [.int t_34]) h (fun _ q => c_X12_span q) hC k_X12_span ql_RX12_532 rfl (by decide) hS (fun _ q => ez_rcv q) rfl hl.1 rfl (Nat.le_of_ble_eq_true rfl) ⟨Nat.zero_le _, Nat.zero_le _⟩ dX12_twin_40 (fun t_40 H locs hS h => ?_)
          refine lv_icmp_ge (tgt := 48) hx hb dX12_twin_43 (by decide) (fun c_43 => ?_) (fun c_43 => ?_)
          · replace h := ez_ifp h c_43
            exact K_48 k_14 hk_14 h0 x1 x2 x3 _ _ _ hS h (lv_sub hl [0, 1, 2, 3] rfl)
          · replace h := ez_ifn h c_43
            exact K_46 k_14 hk_14 h0 x1 x3 _ _ _ hS h (lv_sub hl [0, 1, 3] rfl)
  have E_14 : ∀ (h0 : Nat) (x1 : Int32) (x2 : Int32) (x3 : Int32) (H : Heap) (locs : List Loc) (ls : Array Slot), ez_S X B s.heap (n0) σ H locs → (ez_fix (fun _ _ _ _ => none) (z_X12_twin_14 σ) ez_N) h0 x1 x2 x3 = some z → lv_has ls 4 [(0, .ref (B + h0)), (1, .int x1), (2, .int x2), (3, .int x3)] → W p l e R s m args below meth c H locs 0 0 Q (F0 m 14 ls []) := ez_fix_ind (fun k_14 : Nat → Int32 → Int32 → Int32 → Option (Int32) => ∀ (h0 : Nat) (x1 : Int32) (x2 : Int32) (x3 : Int32) (H : Heap) (locs : List Loc) (ls : Array Slot), ez_S X B s.heap (n0) σ H locs → k_14 h0 x1 x2 x3 = some z → lv_has ls 4 [(0, .ref (B + h0)), (1, .int x1), (2, .int x2), (3, .int x3)] → W p l e R s m args below meth c H locs 0 0 Q (F0 m 14 ls [])) (fun _ _ _ _ _ _ _ _ h _ => by cases h) (fun k_14 hk_14 => K_14 k_14 hk_14) ez_N
  refine lv_aload_n hx hb dX12_twin_0 rfl (lv_at hl 0 rfl) ?_
  refine lv_iload_n hx hb dX12_twin_1 rfl (lv_at hl 1 rfl) ?_
  refine ez_cVpi (As := [.int x1]) (rest := []) h (fun _ q => c_X12_isKey q) hC k_X12_isKey ql_RX12_462 rfl (by decide) hS (fun _ q => ez_rcv q) rfl hl.1 rfl (Nat.le_of_ble_eq_true rfl) ⟨Nat.zero_le _, Nat.zero_le _⟩ dX12_twin_2 (fun t_2 H locs hS h => ?_)
  refine lv_if_ne (tgt := 10) hx hb dX12_twin_5 (by decide) (fun c_5 => ?_) (fun c_5 => ?_)
  · replace h := ez_ifn h c_5
    refine lv_iconst (v := -1) hx hb dX12_twin_10 (by decide) ?_
    refine lv_istore_n (lv' := [(2, .int (-1)), (0, .ref (B + h0)), (1, .int x1)]) hx hb dX12_twin_11 rfl hl (by decide) rfl (fun ls hl => ?_)
    refine lv_iconst (v := 0) hx hb dX12_twin_12 (by decide) ?_
    refine lv_istore_n (lv' := [(3, .int 0), (2, .int (-1)), (0, .ref (B + h0)), (1, .int x1)]) hx hb dX12_twin_13 rfl hl (by decide) rfl (fun ls hl => ?_)
    exact E_14  h0 x1 (-1 : Int32) (0 : Int32) _ _ _ hS h (lv_sub hl [2, 3, 1, 0] rfl)
  · replace h := ez_ifp h c_5
    refine lv_iconst (v := -1) hx hb dX12_twin_8 (by decide) ?_
    exact hret _ _ _ _ _ (Option.some.inj h) rfl hS dX12_twin_9
set_option maxHeartbeats 4000000 in
set_option maxRecDepth 100000 in
theorem c_X12_undo {l : Launch} {X : ez_X} {B : Nat} {σ : ez_H} {h0 : Nat} {z : Int32 × ez_H} (h : z_X12_undo σ h0 = some z) : ez_M l X B σ yX12_undo cX12_undo 1 (some .boolean) 1 [.ref (B + h0)] (some (.int z.1)) z.2 := by
  refine ez_starti (z := z) (by decide) (Nat.le_of_ble_eq_true rfl) (fun p e R s m args below meth c Q hC hret hS ls hl => ?_)
  have hC : ez_C p R s m args c X B RX12 cX12_undo 1 1 := hC
  have hx := hC.1.1
  have hb := hC.1.2.1
  have hown := hC.1.2.2.2.1
  have hts := hC.1.2.2.2.2
  have hl : lv_has ls 1 [(0, .ref (B + h0))] := hl
  obtain ⟨σ0, eσ⟩ : ∃ σ0 : ez_H, σ0 = σ := ⟨_, rfl⟩
  rw [← eσ] at hret
  have hS : ez_S X B s.heap σ0.length σ s.heap [] := eσ ▸ hS
  obtain ⟨-, h⟩ := ez_in h
  refine lv_aload_n hx hb dX12_undo_0 rfl (lv_at hl 0 rfl) ?_
  refine eg_RX12_417 hC hS h dX12_undo_1 (fun t_1 h => ?_)
  refine lv_if_ne (tgt := 9) hx hb dX12_undo_4 (by decide) (fun c_4 => ?_) (fun c_4 => ?_)
  · replace h := ez_ifn h c_4
    refine lv_aload_n hx hb dX12_undo_9 rfl (lv_at hl 0 rfl) ?_
    refine lv_dup hx hb dX12_undo_10 rfl ?_
    refine eg_RX12_417 hC hS h dX12_undo_11 (fun t_11 h => ?_)
    refine lv_iconst (v := 1) hx hb dX12_undo_14 (by decide) ?_
    refine lv_isub hx hb dX12_undo_15 ?_
    refine ez_top h (fun t_15 h => ?_)
    refine ep_RX12_417 hC hS h dX12_undo_16 (fun σ H locs hS h => ?_)
    refine lv_aload_n hx hb dX12_undo_19 rfl (lv_at hl 0 rfl) ?_
    refine lv_dup hx hb dX12_undo_20 rfl ?_
    refine eg_RX12_420 hC hS h dX12_undo_21 (fun t_21 h => ?_)
    refine lv_iconst (v := 1) hx hb dX12_undo_24 (by decide) ?_
    refine lv_iadd hx hb dX12_undo_25 ?_
    refine ez_top h (fun t_25 h => ?_)
    refine ep_RX12_420 hC hS h dX12_undo_26 (fun σ H locs hS h => ?_)
    refine lv_aload_n hx hb dX12_undo_29 rfl (lv_at hl 0 rfl) ?_
    refine ez_cVv (As := []) (rest := []) h (fun _ q => c_X12_swapAll q) hC k_X12_swapAll ql_RX12_606 rfl (by decide) hS (fun _ q => ez_rcv q) rfl hl.1 rfl (Nat.le_of_ble_eq_true rfl) ⟨Nat.zero_le _, Nat.zero_le _⟩ dX12_undo_30 (fun _ σ H locs hS h => ?_)
    refine lv_iconst (v := 1) hx hb dX12_undo_33 (by decide) ?_
    have hn : narrow .boolean (.int 1) = .int 1 := by decide
    exact hret _ _ _ _ _ _ (Option.some.inj h) hn hS dX12_undo_34
  · replace h := ez_ifp h c_4
    refine lv_iconst (v := 0) hx hb dX12_undo_7 (by decide) ?_
    have hn : narrow .boolean (.int 0) = .int 0 := by decide
    exact hret _ _ _ _ _ _ (Option.some.inj h) hn hS dX12_undo_8
set_option maxHeartbeats 4000000 in
set_option maxRecDepth 100000 in
theorem c_X12_untell {l : Launch} {X : ez_X} {B : Nat} {σ : ez_H} {h0 : Nat} {x1 : Int32} {z : Int32 × ez_H} (h : z_X12_untell σ h0 x1 = some z) : ez_M l X B σ yX12_untell cX12_untell 2 (some .boolean) 1 [.ref (B + h0), .int x1] (some (.int z.1)) z.2 := by
  refine ez_starti (z := z) (by decide) (Nat.le_of_ble_eq_true rfl) (fun p e R s m args below meth c Q hC hret hS ls hl => ?_)
  have hC : ez_C p R s m args c X B RX12 cX12_untell 2 1 := hC
  have hx := hC.1.1
  have hb := hC.1.2.1
  have hown := hC.1.2.2.2.1
  have hts := hC.1.2.2.2.2
  have hl : lv_has ls 2 [(0, .ref (B + h0)), (1, .int x1)] := hl
  obtain ⟨σ0, eσ⟩ : ∃ σ0 : ez_H, σ0 = σ := ⟨_, rfl⟩
  rw [← eσ] at hret
  have hS : ez_S X B s.heap σ0.length σ s.heap [] := eσ ▸ hS
  obtain ⟨-, h⟩ := ez_in h
  have K_23 : ∀ (σ : ez_H) (H : Heap) (locs : List Loc) (ls : Array Slot), ez_S X B s.heap (σ0.length) σ H locs → z_X12_untell_23 σ = some z → lv_has ls 2 [] → W p l e R s m args below meth c H locs 0 0 Q (F0 m 23 ls []) := by
    intro σ H locs ls hS h hl
    refine lv_iconst (v := 0) hx hb dX12_untell_23 (by decide) ?_
    have hn : narrow .boolean (.int 0) = .int 0 := by decide
    exact hret _ _ _ _ _ _ (Option.some.inj h) hn hS dX12_untell_24
  refine lv_iload_n hx hb dX12_untell_0 rfl (lv_at hl 1 rfl) ?_
  refine lv_iconst (v := 0) hx hb dX12_untell_1 (by decide) ?_
  refine lv_aload_n hx hb dX12_untell_2 rfl (lv_at hl 0 rfl) ?_
  refine eg_RX12_423 hC hS h dX12_untell_3 (fun t_3 h => ?_)
  refine lv_iconst (v := 1) hx hb dX12_untell_6 (by decide) ?_
  refine lv_isub hx hb dX12_untell_7 ?_
  refine ez_top h (fun t_7 h => ?_)
  refine ez_cSpi (As := [.int x1, .int 0, .int t_7]) (rest := []) h (fun _ q => c_X12_isIn q) hC k_X12_isIn ql_RX12_407 rfl (by decide) hS hl.1 rfl (Nat.le_of_ble_eq_true rfl) ⟨Nat.zero_le _, Nat.zero_le _⟩ dX12_untell_8 (fun t_8 H locs hS h => ?_)
  refine lv_if_eq (tgt := 23) hx hb dX12_untell_11 (by decide) (fun c_11 => ?_) (fun c_11 => ?_)
  · replace h := ez_ifp h c_11
    exact K_23  σ _ _ _ hS h (lv_sub hl [] rfl)
  · replace h := ez_ifn h c_11
    refine lv_aload_n hx hb dX12_untell_14 rfl (lv_at hl 0 rfl) ?_
    refine eg_RX12_145 hC hS h dX12_untell_15 (fun t_15 h => ?_)
    refine lv_iload_n hx hb dX12_untell_18 rfl (lv_at hl 1 rfl) ?_
    refine ez_ial hC hS h dX12_untell_19 (fun t_19 h => ?_)
    refine lv_if_lt (tgt := 25) hx hb dX12_untell_20 (by decide) (fun c_20 => ?_) (fun c_20 => ?_)
    · replace h := ez_ifp h c_20
      refine lv_aload_n hx hb dX12_untell_25 rfl (lv_at hl 0 rfl) ?_
      refine eg_RX12_145 hC hS h dX12_untell_26 (fun t_26 h => ?_)
      refine lv_iload_n hx hb dX12_untell_29 rfl (lv_at hl 1 rfl) ?_
      refine lv_aload_n hx hb dX12_untell_30 rfl (lv_at hl 0 rfl) ?_
      refine eg_RX12_609 hC hS h dX12_untell_31 (fun t_31 h => ?_)
      refine ez_ias hC hS h dX12_untell_34 (fun σ H locs hS h => ?_)
      refine lv_iconst (v := 1) hx hb dX12_untell_35 (by decide) ?_
      have hn : narrow .boolean (.int 1) = .int 1 := by decide
      exact hret _ _ _ _ _ _ (Option.some.inj h) hn hS dX12_untell_36
    · replace h := ez_ifn h c_20
      exact K_23  σ _ _ _ hS h (lv_sub hl [] rfl)
set_option maxHeartbeats 4000000 in
set_option maxRecDepth 100000 in
theorem c_X12_walk {l : Launch} {X : ez_X} {B : Nat} {σ : ez_H} {h0 : Nat} {x1 : Int32} {x2 : Int32} {z : Int32 × ez_H} (h : z_X12_walk σ h0 x1 x2 = some z) : ez_M l X B σ yX12_walk cX12_walk 6 (some .int) 5 [.ref (B + h0), .int x1, .int x2] (some (.int z.1)) z.2 := by
  refine ez_starti (z := z) (by decide) (Nat.le_of_ble_eq_true rfl) (fun p e R s m args below meth c Q hC hret hS ls hl => ?_)
  have hC : ez_C p R s m args c X B RX12 cX12_walk 6 5 := hC
  have hx := hC.1.1
  have hb := hC.1.2.1
  have hown := hC.1.2.2.2.1
  have hts := hC.1.2.2.2.2
  have hl : lv_has ls 6 [(0, .ref (B + h0)), (1, .int x1), (2, .int x2)] := hl
  obtain ⟨σ0, eσ⟩ : ∃ σ0 : ez_H, σ0 = σ := ⟨_, rfl⟩
  rw [← eσ] at hret
  have hS : ez_S X B s.heap σ0.length σ s.heap [] := eσ ▸ hS
  obtain ⟨-, h⟩ := ez_in h
  have K_16 : ∀ (σ : ez_H) (H : Heap) (locs : List Loc) (ls : Array Slot), ez_S X B s.heap (σ0.length) σ H locs → z_X12_walk_16 σ = some z → lv_has ls 6 [] → W p l e R s m args below meth c H locs 0 0 Q (F0 m 16 ls []) := by
    intro σ H locs ls hS h hl
    refine lv_iconst (v := -1) hx hb dX12_walk_16 (by decide) ?_
    exact hret _ _ _ _ _ _ (Option.some.inj h) rfl hS dX12_walk_17
  have K_101 : ∀ (σ : ez_H) (H : Heap) (locs : List Loc) (ls : Array Slot), ez_S X B s.heap (σ0.length) σ H locs → z_X12_walk_101 σ = some z → lv_has ls 6 [] → W p l e R s m args below meth c H locs 0 0 Q (F0 m 101 ls []) := by
    intro σ H locs ls hS h hl
    refine lv_iconst (v := -1) hx hb dX12_walk_101 (by decide) ?_
    exact hret _ _ _ _ _ _ (Option.some.inj h) rfl hS dX12_walk_102
  have K_88 : ∀ (σ : ez_H) (h0 : Nat) (x1 : Int32) (x3 : Int32) (x5 : Int32) (H : Heap) (locs : List Loc) (ls : Array Slot), ez_S X B s.heap (σ0.length) σ H locs → z_X12_walk_88 σ h0 x1 x3 x5 = some z → lv_has ls 6 [(0, .ref (B + h0)), (1, .int x1), (3, .int x3), (5, .int x5)] → W p l e R s m args below meth c H locs 0 0 Q (F0 m 88 ls []) := by
    intro σ h0 x1 x3 x5 H locs ls hS h hl
    refine lv_iload_n hx hb dX12_walk_88 rfl (lv_at hl 2 rfl) ?_
    refine lv_if_lt (tgt := 101) hx hb dX12_walk_89 (by decide) (fun c_89 => ?_) (fun c_89 => ?_)
    · replace h := ez_ifp h c_89
      exact K_101  σ _ _ _ hS h (lv_sub hl [] rfl)
    · replace h := ez_ifn h c_89
      refine lv_iload hx hb dX12_walk_92 (lv_at hl 3 rfl) ?_
      refine lv_aload_n hx hb dX12_walk_94 rfl (lv_at hl 0 rfl) ?_
      refine ez_cVpi (As := []) (rest := [.int x5]) h (fun _ q => c_X12_many q) hC k_X12_many ql_RX12_404 rfl (by decide) hS (fun _ q => ez_rcv q) rfl hl.1 rfl (Nat.le_of_ble_eq_true rfl) ⟨Nat.zero_le _, Nat.zero_le _⟩ dX12_walk_95 (fun t_95 H locs hS h => ?_)
      refine lv_icmp_ne (tgt := 103) hx hb dX12_walk_98 (by decide) (fun c_98 => ?_) (fun c_98 => ?_)
      · replace h := ez_ifn h c_98
        refine lv_aload_n hx hb dX12_walk_103 rfl (lv_at hl 0 rfl) ?_
        refine ez_cVv (As := []) (rest := []) h (fun _ q => c_X12_keepAct q) hC k_X12_keepAct ql_RX12_600 rfl (by decide) hS (fun _ q => ez_rcv q) rfl hl.1 rfl (Nat.le_of_ble_eq_true rfl) ⟨Nat.zero_le _, Nat.zero_le _⟩ dX12_walk_104 (fun _ σ H locs hS h => ?_)
        refine lv_aload_n hx hb dX12_walk_107 rfl (lv_at hl 0 rfl) ?_
        refine lv_iload hx hb dX12_walk_108 (lv_at hl 3 rfl) ?_
        refine ez_cVv (As := [.int x5]) (rest := []) h (fun _ q => c_X12_use q) hC k_X12_use ql_RX12_596 rfl (by decide) hS (fun _ q => ez_rcv q) rfl hl.1 rfl (Nat.le_of_ble_eq_true rfl) ⟨Nat.zero_le _, Nat.zero_le _⟩ dX12_walk_110 (fun _ σ H locs hS h => ?_)
        refine lv_aload_n hx hb dX12_walk_113 rfl (lv_at hl 0 rfl) ?_
        refine eg_RX12_118 hC hS h dX12_walk_114 (fun t_114 h => ?_)
        refine lv_bipush (v := 86) hx hb dX12_walk_117 (by decide) ?_
        refine lv_iload_n hx hb dX12_walk_119 rfl (lv_at hl 1 rfl) ?_
        refine lv_iadd hx hb dX12_walk_120 ?_
        refine ez_top h (fun t_120 h => ?_)
        refine lv_iload_n hx hb dX12_walk_121 rfl (lv_at hl 2 rfl) ?_
        refine ez_ias hC hS h dX12_walk_122 (fun σ H locs hS h => ?_)
        refine lv_iload_n hx hb dX12_walk_123 rfl (lv_at hl 2 rfl) ?_
        exact hret _ _ _ _ _ _ (Option.some.inj h) rfl hS dX12_walk_124
      · replace h := ez_ifp h c_98
        exact K_101  σ _ _ _ hS h (lv_sub hl [] rfl)
  have K_82 : ∀ (k_52 : ez_H → Nat → Int32 → Int32 → Int32 → Int32 → Option (Int32 × ez_H)) (hk_52 : ∀ (σ : ez_H) (h0 : Nat) (x1 : Int32) (x3 : Int32) (x4 : Int32) (x5 : Int32) (H : Heap) (locs : List Loc) (ls : Array Slot), ez_S X B s.heap (σ0.length) σ H locs → k_52 σ h0 x1 x3 x4 x5 = some z → lv_has ls 6 [(0, .ref (B + h0)), (1, .int x1), (3, .int x3), (4, .int x4), (5, .int x5)] → W p l e R s m args below meth c H locs 0 0 Q (F0 m 52 ls [])), ∀ (σ : ez_H) (h0 : Nat) (x1 : Int32) (x3 : Int32) (x4 : Int32) (x5 : Int32) (H : Heap) (locs : List Loc) (ls : Array Slot), ez_S X B s.heap (σ0.length) σ H locs → z_X12_walk_82 k_52 σ h0 x1 x3 x4 x5 = some z → lv_has ls 6 [(0, .ref (B + h0)), (1, .int x1), (3, .int x3), (4, .int x4), (5, .int x5)] → W p l e R s m args below meth c H locs 0 0 Q (F0 m 82 ls []) := by
    intro k_52 hk_52 σ h0 x1 x3 x4 x5 H locs ls hS h hl
    obtain ⟨t_82, e_82, h⟩ := ez_let_sp h
    refine lv_iinc (v := t_82) (lv' := [(5, .int t_82), (0, .ref (B + h0)), (1, .int x1), (3, .int x3), (4, .int x4)]) hx hb dX12_walk_82 hl (k := 4) rfl (by rw [e_82]; rfl) (by decide) rfl (fun ls hl => ?_)
    refine lv_goto (tgt := 52) hx hb dX12_walk_85 (by decide) ?_
    exact hk_52 σ h0 x1 x3 x4 t_82 _ _ _ hS h (lv_sub hl [1, 2, 3, 4, 0] rfl)
  have K_52 : ∀ (k_52 : ez_H → Nat → Int32 → Int32 → Int32 → Int32 → Option (Int32 × ez_H)) (hk_52 : ∀ (σ : ez_H) (h0 : Nat) (x1 : Int32) (x3 : Int32) (x4 : Int32) (x5 : Int32) (H : Heap) (locs : List Loc) (ls : Array Slot), ez_S X B s.heap (σ0.length) σ H locs → k_52 σ h0 x1 x3 x4 x5 = some z → lv_has ls 6 [(0, .ref (B + h0)), (1, .int x1), (3, .int x3), (4, .int x4), (5, .int x5)] → W p l e R s m args below meth c H locs 0 0 Q (F0 m 52 ls [])), ∀ (σ : ez_H) (h0 : Nat) (x1 : Int32) (x3 : Int32) (x4 : Int32) (x5 : Int32) (H : Heap) (locs : List Loc) (ls : Array Slot), ez_S X B s.heap (σ0.length) σ H locs → z_X12_walk_52 k_52 σ h0 x1 x3 x4 x5 = some z → lv_has ls 6 [(0, .ref (B + h0)), (1, .int x1), (3, .int x3), (4, .int x4), (5, .int x5)] → W p l e R s m args below meth c H locs 0 0 Q (F0 m 52 ls []) := by
    intro k_52 hk_52 σ h0 x1 x3 x4 x5 H locs ls hS h hl
    refine lv_iload hx hb dX12_walk_52 (lv_at hl 4 rfl) ?_
    refine lv_aload_n hx hb dX12_walk_54 rfl (lv_at hl 0 rfl) ?_
    refine ez_cVpi (As := []) (rest := [.int x5]) h (fun _ q => c_X12_many q) hC k_X12_many ql_RX12_404 rfl (by decide) hS (fun _ q => ez_rcv q) rfl hl.1 rfl (Nat.le_of_ble_eq_true rfl) ⟨Nat.zero_le _, Nat.zero_le _⟩ dX12_walk_55 (fun t_55 H locs hS h => ?_)
    refine lv_icmp_ge (tgt := 88) hx hb dX12_walk_58 (by decide) (fun c_58 => ?_) (fun c_58 => ?_)
    · replace h := ez_ifp h c_58
      exact K_88  σ h0 x1 x3 x5 _ _ _ hS h (lv_sub hl [0, 1, 2, 4] rfl)
    · replace h := ez_ifn h c_58
      refine lv_aload_n hx hb dX12_walk_61 rfl (lv_at hl 0 rfl) ?_
      refine lv_iload hx hb dX12_walk_62 (lv_at hl 4 rfl) ?_
      refine ez_cVpi (As := [.int x5]) (rest := []) h (fun _ q => c_X12_holderOf q) hC k_X12_holderOf ql_RX12_465 rfl (by decide) hS (fun _ q => ez_rcv q) rfl hl.1 rfl (Nat.le_of_ble_eq_true rfl) ⟨Nat.zero_le _, Nat.zero_le _⟩ dX12_walk_64 (fun t_64 H locs hS h => ?_)
      refine lv_iload_n hx hb dX12_walk_67 rfl (lv_at hl 1 rfl) ?_
      refine lv_icmp_ne (tgt := 82) hx hb dX12_walk_68 (by decide) (fun c_68 => ?_) (fun c_68 => ?_)
      · replace h := ez_ifn h c_68
        exact K_82 k_52 hk_52 σ h0 x1 x3 x4 x5 _ _ _ hS h (lv_sub hl [0, 1, 2, 3, 4] rfl)
      · replace h := ez_ifp h c_68
        refine lv_aload_n hx hb dX12_walk_71 rfl (lv_at hl 0 rfl) ?_
        refine lv_iload hx hb dX12_walk_72 (lv_at hl 4 rfl) ?_
        refine lv_iload hx hb dX12_walk_74 (lv_at hl 3 rfl) ?_
        refine ez_cVpi (As := [.int x5, .int x4]) (rest := []) h (fun _ q => c_X12_opensBy q) hC k_X12_opensBy ql_RX12_474 rfl (by decide) hS (fun _ q => ez_rcv q) rfl hl.1 rfl (Nat.le_of_ble_eq_true rfl) ⟨Nat.zero_le _, Nat.zero_le _⟩ dX12_walk_76 (fun t_76 H locs hS h => ?_)
        refine lv_if_ne (tgt := 88) hx hb dX12_walk_79 (by decide) (fun c_79 => ?_) (fun c_79 => ?_)
        · replace h := ez_ifn h c_79
          exact K_88  σ h0 x1 x3 x5 _ _ _ hS h (lv_sub hl [0, 1, 2, 4] rfl)
        · replace h := ez_ifp h c_79
          exact K_82 k_52 hk_52 σ h0 x1 x3 x4 x5 _ _ _ hS h (lv_sub hl [0, 1, 2, 3, 4] rfl)
  have E_52 : ∀ (σ : ez_H) (h0 : Nat) (x1 : Int32) (x3 : Int32) (x4 : Int32) (x5 : Int32) (H : Heap) (locs : List Loc) (ls : Array Slot), ez_S X B s.heap (σ0.length) σ H locs → (ez_fix (fun _ _ _ _ _ _ => none) (z_X12_walk_52) ez_N) σ h0 x1 x3 x4 x5 = some z → lv_has ls 6 [(0, .ref (B + h0)), (1, .int x1), (3, .int x3), (4, .int x4), (5, .int x5)] → W p l e R s m args below meth c H locs 0 0 Q (F0 m 52 ls []) := ez_fix_ind (fun k_52 : ez_H → Nat → Int32 → Int32 → Int32 → Int32 → Option (Int32 × ez_H) => ∀ (σ : ez_H) (h0 : Nat) (x1 : Int32) (x3 : Int32) (x4 : Int32) (x5 : Int32) (H : Heap) (locs : List Loc) (ls : Array Slot), ez_S X B s.heap (σ0.length) σ H locs → k_52 σ h0 x1 x3 x4 x5 = some z → lv_has ls 6 [(0, .ref (B + h0)), (1, .int x1), (3, .int x3), (4, .int x4), (5, .int x5)] → W p l e R s m args below meth c H locs 0 0 Q (F0 m 52 ls [])) (fun _ _ _ _ _ _ _ _ _ _ h _ => by cases h) (fun k_52 hk_52 => K_52 k_52 hk_52) ez_N
  refine lv_aload_n hx hb dX12_walk_0 rfl (lv_at hl 0 rfl) ?_
  refine lv_iload_n hx hb dX12_walk_1 rfl (lv_at hl 1 rfl) ?_
  refine ez_cVpi (As := [.int x1]) (rest := []) h (fun _ q => c_X12_isPerson q) hC k_X12_isPerson ql_RX12_495 rfl (by decide) hS (fun _ q => ez_rcv q) rfl hl.1 rfl (Nat.le_of_ble_eq_true rfl) ⟨Nat.zero_le _, Nat.zero_le _⟩ dX12_walk_2 (fun t_2 H locs hS h => ?_)
  refine lv_if_eq (tgt := 16) hx hb dX12_walk_5 (by decide) (fun c_5 => ?_) (fun c_5 => ?_)
  · replace h := ez_ifp h c_5
    exact K_16  σ _ _ _ hS h (lv_sub hl [] rfl)
  · replace h := ez_ifn h c_5
    refine lv_aload_n hx hb dX12_walk_8 rfl (lv_at hl 0 rfl) ?_
    refine lv_iload_n hx hb dX12_walk_9 rfl (lv_at hl 2 rfl) ?_
    refine ez_cVpi (As := [.int x2]) (rest := []) h (fun _ q => c_X12_isDoor q) hC k_X12_isDoor ql_RX12_492 rfl (by decide) hS (fun _ q => ez_rcv q) rfl hl.1 rfl (Nat.le_of_ble_eq_true rfl) ⟨Nat.zero_le _, Nat.zero_le _⟩ dX12_walk_10 (fun t_10 H locs hS h => ?_)
    refine lv_if_ne (tgt := 18) hx hb dX12_walk_13 (by decide) (fun c_13 => ?_) (fun c_13 => ?_)
    · replace h := ez_ifn h c_13
      refine lv_aload_n hx hb dX12_walk_18 rfl (lv_at hl 0 rfl) ?_
      refine lv_iload_n hx hb dX12_walk_19 rfl (lv_at hl 2 rfl) ?_
      refine lv_aload_n hx hb dX12_walk_20 rfl (lv_at hl 0 rfl) ?_
      refine eg_RX12_118 hC hS h dX12_walk_21 (fun t_21 h => ?_)
      refine lv_bipush (v := 86) hx hb dX12_walk_24 (by decide) ?_
      refine lv_iload_n hx hb dX12_walk_26 rfl (lv_at hl 1 rfl) ?_
      refine lv_iadd hx hb dX12_walk_27 ?_
      refine ez_top h (fun t_27 h => ?_)
      refine ez_ial hC hS h dX12_walk_28 (fun t_28 h => ?_)
      refine ez_cVpi (As := [.int x2, .int t_28]) (rest := []) h (fun _ q => c_X12_otherSide q) hC k_X12_otherSide ql_RX12_583 rfl (by decide) hS (fun _ q => ez_rcv q) rfl hl.1 rfl (Nat.le_of_ble_eq_true rfl) ⟨Nat.zero_le _, Nat.zero_le _⟩ dX12_walk_29 (fun t_29 H locs hS h => ?_)
      refine lv_istore_n (lv' := [(3, .int t_29), (0, .ref (B + h0)), (1, .int x1), (2, .int x2)]) hx hb dX12_walk_32 rfl hl (by decide) rfl (fun ls hl => ?_)
      refine lv_aload_n hx hb dX12_walk_33 rfl (lv_at hl 1 rfl) ?_
      refine eg_RX12_66 hC hS h dX12_walk_34 (fun t_34 h => ?_)
      refine lv_bipush (v := 8) hx hb dX12_walk_37 (by decide) ?_
      refine lv_aload_n hx hb dX12_walk_39 rfl (lv_at hl 1 rfl) ?_
      refine eg_RX12_274 hC hS h dX12_walk_40 (fun t_40 h => ?_)
      refine lv_imul hx hb dX12_walk_43 ?_
      refine ez_top h (fun t_43 h => ?_)
      refine lv_iload_n hx hb dX12_walk_44 rfl (lv_at hl 3 rfl) ?_
      refine lv_iadd hx hb dX12_walk_45 ?_
      refine ez_top h (fun t_45 h => ?_)
      refine ez_ial hC hS h dX12_walk_46 (fun t_46 h => ?_)
      refine lv_istore (lv' := [(4, .int t_46), (3, .int t_29), (0, .ref (B + h0)), (1, .int x1), (2, .int x2)]) hx hb dX12_walk_47 hl (by decide) rfl (fun ls hl => ?_)
      refine lv_iconst (v := 0) hx hb dX12_walk_49 (by decide) ?_
      refine lv_istore (lv' := [(5, .int 0), (4, .int t_46), (3, .int t_29), (0, .ref (B + h0)), (1, .int x1), (2, .int x2)]) hx hb dX12_walk_50 hl (by decide) rfl (fun ls hl => ?_)
      exact E_52  σ h0 x1 t_29 t_46 (0 : Int32) _ _ _ hS h (lv_sub hl [3, 4, 2, 1, 0] rfl)
    · replace h := ez_ifp h c_13
      exact K_16  σ _ _ _ hS h (lv_sub hl [] rfl)
