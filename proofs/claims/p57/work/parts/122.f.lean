set_option maxHeartbeats 4000000 in
set_option maxRecDepth 100000 in
theorem c_X12_bringBack {l : Launch} {X : ez_X} {B : Nat} {σ : ez_H} {h0 : Nat} {z : Unit × ez_H} (h : z_X12_bringBack σ h0 = some z) : ez_M l X B σ yX12_bringBack cX12_bringBack 2 (none) 0 [.ref (B + h0)] (none) z.2 := by
  refine ez_startv (z := z) (by decide) (Nat.le_of_ble_eq_true rfl) (fun p e R s m args below meth c Q hC hret hS ls hl => ?_)
  have hC : ez_C p R s m args c X B RX12 cX12_bringBack 2 0 := hC
  have hx := hC.1.1
  have hb := hC.1.2.1
  have hown := hC.1.2.2.2.1
  have hts := hC.1.2.2.2.2
  have hl : lv_has ls 2 [(0, .ref (B + h0))] := hl
  obtain ⟨σ0, eσ⟩ : ∃ σ0 : ez_H, σ0 = σ := ⟨_, rfl⟩
  rw [← eσ] at hret
  have hS : ez_S X B s.heap σ0.length σ s.heap [] := eσ ▸ hS
  obtain ⟨-, h⟩ := ez_in h
  have K_2 : ∀ (k_2 : ez_H → Nat → Int32 → Option (Unit × ez_H)) (hk_2 : ∀ (σ : ez_H) (h0 : Nat) (x1 : Int32) (H : Heap) (locs : List Loc) (ls : Array Slot), ez_S X B s.heap (σ0.length) σ H locs → k_2 σ h0 x1 = some z → lv_has ls 2 [(0, .ref (B + h0)), (1, .int x1)] → W p l e R s m args below meth c H locs 0 0 Q (F0 m 2 ls [])), ∀ (σ : ez_H) (h0 : Nat) (x1 : Int32) (H : Heap) (locs : List Loc) (ls : Array Slot), ez_S X B s.heap (σ0.length) σ H locs → z_X12_bringBack_2 k_2 σ h0 x1 = some z → lv_has ls 2 [(0, .ref (B + h0)), (1, .int x1)] → W p l e R s m args below meth c H locs 0 0 Q (F0 m 2 ls []) := by
    intro k_2 hk_2 σ h0 x1 H locs ls hS h hl
    refine lv_iload_n hx hb dX12_bringBack_2 rfl (lv_at hl 1 rfl) ?_
    refine lv_bipush (v := 91) hx hb dX12_bringBack_3 (by decide) ?_
    refine lv_icmp_ge (tgt := 26) hx hb dX12_bringBack_5 (by decide) (fun c_5 => ?_) (fun c_5 => ?_)
    · replace h := ez_ifp h c_5
      exact hret _ _ _ _ _ _ (Option.some.inj h) hS dX12_bringBack_26
    · replace h := ez_ifn h c_5
      refine lv_aload_n hx hb dX12_bringBack_8 rfl (lv_at hl 0 rfl) ?_
      refine eg_RX12_118 hC hS h dX12_bringBack_9 (fun t_9 h => ?_)
      refine lv_iload_n hx hb dX12_bringBack_12 rfl (lv_at hl 1 rfl) ?_
      refine lv_aload_n hx hb dX12_bringBack_13 rfl (lv_at hl 0 rfl) ?_
      refine eg_RX12_121 hC hS h dX12_bringBack_14 (fun t_14 h => ?_)
      refine lv_iload_n hx hb dX12_bringBack_17 rfl (lv_at hl 1 rfl) ?_
      refine ez_ial hC hS h dX12_bringBack_18 (fun t_18 h => ?_)
      refine ez_ias hC hS h dX12_bringBack_19 (fun σ H locs hS h => ?_)
      obtain ⟨t_20, e_20, h⟩ := ez_let_sp h
      refine lv_iinc (v := t_20) (lv' := [(1, .int t_20), (0, .ref (B + h0))]) hx hb dX12_bringBack_20 hl (k := 1) rfl (by rw [e_20]; rfl) (by decide) rfl (fun ls hl => ?_)
      refine lv_goto (tgt := 2) hx hb dX12_bringBack_23 (by decide) ?_
      exact hk_2 σ h0 t_20 _ _ _ hS h (lv_sub hl [1, 0] rfl)
  have E_2 : ∀ (σ : ez_H) (h0 : Nat) (x1 : Int32) (H : Heap) (locs : List Loc) (ls : Array Slot), ez_S X B s.heap (σ0.length) σ H locs → (ez_fix (fun _ _ _ => none) (z_X12_bringBack_2) ez_N) σ h0 x1 = some z → lv_has ls 2 [(0, .ref (B + h0)), (1, .int x1)] → W p l e R s m args below meth c H locs 0 0 Q (F0 m 2 ls []) := ez_fix_ind (fun k_2 : ez_H → Nat → Int32 → Option (Unit × ez_H) => ∀ (σ : ez_H) (h0 : Nat) (x1 : Int32) (H : Heap) (locs : List Loc) (ls : Array Slot), ez_S X B s.heap (σ0.length) σ H locs → k_2 σ h0 x1 = some z → lv_has ls 2 [(0, .ref (B + h0)), (1, .int x1)] → W p l e R s m args below meth c H locs 0 0 Q (F0 m 2 ls [])) (fun _ _ _ _ _ _ _ h _ => by cases h) (fun k_2 hk_2 => K_2 k_2 hk_2) ez_N
  refine lv_iconst (v := 0) hx hb dX12_bringBack_0 (by decide) ?_
  refine lv_istore_n (lv' := [(1, .int 0), (0, .ref (B + h0))]) hx hb dX12_bringBack_1 rfl hl (by decide) rfl (fun ls hl => ?_)
  exact E_2  σ h0 (0 : Int32) _ _ _ hS h (lv_sub hl [1, 0] rfl)
set_option maxHeartbeats 4000000 in
set_option maxRecDepth 100000 in
theorem c_X12_keeps {l : Launch} {X : ez_X} {B : Nat} {σ : ez_H} {h0 : Nat} {x1 : Int32} {z : Int32 × ez_H} (h : z_X12_keeps σ h0 x1 = some z) : ez_M l X B σ yX12_keeps cX12_keeps 4 (some .int) 4 [.ref (B + h0), .int x1] (some (.int z.1)) z.2 := by
  refine ez_starti (z := z) (by decide) (Nat.le_of_ble_eq_true rfl) (fun p e R s m args below meth c Q hC hret hS ls hl => ?_)
  have hC : ez_C p R s m args c X B RX12 cX12_keeps 4 4 := hC
  have hx := hC.1.1
  have hb := hC.1.2.1
  have hown := hC.1.2.2.2.1
  have hts := hC.1.2.2.2.2
  have hl : lv_has ls 4 [(0, .ref (B + h0)), (1, .int x1)] := hl
  obtain ⟨σ0, eσ⟩ : ∃ σ0 : ez_H, σ0 = σ := ⟨_, rfl⟩
  rw [← eσ] at hret
  have hS : ez_S X B s.heap σ0.length σ s.heap [] := eσ ▸ hS
  obtain ⟨-, h⟩ := ez_in h
  have K_67 : ∀ (σ : ez_H) (h0 : Nat) (x2 : Int32) (H : Heap) (locs : List Loc) (ls : Array Slot), ez_S X B s.heap (σ0.length) σ H locs → z_X12_keeps_67 σ h0 x2 = some z → lv_has ls 4 [(0, .ref (B + h0)), (2, .int x2)] → W p l e R s m args below meth c H locs 0 0 Q (F0 m 67 ls []) := by
    intro σ h0 x2 H locs ls hS h hl
    refine lv_aload_n hx hb dX12_keeps_67 rfl (lv_at hl 0 rfl) ?_
    refine ez_cVv (As := []) (rest := []) h (fun _ q => c_X12_bringBack q) hC k_X12_bringBack ql_RX12_562 rfl (by decide) hS (fun _ q => ez_rcv q) rfl hl.1 rfl (Nat.le_of_ble_eq_true rfl) ⟨Nat.zero_le _, Nat.zero_le _⟩ dX12_keeps_68 (fun _ σ H locs hS h => ?_)
    refine lv_iload_n hx hb dX12_keeps_71 rfl (lv_at hl 1 rfl) ?_
    exact hret _ _ _ _ _ _ (Option.some.inj h) rfl hS dX12_keeps_72
  have K_61 : ∀ (k_18 : ez_H → Nat → Int32 → Int32 → Int32 → Option (Int32 × ez_H)) (hk_18 : ∀ (σ : ez_H) (h0 : Nat) (x1 : Int32) (x2 : Int32) (x3 : Int32) (H : Heap) (locs : List Loc) (ls : Array Slot), ez_S X B s.heap (σ0.length) σ H locs → k_18 σ h0 x1 x2 x3 = some z → lv_has ls 4 [(0, .ref (B + h0)), (1, .int x1), (2, .int x2), (3, .int x3)] → W p l e R s m args below meth c H locs 0 0 Q (F0 m 18 ls [])), ∀ (σ : ez_H) (h0 : Nat) (x1 : Int32) (x2 : Int32) (x3 : Int32) (H : Heap) (locs : List Loc) (ls : Array Slot), ez_S X B s.heap (σ0.length) σ H locs → z_X12_keeps_61 k_18 σ h0 x1 x2 x3 = some z → lv_has ls 4 [(0, .ref (B + h0)), (1, .int x1), (2, .int x2), (3, .int x3)] → W p l e R s m args below meth c H locs 0 0 Q (F0 m 61 ls []) := by
    intro k_18 hk_18 σ h0 x1 x2 x3 H locs ls hS h hl
    obtain ⟨t_61, e_61, h⟩ := ez_let_sp h
    refine lv_iinc (v := t_61) (lv' := [(3, .int t_61), (0, .ref (B + h0)), (1, .int x1), (2, .int x2)]) hx hb dX12_keeps_61 hl (k := 3) rfl (by rw [e_61]; rfl) (by decide) rfl (fun ls hl => ?_)
    refine lv_goto (tgt := 18) hx hb dX12_keeps_64 (by decide) ?_
    exact hk_18 σ h0 x1 x2 t_61 _ _ _ hS h (lv_sub hl [1, 2, 3, 0] rfl)
  have K_18 : ∀ (k_18 : ez_H → Nat → Int32 → Int32 → Int32 → Option (Int32 × ez_H)) (hk_18 : ∀ (σ : ez_H) (h0 : Nat) (x1 : Int32) (x2 : Int32) (x3 : Int32) (H : Heap) (locs : List Loc) (ls : Array Slot), ez_S X B s.heap (σ0.length) σ H locs → k_18 σ h0 x1 x2 x3 = some z → lv_has ls 4 [(0, .ref (B + h0)), (1, .int x1), (2, .int x2), (3, .int x3)] → W p l e R s m args below meth c H locs 0 0 Q (F0 m 18 ls [])), ∀ (σ : ez_H) (h0 : Nat) (x1 : Int32) (x2 : Int32) (x3 : Int32) (H : Heap) (locs : List Loc) (ls : Array Slot), ez_S X B s.heap (σ0.length) σ H locs → z_X12_keeps_18 k_18 σ h0 x1 x2 x3 = some z → lv_has ls 4 [(0, .ref (B + h0)), (1, .int x1), (2, .int x2), (3, .int x3)] → W p l e R s m args below meth c H locs 0 0 Q (F0 m 18 ls []) := by
    intro k_18 hk_18 σ h0 x1 x2 x3 H locs ls hS h hl
    refine lv_iload_n hx hb dX12_keeps_18 rfl (lv_at hl 3 rfl) ?_
    refine lv_aload_n hx hb dX12_keeps_19 rfl (lv_at hl 0 rfl) ?_
    refine ez_cVpi (As := []) (rest := [.int x3]) h (fun _ q => c_X12_bittings q) hC k_X12_bittings ql_RX12_438 rfl (by decide) hS (fun _ q => ez_rcv q) rfl hl.1 rfl (Nat.le_of_ble_eq_true rfl) ⟨Nat.zero_le _, Nat.zero_le _⟩ dX12_keeps_20 (fun t_20 H locs hS h => ?_)
    refine lv_icmp_ge (tgt := 67) hx hb dX12_keeps_23 (by decide) (fun c_23 => ?_) (fun c_23 => ?_)
    · replace h := ez_ifp h c_23
      exact K_67  σ h0 x2 _ _ _ hS h (lv_sub hl [0, 2] rfl)
    · replace h := ez_ifn h c_23
      refine lv_iload_n hx hb dX12_keeps_26 rfl (lv_at hl 2 rfl) ?_
      refine lv_if_ge (tgt := 67) hx hb dX12_keeps_27 (by decide) (fun c_27 => ?_) (fun c_27 => ?_)
      · replace h := ez_ifp h c_27
        exact K_67  σ h0 x2 _ _ _ hS h (lv_sub hl [0, 2] rfl)
      · replace h := ez_ifn h c_27
        refine lv_aload_n hx hb dX12_keeps_30 rfl (lv_at hl 0 rfl) ?_
        refine lv_iload_n hx hb dX12_keeps_31 rfl (lv_at hl 3 rfl) ?_
        refine ez_cVpi (As := [.int x3]) (rest := []) h (fun _ q => c_X12_isLegal q) hC k_X12_isLegal ql_RX12_456 rfl (by decide) hS (fun _ q => ez_rcv q) rfl hl.1 rfl (Nat.le_of_ble_eq_true rfl) ⟨Nat.zero_le _, Nat.zero_le _⟩ dX12_keeps_32 (fun t_32 H locs hS h => ?_)
        refine lv_if_ne (tgt := 41) hx hb dX12_keeps_35 (by decide) (fun c_35 => ?_) (fun c_35 => ?_)
        · replace h := ez_ifn h c_35
          refine lv_aload_n hx hb dX12_keeps_41 rfl (lv_at hl 0 rfl) ?_
          refine lv_iload_n hx hb dX12_keeps_42 rfl (lv_at hl 1 rfl) ?_
          refine lv_iload_n hx hb dX12_keeps_43 rfl (lv_at hl 3 rfl) ?_
          refine ez_cVv (As := [.int x1, .int x3]) (rest := []) h (fun _ q => c_X12_cutAnew q) hC k_X12_cutAnew ql_RX12_565 rfl (by decide) hS (fun _ q => ez_rcv q) rfl hl.1 rfl (Nat.le_of_ble_eq_true rfl) ⟨Nat.zero_le _, Nat.zero_le _⟩ dX12_keeps_44 (fun _ σ H locs hS h => ?_)
          refine lv_aload_n hx hb dX12_keeps_47 rfl (lv_at hl 0 rfl) ?_
          refine ez_cVv (As := []) (rest := []) h (fun _ q => c_X12_pinByPlan q) hC k_X12_pinByPlan ql_RX12_556 rfl (by decide) hS (fun _ q => ez_rcv q) rfl hl.1 rfl (Nat.le_of_ble_eq_true rfl) ⟨Nat.zero_le _, Nat.zero_le _⟩ dX12_keeps_48 (fun _ σ H locs hS h => ?_)
          refine lv_aload_n hx hb dX12_keeps_51 rfl (lv_at hl 0 rfl) ?_
          refine lv_iconst (v := 0) hx hb dX12_keeps_52 (by decide) ?_
          refine ez_cVpi (As := [.int 0]) (rest := []) h (fun _ q => c_X12_straysBy q) hC k_X12_straysBy ql_RX12_559 rfl (by decide) hS (fun _ q => ez_rcv q) rfl hl.1 rfl (Nat.le_of_ble_eq_true rfl) ⟨Nat.zero_le _, Nat.zero_le _⟩ dX12_keeps_53 (fun t_53 H locs hS h => ?_)
          refine lv_if_ne (tgt := 61) hx hb dX12_keeps_56 (by decide) (fun c_56 => ?_) (fun c_56 => ?_)
          · replace h := ez_ifn h c_56
            exact K_61 k_18 hk_18 σ h0 x1 x2 x3 _ _ _ hS h (lv_sub hl [0, 1, 2, 3] rfl)
          · replace h := ez_ifp h c_56
            refine lv_iload_n hx hb dX12_keeps_59 rfl (lv_at hl 3 rfl) ?_
            refine lv_istore_n (lv' := [(2, .int x3), (0, .ref (B + h0)), (1, .int x1), (3, .int x3)]) hx hb dX12_keeps_60 rfl hl (by decide) rfl (fun ls hl => ?_)
            exact K_61 k_18 hk_18 σ h0 x1 x3 x3 _ _ _ hS h (lv_sub hl [1, 2, 0, 3] rfl)
        · replace h := ez_ifp h c_35
          refine lv_goto (tgt := 61) hx hb dX12_keeps_38 (by decide) ?_
          exact K_61 k_18 hk_18 σ h0 x1 x2 x3 _ _ _ hS h (lv_sub hl [0, 1, 2, 3] rfl)
  have E_18 : ∀ (σ : ez_H) (h0 : Nat) (x1 : Int32) (x2 : Int32) (x3 : Int32) (H : Heap) (locs : List Loc) (ls : Array Slot), ez_S X B s.heap (σ0.length) σ H locs → (ez_fix (fun _ _ _ _ _ => none) (z_X12_keeps_18) ez_N) σ h0 x1 x2 x3 = some z → lv_has ls 4 [(0, .ref (B + h0)), (1, .int x1), (2, .int x2), (3, .int x3)] → W p l e R s m args below meth c H locs 0 0 Q (F0 m 18 ls []) := ez_fix_ind (fun k_18 : ez_H → Nat → Int32 → Int32 → Int32 → Option (Int32 × ez_H) => ∀ (σ : ez_H) (h0 : Nat) (x1 : Int32) (x2 : Int32) (x3 : Int32) (H : Heap) (locs : List Loc) (ls : Array Slot), ez_S X B s.heap (σ0.length) σ H locs → k_18 σ h0 x1 x2 x3 = some z → lv_has ls 4 [(0, .ref (B + h0)), (1, .int x1), (2, .int x2), (3, .int x3)] → W p l e R s m args below meth c H locs 0 0 Q (F0 m 18 ls [])) (fun _ _ _ _ _ _ _ _ _ h _ => by cases h) (fun k_18 hk_18 => K_18 k_18 hk_18) ez_N
  refine lv_aload_n hx hb dX12_keeps_0 rfl (lv_at hl 0 rfl) ?_
  refine lv_iload_n hx hb dX12_keeps_1 rfl (lv_at hl 1 rfl) ?_
  refine ez_cVpi (As := [.int x1]) (rest := []) h (fun _ q => c_X12_isKey q) hC k_X12_isKey ql_RX12_462 rfl (by decide) hS (fun _ q => ez_rcv q) rfl hl.1 rfl (Nat.le_of_ble_eq_true rfl) ⟨Nat.zero_le _, Nat.zero_le _⟩ dX12_keeps_2 (fun t_2 H locs hS h => ?_)
  refine lv_if_ne (tgt := 10) hx hb dX12_keeps_5 (by decide) (fun c_5 => ?_) (fun c_5 => ?_)
  · replace h := ez_ifn h c_5
    refine lv_aload_n hx hb dX12_keeps_10 rfl (lv_at hl 0 rfl) ?_
    refine ez_cVv (As := []) (rest := []) h (fun _ q => c_X12_keepNow q) hC k_X12_keepNow ql_RX12_553 rfl (by decide) hS (fun _ q => ez_rcv q) rfl hl.1 rfl (Nat.le_of_ble_eq_true rfl) ⟨Nat.zero_le _, Nat.zero_le _⟩ dX12_keeps_11 (fun _ σ H locs hS h => ?_)
    refine lv_iconst (v := -1) hx hb dX12_keeps_14 (by decide) ?_
    refine lv_istore_n (lv' := [(2, .int (-1)), (0, .ref (B + h0)), (1, .int x1)]) hx hb dX12_keeps_15 rfl hl (by decide) rfl (fun ls hl => ?_)
    refine lv_iconst (v := 0) hx hb dX12_keeps_16 (by decide) ?_
    refine lv_istore_n (lv' := [(3, .int 0), (2, .int (-1)), (0, .ref (B + h0)), (1, .int x1)]) hx hb dX12_keeps_17 rfl hl (by decide) rfl (fun ls hl => ?_)
    exact E_18  σ h0 x1 (-1 : Int32) (0 : Int32) _ _ _ hS h (lv_sub hl [2, 3, 1, 0] rfl)
  · replace h := ez_ifp h c_5
    refine lv_iconst (v := -1) hx hb dX12_keeps_8 (by decide) ?_
    exact hret _ _ _ _ _ _ (Option.some.inj h) rfl hS dX12_keeps_9
set_option maxHeartbeats 4000000 in
set_option maxRecDepth 100000 in
theorem c_X12_key {l : Launch} {X : ez_X} {B : Nat} {σ : ez_H} {h0 : Nat} {x1 : Int32} {x2 : Int32} {z : Int32} (h : z_X12_key σ h0 x1 x2 = some z) : ez_M l X B σ yX12_key cX12_key 3 (some .int) 3 [.ref (B + h0), .int x1, .int x2] (some (.int z)) σ := by
  refine ez_startip (z := z) (by decide) (Nat.le_of_ble_eq_true rfl) (fun p e R s m args below meth c Q hC hret hS ls hl => ?_)
  have hC : ez_C p R s m args c X B RX12 cX12_key 3 3 := hC
  have hx := hC.1.1
  have hb := hC.1.2.1
  have hown := hC.1.2.2.2.1
  have hts := hC.1.2.2.2.2
  have hl : lv_has ls 3 [(0, .ref (B + h0)), (1, .int x1), (2, .int x2)] := hl
  obtain ⟨n0, e0⟩ : ∃ n0 : Nat, n0 = σ.length := ⟨_, rfl⟩
  rw [← e0] at hret hS
  obtain ⟨-, h⟩ := ez_in h
  refine lv_aload_n hx hb dX12_key_0 rfl (lv_at hl 0 rfl) ?_
  refine lv_iload_n hx hb dX12_key_1 rfl (lv_at hl 1 rfl) ?_
  refine ez_cVpi (As := [.int x1]) (rest := []) h (fun _ q => c_X12_isKey q) hC k_X12_isKey ql_RX12_462 rfl (by decide) hS (fun _ q => ez_rcv q) rfl hl.1 rfl (Nat.le_of_ble_eq_true rfl) ⟨Nat.zero_le _, Nat.zero_le _⟩ dX12_key_2 (fun t_2 H locs hS h => ?_)
  refine lv_if_ne (tgt := 11) hx hb dX12_key_5 (by decide) (fun c_5 => ?_) (fun c_5 => ?_)
  · replace h := ez_ifn h c_5
    refine lv_iload_n hx hb dX12_key_11 rfl (lv_at hl 2 rfl) ?_
    by_cases s_12_0 : x2 = 0
    · replace h := ez_ifp h s_12_0
      refine lv_tableIn (tgt := 44) hx hb dX12_key_12 (by rw [s_12_0]; decide) (by rw [s_12_0]; decide) (by first | (rw [s_12_0]; done) | (rw [s_12_0]; rfl)) (by decide) ?_
      refine lv_aload_n hx hb dX12_key_44 rfl (lv_at hl 0 rfl) ?_
      refine lv_iload_n hx hb dX12_key_45 rfl (lv_at hl 1 rfl) ?_
      refine ez_cVpi (As := [.int x1]) (rest := []) h (fun _ q => c_X12_numberOf q) hC k_X12_numberOf ql_RX12_450 rfl (by decide) hS (fun _ q => ez_rcv q) rfl hl.1 rfl (Nat.le_of_ble_eq_true rfl) ⟨Nat.zero_le _, Nat.zero_le _⟩ dX12_key_46 (fun t_46 H locs hS h => ?_)
      exact hret _ _ _ _ _ (Option.some.inj h) rfl hS dX12_key_49
    replace h := ez_ifn h s_12_0
    by_cases s_12_1 : x2 = 1
    · replace h := ez_ifp h s_12_1
      refine lv_tableIn (tgt := 50) hx hb dX12_key_12 (by rw [s_12_1]; decide) (by rw [s_12_1]; decide) (by first | (rw [s_12_1]; done) | (rw [s_12_1]; rfl)) (by decide) ?_
      refine lv_aload_n hx hb dX12_key_50 rfl (lv_at hl 0 rfl) ?_
      refine eg_RX12_118 hC hS h dX12_key_51 (fun t_51 h => ?_)
      refine lv_bipush (v := 40) hx hb dX12_key_54 (by decide) ?_
      refine lv_iload_n hx hb dX12_key_56 rfl (lv_at hl 1 rfl) ?_
      refine lv_iadd hx hb dX12_key_57 ?_
      refine ez_top h (fun t_57 h => ?_)
      refine ez_ial hC hS h dX12_key_58 (fun t_58 h => ?_)
      exact hret _ _ _ _ _ (Option.some.inj h) rfl hS dX12_key_59
    replace h := ez_ifn h s_12_1
    by_cases s_12_2 : x2 = 2
    · replace h := ez_ifp h s_12_2
      refine lv_tableIn (tgt := 60) hx hb dX12_key_12 (by rw [s_12_2]; decide) (by rw [s_12_2]; decide) (by first | (rw [s_12_2]; done) | (rw [s_12_2]; rfl)) (by decide) ?_
      refine lv_aload_n hx hb dX12_key_60 rfl (lv_at hl 0 rfl) ?_
      refine lv_iload_n hx hb dX12_key_61 rfl (lv_at hl 1 rfl) ?_
      refine ez_cVpi (As := [.int x1]) (rest := []) h (fun _ q => c_X12_holderOf q) hC k_X12_holderOf ql_RX12_465 rfl (by decide) hS (fun _ q => ez_rcv q) rfl hl.1 rfl (Nat.le_of_ble_eq_true rfl) ⟨Nat.zero_le _, Nat.zero_le _⟩ dX12_key_62 (fun t_62 H locs hS h => ?_)
      exact hret _ _ _ _ _ (Option.some.inj h) rfl hS dX12_key_65
    replace h := ez_ifn h s_12_2
    by_cases s_12_3 : x2 = 3
    · replace h := ez_ifp h s_12_3
      refine lv_tableIn (tgt := 66) hx hb dX12_key_12 (by rw [s_12_3]; decide) (by rw [s_12_3]; decide) (by first | (rw [s_12_3]; done) | (rw [s_12_3]; rfl)) (by decide) ?_
      refine lv_aload_n hx hb dX12_key_66 rfl (lv_at hl 0 rfl) ?_
      refine lv_aload_n hx hb dX12_key_67 rfl (lv_at hl 0 rfl) ?_
      refine lv_iload_n hx hb dX12_key_68 rfl (lv_at hl 1 rfl) ?_
      refine ez_cVpi (As := [.int x1]) (rest := [.ref (B + h0)]) h (fun _ q => c_X12_numberOf q) hC k_X12_numberOf ql_RX12_450 rfl (by decide) hS (fun _ q => ez_rcv q) rfl hl.1 rfl (Nat.le_of_ble_eq_true rfl) ⟨Nat.zero_le _, Nat.zero_le _⟩ dX12_key_69 (fun t_69 H locs hS h => ?_)
      refine ez_cVpi (As := [.int t_69]) (rest := []) h (fun _ q => c_X12_openedBy q) hC k_X12_openedBy ql_RX12_459 rfl (by decide) hS (fun _ q => ez_rcv q) rfl hl.1 rfl (Nat.le_of_ble_eq_true rfl) ⟨Nat.zero_le _, Nat.zero_le _⟩ dX12_key_72 (fun t_72 H locs hS h => ?_)
      exact hret _ _ _ _ _ (Option.some.inj h) rfl hS dX12_key_75
    replace h := ez_ifn h s_12_3
    have w_12 : Int32.toInt x2 < 0 ∨ 3 < Int32.toInt x2 := by
      have q_0 := ez_toNe (k := 0) s_12_0 (by decide)
      have q_1 := ez_toNe (k := 1) s_12_1 (by decide)
      have q_2 := ez_toNe (k := 2) s_12_2 (by decide)
      have q_3 := ez_toNe (k := 3) s_12_3 (by decide)
      omega
    refine lv_tableOut (tgt := 76) hx hb dX12_key_12 w_12 (by decide) ?_
    refine lv_bipush (v := -3) hx hb dX12_key_76 (by decide) ?_
    exact hret _ _ _ _ _ (Option.some.inj h) rfl hS dX12_key_78
  · replace h := ez_ifp h c_5
    refine lv_bipush (v := -3) hx hb dX12_key_8 (by decide) ?_
    exact hret _ _ _ _ _ (Option.some.inj h) rfl hS dX12_key_10
set_option maxHeartbeats 4000000 in
set_option maxRecDepth 100000 in
theorem c_X12_isLetter {l : Launch} {X : ez_X} {B : Nat} {σ : ez_H} {x0 : Int32} {z : Int32} (h : z_X12_isLetter σ x0 = some z) : ez_M l X B σ yX12_isLetter cX12_isLetter 1 (some .boolean) 0 [.int x0] (some (.int z)) σ := by
  refine ez_startip (z := z) (by decide) (Nat.le_of_ble_eq_true rfl) (fun p e R s m args below meth c Q hC hret hS ls hl => ?_)
  have hC : ez_C p R s m args c X B RX12 cX12_isLetter 1 0 := hC
  have hx := hC.1.1
  have hb := hC.1.2.1
  have hown := hC.1.2.2.2.1
  have hts := hC.1.2.2.2.2
  have hl : lv_has ls 1 [(0, .int x0)] := hl
  obtain ⟨n0, e0⟩ : ∃ n0 : Nat, n0 = σ.length := ⟨_, rfl⟩
  rw [← e0] at hret hS
  have K_17 : ∀ (y0 : Int32) (H : Heap) (locs : List Loc) (ls : Array Slot), ez_S X B s.heap (n0) σ H locs → z_X12_isLetter_17 σ y0 = some z → lv_has ls 1 [] → W p l e R s m args below meth c H locs 0 0 Q (F0 m 17 ls [.int y0]) := by
    intro y0 H locs ls hS h hl
    obtain ⟨hn, h⟩ := ez_nr_sp rfl h
    exact hret _ _ _ _ _ (Option.some.inj h) hn hS dX12_isLetter_17
  have K_16 : ∀ (H : Heap) (locs : List Loc) (ls : Array Slot), ez_S X B s.heap (n0) σ H locs → z_X12_isLetter_16 σ = some z → lv_has ls 1 [] → W p l e R s m args below meth c H locs 0 0 Q (F0 m 16 ls []) := by
    intro  H locs ls hS h hl
    refine lv_iconst (v := 0) hx hb dX12_isLetter_16 (by decide) ?_
    exact K_17  (0 : Int32) _ _ _ hS h (lv_sub hl [] rfl)
  refine lv_iload_n hx hb dX12_isLetter_0 rfl (lv_at hl 0 rfl) ?_
  refine lv_bipush (v := 97) hx hb dX12_isLetter_1 (by decide) ?_
  refine lv_icmp_lt (tgt := 16) hx hb dX12_isLetter_3 (by decide) (fun c_3 => ?_) (fun c_3 => ?_)
  · replace h := ez_ifp h c_3
    exact K_16   _ _ _ hS h (lv_sub hl [] rfl)
  · replace h := ez_ifn h c_3
    refine lv_iload_n hx hb dX12_isLetter_6 rfl (lv_at hl 0 rfl) ?_
    refine lv_bipush (v := 122) hx hb dX12_isLetter_7 (by decide) ?_
    refine lv_icmp_gt (tgt := 16) hx hb dX12_isLetter_9 (by decide) (fun c_9 => ?_) (fun c_9 => ?_)
    · replace h := ez_ifp h c_9
      exact K_16   _ _ _ hS h (lv_sub hl [] rfl)
    · replace h := ez_ifn h c_9
      refine lv_iconst (v := 1) hx hb dX12_isLetter_12 (by decide) ?_
      refine lv_goto (tgt := 17) hx hb dX12_isLetter_13 (by decide) ?_
      exact K_17  (1 : Int32) _ _ _ hS h (lv_sub hl [] rfl)
set_option maxHeartbeats 4000000 in
set_option maxRecDepth 100000 in
theorem c_X12_asked {l : Launch} {X : ez_X} {B : Nat} {σ : ez_H} {h0 : Nat} {x1 : Int32} {x2 : Int32} {z : Int32} (h : z_X12_asked σ h0 x1 x2 = some z) : ez_M l X B σ yX12_asked cX12_asked 3 (some .int) 0 [.ref (B + h0), .int x1, .int x2] (some (.int z)) σ := by
  refine ez_startip (z := z) (by decide) (Nat.le_of_ble_eq_true rfl) (fun p e R s m args below meth c Q hC hret hS ls hl => ?_)
  have hC : ez_C p R s m args c X B RX12 cX12_asked 3 0 := hC
  have hx := hC.1.1
  have hb := hC.1.2.1
  have hown := hC.1.2.2.2.1
  have hts := hC.1.2.2.2.2
  have hl : lv_has ls 3 [(0, .ref (B + h0)), (1, .int x1), (2, .int x2)] := hl
  obtain ⟨n0, e0⟩ : ∃ n0 : Nat, n0 = σ.length := ⟨_, rfl⟩
  rw [← e0] at hret hS
  obtain ⟨-, h⟩ := ez_in h
  refine lv_iload_n hx hb dX12_asked_0 rfl (lv_at hl 1 rfl) ?_
  by_cases s_1_0 : x1 = 98
  · replace h := ez_ifp h s_1_0
    refine lv_lookup (tgt := 49) hx hb dX12_asked_1 (by decide) (by first | (rw [s_1_0]; done) | (rw [s_1_0]; rfl)) (by decide) ?_
    refine lv_aload_n hx hb dX12_asked_49 rfl (lv_at hl 0 rfl) ?_
    refine eg_RX12_389 hC hS h dX12_asked_50 (fun t_50 h => ?_)
    exact hret _ _ _ _ _ (Option.some.inj h) rfl hS dX12_asked_53
  replace h := ez_ifn h s_1_0
  by_cases s_1_1 : x1 = 99
  · replace h := ez_ifp h s_1_1
    refine lv_lookup (tgt := 44) hx hb dX12_asked_1 (by decide) (by first | (rw [s_1_1]; done) | (rw [s_1_1]; rfl)) (by decide) ?_
    refine lv_aload_n hx hb dX12_asked_44 rfl (lv_at hl 0 rfl) ?_
    refine eg_RX12_386 hC hS h dX12_asked_45 (fun t_45 h => ?_)
    exact hret _ _ _ _ _ (Option.some.inj h) rfl hS dX12_asked_48
  replace h := ez_ifn h s_1_1
  by_cases s_1_2 : x1 = 104
  · replace h := ez_ifp h s_1_2
    refine lv_lookup (tgt := 59) hx hb dX12_asked_1 (by decide) (by first | (rw [s_1_2]; done) | (rw [s_1_2]; rfl)) (by decide) ?_
    refine lv_aload_n hx hb dX12_asked_59 rfl (lv_at hl 0 rfl) ?_
    refine eg_RX12_395 hC hS h dX12_asked_60 (fun t_60 h => ?_)
    exact hret _ _ _ _ _ (Option.some.inj h) rfl hS dX12_asked_63
  replace h := ez_ifn h s_1_2
  by_cases s_1_3 : x1 = 117
  · replace h := ez_ifp h s_1_3
    refine lv_lookup (tgt := 54) hx hb dX12_asked_1 (by decide) (by first | (rw [s_1_3]; done) | (rw [s_1_3]; rfl)) (by decide) ?_
    refine lv_aload_n hx hb dX12_asked_54 rfl (lv_at hl 0 rfl) ?_
    refine eg_RX12_392 hC hS h dX12_asked_55 (fun t_55 h => ?_)
    exact hret _ _ _ _ _ (Option.some.inj h) rfl hS dX12_asked_58
  replace h := ez_ifn h s_1_3
  refine lv_lookup (off := 63) (tgt := 64) hx hb dX12_asked_1 (by decide) (by simp only [Op.lookupswitch.offset_cons, Op.lookupswitch.offset_nil]; rw [if_neg (fun q => ez_toNe (k := 98) s_1_0 (by decide) q.symm), if_neg (fun q => ez_toNe (k := 99) s_1_1 (by decide) q.symm), if_neg (fun q => ez_toNe (k := 104) s_1_2 (by decide) q.symm), if_neg (fun q => ez_toNe (k := 117) s_1_3 (by decide) q.symm)]) (by decide) ?_
  refine lv_iload_n hx hb dX12_asked_64 rfl (lv_at hl 2 rfl) ?_
  exact hret _ _ _ _ _ (Option.some.inj h) rfl hS dX12_asked_65
set_option maxHeartbeats 4000000 in
set_option maxRecDepth 100000 in
theorem c_X12_two {l : Launch} {X : ez_X} {B : Nat} {σ : ez_H} {x0 : Int32} {x1 : Int32} {x2 : Int32} {z : Int32} (h : z_X12_two σ x0 x1 x2 = some z) : ez_M l X B σ yX12_two cX12_two 3 (some .int) 0 [.int x0, .int x1, .int x2] (some (.int z)) σ := by
  refine ez_startip (z := z) (by decide) (Nat.le_of_ble_eq_true rfl) (fun p e R s m args below meth c Q hC hret hS ls hl => ?_)
  have hC : ez_C p R s m args c X B RX12 cX12_two 3 0 := hC
  have hx := hC.1.1
  have hb := hC.1.2.1
  have hown := hC.1.2.2.2.1
  have hts := hC.1.2.2.2.2
  have hl : lv_has ls 3 [(0, .int x0), (1, .int x1), (2, .int x2)] := hl
  obtain ⟨n0, e0⟩ : ∃ n0 : Nat, n0 = σ.length := ⟨_, rfl⟩
  rw [← e0] at hret hS
  have K_155 : ∀ (y0 : Int32) (H : Heap) (locs : List Loc) (ls : Array Slot), ez_S X B s.heap (n0) σ H locs → z_X12_two_155 σ y0 = some z → lv_has ls 3 [] → W p l e R s m args below meth c H locs 0 0 Q (F0 m 155 ls [.int y0]) := by
    intro y0 H locs ls hS h hl
    exact hret _ _ _ _ _ (Option.some.inj h) rfl hS dX12_two_155
  have K_202 : ∀ (y0 : Int32) (H : Heap) (locs : List Loc) (ls : Array Slot), ez_S X B s.heap (n0) σ H locs → z_X12_two_202 σ y0 = some z → lv_has ls 3 [] → W p l e R s m args below meth c H locs 0 0 Q (F0 m 202 ls [.int y0]) := by
    intro y0 H locs ls hS h hl
    exact hret _ _ _ _ _ (Option.some.inj h) rfl hS dX12_two_202
  have K_201 : ∀ (H : Heap) (locs : List Loc) (ls : Array Slot), ez_S X B s.heap (n0) σ H locs → z_X12_two_201 σ = some z → lv_has ls 3 [] → W p l e R s m args below meth c H locs 0 0 Q (F0 m 201 ls []) := by
    intro  H locs ls hS h hl
    refine lv_iconst (v := 0) hx hb dX12_two_201 (by decide) ?_
    exact K_202  (0 : Int32) _ _ _ hS h (lv_sub hl [] rfl)
  have K_216 : ∀ (y0 : Int32) (H : Heap) (locs : List Loc) (ls : Array Slot), ez_S X B s.heap (n0) σ H locs → z_X12_two_216 σ y0 = some z → lv_has ls 3 [] → W p l e R s m args below meth c H locs 0 0 Q (F0 m 216 ls [.int y0]) := by
    intro y0 H locs ls hS h hl
    exact hret _ _ _ _ _ (Option.some.inj h) rfl hS dX12_two_216
  have K_211 : ∀ (H : Heap) (locs : List Loc) (ls : Array Slot), ez_S X B s.heap (n0) σ H locs → z_X12_two_211 σ = some z → lv_has ls 3 [] → W p l e R s m args below meth c H locs 0 0 Q (F0 m 211 ls []) := by
    intro  H locs ls hS h hl
    refine lv_iconst (v := 1) hx hb dX12_two_211 (by decide) ?_
    refine lv_goto (tgt := 216) hx hb dX12_two_212 (by decide) ?_
    exact K_216  (1 : Int32) _ _ _ hS h (lv_sub hl [] rfl)
  have K_203 : ∀ (x1 : Int32) (x2 : Int32) (H : Heap) (locs : List Loc) (ls : Array Slot), ez_S X B s.heap (n0) σ H locs → z_X12_two_203 σ x1 x2 = some z → lv_has ls 3 [(1, .int x1), (2, .int x2)] → W p l e R s m args below meth c H locs 0 0 Q (F0 m 203 ls []) := by
    intro x1 x2 H locs ls hS h hl
    refine lv_iload_n hx hb dX12_two_203 rfl (lv_at hl 0 rfl) ?_
    refine lv_if_ne (tgt := 211) hx hb dX12_two_204 (by decide) (fun c_204 => ?_) (fun c_204 => ?_)
    · replace h := ez_ifn h c_204
      exact K_211   _ _ _ hS h (lv_sub hl [] rfl)
    · replace h := ez_ifp h c_204
      refine lv_iload_n hx hb dX12_two_207 rfl (lv_at hl 1 rfl) ?_
      refine lv_if_eq (tgt := 215) hx hb dX12_two_208 (by decide) (fun c_208 => ?_) (fun c_208 => ?_)
      · replace h := ez_ifp h c_208
        refine lv_iconst (v := 0) hx hb dX12_two_215 (by decide) ?_
        exact K_216  (0 : Int32) _ _ _ hS h (lv_sub hl [] rfl)
      · replace h := ez_ifn h c_208
        exact K_211   _ _ _ hS h (lv_sub hl [] rfl)
  have K_143 : ∀ (y0 : Int32) (H : Heap) (locs : List Loc) (ls : Array Slot), ez_S X B s.heap (n0) σ H locs → z_X12_two_143 σ y0 = some z → lv_has ls 3 [] → W p l e R s m args below meth c H locs 0 0 Q (F0 m 143 ls [.int y0]) := by
    intro y0 H locs ls hS h hl
    exact hret _ _ _ _ _ (Option.some.inj h) rfl hS dX12_two_143
  have K_166 : ∀ (y0 : Int32) (H : Heap) (locs : List Loc) (ls : Array Slot), ez_S X B s.heap (n0) σ H locs → z_X12_two_166 σ y0 = some z → lv_has ls 3 [] → W p l e R s m args below meth c H locs 0 0 Q (F0 m 166 ls [.int y0]) := by
    intro y0 H locs ls hS h hl
    exact hret _ _ _ _ _ (Option.some.inj h) rfl hS dX12_two_166
  have K_188 : ∀ (y0 : Int32) (H : Heap) (locs : List Loc) (ls : Array Slot), ez_S X B s.heap (n0) σ H locs → z_X12_two_188 σ y0 = some z → lv_has ls 3 [] → W p l e R s m args below meth c H locs 0 0 Q (F0 m 188 ls [.int y0]) := by
    intro y0 H locs ls hS h hl
    exact hret _ _ _ _ _ (Option.some.inj h) rfl hS dX12_two_188
  have K_177 : ∀ (y0 : Int32) (H : Heap) (locs : List Loc) (ls : Array Slot), ez_S X B s.heap (n0) σ H locs → z_X12_two_177 σ y0 = some z → lv_has ls 3 [] → W p l e R s m args below meth c H locs 0 0 Q (F0 m 177 ls [.int y0]) := by
    intro y0 H locs ls hS h hl
    exact hret _ _ _ _ _ (Option.some.inj h) rfl hS dX12_two_177
  refine lv_iload_n hx hb dX12_two_0 rfl (lv_at hl 0 rfl) ?_
  by_cases s_1_0 : x0 = 37
  · replace h := ez_ifp h s_1_0
    refine lv_tableIn (tgt := 144) hx hb dX12_two_1 (by rw [s_1_0]; decide) (by rw [s_1_0]; decide) (by first | (rw [s_1_0]; done) | (rw [s_1_0]; rfl)) (by decide) ?_
    refine lv_iload_n hx hb dX12_two_144 rfl (lv_at hl 2 rfl) ?_
    refine lv_if_ne (tgt := 152) hx hb dX12_two_145 (by decide) (fun c_145 => ?_) (fun c_145 => ?_)
    · replace h := ez_ifn h c_145
      refine lv_iload_n hx hb dX12_two_152 rfl (lv_at hl 1 rfl) ?_
      refine lv_iload_n hx hb dX12_two_153 rfl (lv_at hl 2 rfl) ?_
      obtain ⟨nz_154, h⟩ := ez_nz_sp h
      refine lv_irem hx hb dX12_two_154 nz_154 ?_
      refine ez_top h (fun t_154 h => ?_)
      exact K_155  t_154 _ _ _ hS h (lv_sub hl [] rfl)
    · replace h := ez_ifp h c_145
      refine lv_iconst (v := 0) hx hb dX12_two_148 (by decide) ?_
      refine lv_goto (tgt := 155) hx hb dX12_two_149 (by decide) ?_
      exact K_155  (0 : Int32) _ _ _ hS h (lv_sub hl [] rfl)
  replace h := ez_ifn h s_1_0
  by_cases s_1_1 : x0 = 38
  · replace h := ez_ifp h s_1_1
    refine lv_tableIn (tgt := 189) hx hb dX12_two_1 (by rw [s_1_1]; decide) (by rw [s_1_1]; decide) (by first | (rw [s_1_1]; done) | (rw [s_1_1]; rfl)) (by decide) ?_
    refine lv_iload_n hx hb dX12_two_189 rfl (lv_at hl 1 rfl) ?_
    refine lv_if_eq (tgt := 201) hx hb dX12_two_190 (by decide) (fun c_190 => ?_) (fun c_190 => ?_)
    · replace h := ez_ifp h c_190
      exact K_201   _ _ _ hS h (lv_sub hl [] rfl)
    · replace h := ez_ifn h c_190
      refine lv_iload_n hx hb dX12_two_193 rfl (lv_at hl 2 rfl) ?_
      refine lv_if_eq (tgt := 201) hx hb dX12_two_194 (by decide) (fun c_194 => ?_) (fun c_194 => ?_)
      · replace h := ez_ifp h c_194
        exact K_201   _ _ _ hS h (lv_sub hl [] rfl)
      · replace h := ez_ifn h c_194
        refine lv_iconst (v := 1) hx hb dX12_two_197 (by decide) ?_
        refine lv_goto (tgt := 202) hx hb dX12_two_198 (by decide) ?_
        exact K_202  (1 : Int32) _ _ _ hS h (lv_sub hl [] rfl)
  replace h := ez_ifn h s_1_1
  by_cases s_1_2 : x0 = 39
  · replace h := ez_ifp h s_1_2
    refine lv_tableIn (tgt := 203) hx hb dX12_two_1 (by rw [s_1_2]; decide) (by rw [s_1_2]; decide) (by first | (rw [s_1_2]; done) | (rw [s_1_2]; rfl)) (by decide) ?_
    exact K_203  x1 x2 _ _ _ hS h (lv_sub hl [1, 2] rfl)
  replace h := ez_ifn h s_1_2
  by_cases s_1_3 : x0 = 40
  · replace h := ez_ifp h s_1_3
    refine lv_tableIn (tgt := 203) hx hb dX12_two_1 (by rw [s_1_3]; decide) (by rw [s_1_3]; decide) (by first | (rw [s_1_3]; done) | (rw [s_1_3]; rfl)) (by decide) ?_
    exact K_203  x1 x2 _ _ _ hS h (lv_sub hl [1, 2] rfl)
  replace h := ez_ifn h s_1_3
  by_cases s_1_4 : x0 = 41
  · replace h := ez_ifp h s_1_4
    refine lv_tableIn (tgt := 203) hx hb dX12_two_1 (by rw [s_1_4]; decide) (by rw [s_1_4]; decide) (by first | (rw [s_1_4]; done) | (rw [s_1_4]; rfl)) (by decide) ?_
    exact K_203  x1 x2 _ _ _ hS h (lv_sub hl [1, 2] rfl)
  replace h := ez_ifn h s_1_4
  by_cases s_1_5 : x0 = 42
  · replace h := ez_ifp h s_1_5
    refine lv_tableIn (tgt := 128) hx hb dX12_two_1 (by rw [s_1_5]; decide) (by rw [s_1_5]; decide) (by first | (rw [s_1_5]; done) | (rw [s_1_5]; rfl)) (by decide) ?_
    refine lv_iload_n hx hb dX12_two_128 rfl (lv_at hl 1 rfl) ?_
    refine lv_iload_n hx hb dX12_two_129 rfl (lv_at hl 2 rfl) ?_
    refine lv_imul hx hb dX12_two_130 ?_
    refine ez_top h (fun t_130 h => ?_)
    exact hret _ _ _ _ _ (Option.some.inj h) rfl hS dX12_two_131
  replace h := ez_ifn h s_1_5
  by_cases s_1_6 : x0 = 43
  · replace h := ez_ifp h s_1_6
    refine lv_tableIn (tgt := 120) hx hb dX12_two_1 (by rw [s_1_6]; decide) (by rw [s_1_6]; decide) (by first | (rw [s_1_6]; done) | (rw [s_1_6]; rfl)) (by decide) ?_
    refine lv_iload_n hx hb dX12_two_120 rfl (lv_at hl 1 rfl) ?_
    refine lv_iload_n hx hb dX12_two_121 rfl (lv_at hl 2 rfl) ?_
    refine lv_iadd hx hb dX12_two_122 ?_
    refine ez_top h (fun t_122 h => ?_)
    exact hret _ _ _ _ _ (Option.some.inj h) rfl hS dX12_two_123
  replace h := ez_ifn h s_1_6
  by_cases s_1_7 : x0 = 44
  · replace h := ez_ifp h s_1_7
    refine lv_tableIn (tgt := 203) hx hb dX12_two_1 (by rw [s_1_7]; decide) (by rw [s_1_7]; decide) (by first | (rw [s_1_7]; done) | (rw [s_1_7]; rfl)) (by decide) ?_
    exact K_203  x1 x2 _ _ _ hS h (lv_sub hl [1, 2] rfl)
  replace h := ez_ifn h s_1_7
  by_cases s_1_8 : x0 = 45
  · replace h := ez_ifp h s_1_8
    refine lv_tableIn (tgt := 124) hx hb dX12_two_1 (by rw [s_1_8]; decide) (by rw [s_1_8]; decide) (by first | (rw [s_1_8]; done) | (rw [s_1_8]; rfl)) (by decide) ?_
    refine lv_iload_n hx hb dX12_two_124 rfl (lv_at hl 1 rfl) ?_
    refine lv_iload_n hx hb dX12_two_125 rfl (lv_at hl 2 rfl) ?_
    refine lv_isub hx hb dX12_two_126 ?_
    refine ez_top h (fun t_126 h => ?_)
    exact hret _ _ _ _ _ (Option.some.inj h) rfl hS dX12_two_127
  replace h := ez_ifn h s_1_8
  by_cases s_1_9 : x0 = 46
  · replace h := ez_ifp h s_1_9
    refine lv_tableIn (tgt := 203) hx hb dX12_two_1 (by rw [s_1_9]; decide) (by rw [s_1_9]; decide) (by first | (rw [s_1_9]; done) | (rw [s_1_9]; rfl)) (by decide) ?_
    exact K_203  x1 x2 _ _ _ hS h (lv_sub hl [1, 2] rfl)
  replace h := ez_ifn h s_1_9
  by_cases s_1_10 : x0 = 47
  · replace h := ez_ifp h s_1_10
    refine lv_tableIn (tgt := 132) hx hb dX12_two_1 (by rw [s_1_10]; decide) (by rw [s_1_10]; decide) (by first | (rw [s_1_10]; done) | (rw [s_1_10]; rfl)) (by decide) ?_
    refine lv_iload_n hx hb dX12_two_132 rfl (lv_at hl 2 rfl) ?_
    refine lv_if_ne (tgt := 140) hx hb dX12_two_133 (by decide) (fun c_133 => ?_) (fun c_133 => ?_)
    · replace h := ez_ifn h c_133
      refine lv_iload_n hx hb dX12_two_140 rfl (lv_at hl 1 rfl) ?_
      refine lv_iload_n hx hb dX12_two_141 rfl (lv_at hl 2 rfl) ?_
      obtain ⟨nz_142, h⟩ := ez_nz_sp h
      refine lv_idiv hx hb dX12_two_142 nz_142 ?_
      refine ez_top h (fun t_142 h => ?_)
      exact K_143  t_142 _ _ _ hS h (lv_sub hl [] rfl)
    · replace h := ez_ifp h c_133
      refine lv_iconst (v := 0) hx hb dX12_two_136 (by decide) ?_
      refine lv_goto (tgt := 143) hx hb dX12_two_137 (by decide) ?_
      exact K_143  (0 : Int32) _ _ _ hS h (lv_sub hl [] rfl)
  replace h := ez_ifn h s_1_10
  by_cases s_1_11 : x0 = 48
  · replace h := ez_ifp h s_1_11
    refine lv_tableIn (tgt := 203) hx hb dX12_two_1 (by rw [s_1_11]; decide) (by rw [s_1_11]; decide) (by first | (rw [s_1_11]; done) | (rw [s_1_11]; rfl)) (by decide) ?_
    exact K_203  x1 x2 _ _ _ hS h (lv_sub hl [1, 2] rfl)
  replace h := ez_ifn h s_1_11
  by_cases s_1_12 : x0 = 49
  · replace h := ez_ifp h s_1_12
    refine lv_tableIn (tgt := 203) hx hb dX12_two_1 (by rw [s_1_12]; decide) (by rw [s_1_12]; decide) (by first | (rw [s_1_12]; done) | (rw [s_1_12]; rfl)) (by decide) ?_
    exact K_203  x1 x2 _ _ _ hS h (lv_sub hl [1, 2] rfl)
  replace h := ez_ifn h s_1_12
  by_cases s_1_13 : x0 = 50
  · replace h := ez_ifp h s_1_13
    refine lv_tableIn (tgt := 203) hx hb dX12_two_1 (by rw [s_1_13]; decide) (by rw [s_1_13]; decide) (by first | (rw [s_1_13]; done) | (rw [s_1_13]; rfl)) (by decide) ?_
    exact K_203  x1 x2 _ _ _ hS h (lv_sub hl [1, 2] rfl)
  replace h := ez_ifn h s_1_13
  by_cases s_1_14 : x0 = 51
  · replace h := ez_ifp h s_1_14
    refine lv_tableIn (tgt := 203) hx hb dX12_two_1 (by rw [s_1_14]; decide) (by rw [s_1_14]; decide) (by first | (rw [s_1_14]; done) | (rw [s_1_14]; rfl)) (by decide) ?_
    exact K_203  x1 x2 _ _ _ hS h (lv_sub hl [1, 2] rfl)
  replace h := ez_ifn h s_1_14
  by_cases s_1_15 : x0 = 52
  · replace h := ez_ifp h s_1_15
    refine lv_tableIn (tgt := 203) hx hb dX12_two_1 (by rw [s_1_15]; decide) (by rw [s_1_15]; decide) (by first | (rw [s_1_15]; done) | (rw [s_1_15]; rfl)) (by decide) ?_
    exact K_203  x1 x2 _ _ _ hS h (lv_sub hl [1, 2] rfl)
  replace h := ez_ifn h s_1_15
  by_cases s_1_16 : x0 = 53
  · replace h := ez_ifp h s_1_16
    refine lv_tableIn (tgt := 203) hx hb dX12_two_1 (by rw [s_1_16]; decide) (by rw [s_1_16]; decide) (by first | (rw [s_1_16]; done) | (rw [s_1_16]; rfl)) (by decide) ?_
    exact K_203  x1 x2 _ _ _ hS h (lv_sub hl [1, 2] rfl)
  replace h := ez_ifn h s_1_16
  by_cases s_1_17 : x0 = 54
  · replace h := ez_ifp h s_1_17
    refine lv_tableIn (tgt := 203) hx hb dX12_two_1 (by rw [s_1_17]; decide) (by rw [s_1_17]; decide) (by first | (rw [s_1_17]; done) | (rw [s_1_17]; rfl)) (by decide) ?_
    exact K_203  x1 x2 _ _ _ hS h (lv_sub hl [1, 2] rfl)
  replace h := ez_ifn h s_1_17
  by_cases s_1_18 : x0 = 55
  · replace h := ez_ifp h s_1_18
    refine lv_tableIn (tgt := 203) hx hb dX12_two_1 (by rw [s_1_18]; decide) (by rw [s_1_18]; decide) (by first | (rw [s_1_18]; done) | (rw [s_1_18]; rfl)) (by decide) ?_
    exact K_203  x1 x2 _ _ _ hS h (lv_sub hl [1, 2] rfl)
  replace h := ez_ifn h s_1_18
  by_cases s_1_19 : x0 = 56
  · replace h := ez_ifp h s_1_19
    refine lv_tableIn (tgt := 203) hx hb dX12_two_1 (by rw [s_1_19]; decide) (by rw [s_1_19]; decide) (by first | (rw [s_1_19]; done) | (rw [s_1_19]; rfl)) (by decide) ?_
    exact K_203  x1 x2 _ _ _ hS h (lv_sub hl [1, 2] rfl)
  replace h := ez_ifn h s_1_19
  by_cases s_1_20 : x0 = 57
  · replace h := ez_ifp h s_1_20
    refine lv_tableIn (tgt := 203) hx hb dX12_two_1 (by rw [s_1_20]; decide) (by rw [s_1_20]; decide) (by first | (rw [s_1_20]; done) | (rw [s_1_20]; rfl)) (by decide) ?_
    exact K_203  x1 x2 _ _ _ hS h (lv_sub hl [1, 2] rfl)
  replace h := ez_ifn h s_1_20
  by_cases s_1_21 : x0 = 58
  · replace h := ez_ifp h s_1_21
    refine lv_tableIn (tgt := 203) hx hb dX12_two_1 (by rw [s_1_21]; decide) (by rw [s_1_21]; decide) (by first | (rw [s_1_21]; done) | (rw [s_1_21]; rfl)) (by decide) ?_
    exact K_203  x1 x2 _ _ _ hS h (lv_sub hl [1, 2] rfl)
  replace h := ez_ifn h s_1_21
  by_cases s_1_22 : x0 = 59
  · replace h := ez_ifp h s_1_22
    refine lv_tableIn (tgt := 203) hx hb dX12_two_1 (by rw [s_1_22]; decide) (by rw [s_1_22]; decide) (by first | (rw [s_1_22]; done) | (rw [s_1_22]; rfl)) (by decide) ?_
    exact K_203  x1 x2 _ _ _ hS h (lv_sub hl [1, 2] rfl)
  replace h := ez_ifn h s_1_22
  by_cases s_1_23 : x0 = 60
  · replace h := ez_ifp h s_1_23
    refine lv_tableIn (tgt := 156) hx hb dX12_two_1 (by rw [s_1_23]; decide) (by rw [s_1_23]; decide) (by first | (rw [s_1_23]; done) | (rw [s_1_23]; rfl)) (by decide) ?_
    refine lv_iload_n hx hb dX12_two_156 rfl (lv_at hl 1 rfl) ?_
    refine lv_iload_n hx hb dX12_two_157 rfl (lv_at hl 2 rfl) ?_
    refine lv_icmp_ge (tgt := 165) hx hb dX12_two_158 (by decide) (fun c_158 => ?_) (fun c_158 => ?_)
    · replace h := ez_ifp h c_158
      refine lv_iconst (v := 0) hx hb dX12_two_165 (by decide) ?_
      exact K_166  (0 : Int32) _ _ _ hS h (lv_sub hl [] rfl)
    · replace h := ez_ifn h c_158
      refine lv_iconst (v := 1) hx hb dX12_two_161 (by decide) ?_
      refine lv_goto (tgt := 166) hx hb dX12_two_162 (by decide) ?_
      exact K_166  (1 : Int32) _ _ _ hS h (lv_sub hl [] rfl)
  replace h := ez_ifn h s_1_23
  by_cases s_1_24 : x0 = 61
  · replace h := ez_ifp h s_1_24
    refine lv_tableIn (tgt := 178) hx hb dX12_two_1 (by rw [s_1_24]; decide) (by rw [s_1_24]; decide) (by first | (rw [s_1_24]; done) | (rw [s_1_24]; rfl)) (by decide) ?_
    refine lv_iload_n hx hb dX12_two_178 rfl (lv_at hl 1 rfl) ?_
    refine lv_iload_n hx hb dX12_two_179 rfl (lv_at hl 2 rfl) ?_
    refine lv_icmp_ne (tgt := 187) hx hb dX12_two_180 (by decide) (fun c_180 => ?_) (fun c_180 => ?_)
    · replace h := ez_ifn h c_180
      refine lv_iconst (v := 0) hx hb dX12_two_187 (by decide) ?_
      exact K_188  (0 : Int32) _ _ _ hS h (lv_sub hl [] rfl)
    · replace h := ez_ifp h c_180
      refine lv_iconst (v := 1) hx hb dX12_two_183 (by decide) ?_
      refine lv_goto (tgt := 188) hx hb dX12_two_184 (by decide) ?_
      exact K_188  (1 : Int32) _ _ _ hS h (lv_sub hl [] rfl)
  replace h := ez_ifn h s_1_24
  by_cases s_1_25 : x0 = 62
  · replace h := ez_ifp h s_1_25
    refine lv_tableIn (tgt := 167) hx hb dX12_two_1 (by rw [s_1_25]; decide) (by rw [s_1_25]; decide) (by first | (rw [s_1_25]; done) | (rw [s_1_25]; rfl)) (by decide) ?_
    refine lv_iload_n hx hb dX12_two_167 rfl (lv_at hl 1 rfl) ?_
    refine lv_iload_n hx hb dX12_two_168 rfl (lv_at hl 2 rfl) ?_
    refine lv_icmp_le (tgt := 176) hx hb dX12_two_169 (by decide) (fun c_169 => ?_) (fun c_169 => ?_)
    · replace h := ez_ifp h c_169
      refine lv_iconst (v := 0) hx hb dX12_two_176 (by decide) ?_
      exact K_177  (0 : Int32) _ _ _ hS h (lv_sub hl [] rfl)
    · replace h := ez_ifn h c_169
      refine lv_iconst (v := 1) hx hb dX12_two_172 (by decide) ?_
      refine lv_goto (tgt := 177) hx hb dX12_two_173 (by decide) ?_
      exact K_177  (1 : Int32) _ _ _ hS h (lv_sub hl [] rfl)
  replace h := ez_ifn h s_1_25
  have w_1 : Int32.toInt x0 < 37 ∨ 62 < Int32.toInt x0 := by
    have q_0 := ez_toNe (k := 37) s_1_0 (by decide)
    have q_1 := ez_toNe (k := 38) s_1_1 (by decide)
    have q_2 := ez_toNe (k := 39) s_1_2 (by decide)
    have q_3 := ez_toNe (k := 40) s_1_3 (by decide)
    have q_4 := ez_toNe (k := 41) s_1_4 (by decide)
    have q_5 := ez_toNe (k := 42) s_1_5 (by decide)
    have q_6 := ez_toNe (k := 43) s_1_6 (by decide)
    have q_7 := ez_toNe (k := 44) s_1_7 (by decide)
    have q_8 := ez_toNe (k := 45) s_1_8 (by decide)
    have q_9 := ez_toNe (k := 46) s_1_9 (by decide)
    have q_10 := ez_toNe (k := 47) s_1_10 (by decide)
    have q_11 := ez_toNe (k := 48) s_1_11 (by decide)
    have q_12 := ez_toNe (k := 49) s_1_12 (by decide)
    have q_13 := ez_toNe (k := 50) s_1_13 (by decide)
    have q_14 := ez_toNe (k := 51) s_1_14 (by decide)
    have q_15 := ez_toNe (k := 52) s_1_15 (by decide)
    have q_16 := ez_toNe (k := 53) s_1_16 (by decide)
    have q_17 := ez_toNe (k := 54) s_1_17 (by decide)
    have q_18 := ez_toNe (k := 55) s_1_18 (by decide)
    have q_19 := ez_toNe (k := 56) s_1_19 (by decide)
    have q_20 := ez_toNe (k := 57) s_1_20 (by decide)
    have q_21 := ez_toNe (k := 58) s_1_21 (by decide)
    have q_22 := ez_toNe (k := 59) s_1_22 (by decide)
    have q_23 := ez_toNe (k := 60) s_1_23 (by decide)
    have q_24 := ez_toNe (k := 61) s_1_24 (by decide)
    have q_25 := ez_toNe (k := 62) s_1_25 (by decide)
    omega
  refine lv_tableOut (tgt := 203) hx hb dX12_two_1 w_1 (by decide) ?_
  exact K_203  x1 x2 _ _ _ hS h (lv_sub hl [1, 2] rfl)
set_option maxHeartbeats 4000000 in
set_option maxRecDepth 100000 in
theorem c_X12_comes {l : Launch} {X : ez_X} {B : Nat} {σ : ez_H} {h0 : Nat} {z : Int32 × ez_H} (h : z_X12_comes σ h0 = some z) : ez_M l X B σ yX12_comes cX12_comes 4 (some .int) 1 [.ref (B + h0)] (some (.int z.1)) z.2 := by
  refine ez_starti (z := z) (by decide) (Nat.le_of_ble_eq_true rfl) (fun p e R s m args below meth c Q hC hret hS ls hl => ?_)
  have hC : ez_C p R s m args c X B RX12 cX12_comes 4 1 := hC
  have hx := hC.1.1
  have hb := hC.1.2.1
  have hown := hC.1.2.2.2.1
  have hts := hC.1.2.2.2.2
  have hl : lv_has ls 4 [(0, .ref (B + h0))] := hl
  obtain ⟨σ0, eσ⟩ : ∃ σ0 : ez_H, σ0 = σ := ⟨_, rfl⟩
  rw [← eσ] at hret
  have hS : ez_S X B s.heap σ0.length σ s.heap [] := eσ ▸ hS
  obtain ⟨-, h⟩ := ez_in h
  have K_124 : ∀ (k_12 : ez_H → Nat → Int32 → Int32 → Option (Int32 × ez_H)) (hk_12 : ∀ (σ : ez_H) (h0 : Nat) (x1 : Int32) (x2 : Int32) (H : Heap) (locs : List Loc) (ls : Array Slot), ez_S X B s.heap (σ0.length) σ H locs → k_12 σ h0 x1 x2 = some z → lv_has ls 4 [(0, .ref (B + h0)), (1, .int x1), (2, .int x2)] → W p l e R s m args below meth c H locs 0 0 Q (F0 m 12 ls [])), ∀ (σ : ez_H) (h0 : Nat) (x1 : Int32) (x2 : Int32) (H : Heap) (locs : List Loc) (ls : Array Slot), ez_S X B s.heap (σ0.length) σ H locs → z_X12_comes_124 k_12 σ h0 x1 x2 = some z → lv_has ls 4 [(0, .ref (B + h0)), (1, .int x1), (2, .int x2)] → W p l e R s m args below meth c H locs 0 0 Q (F0 m 124 ls []) := by
    intro k_12 hk_12 σ h0 x1 x2 H locs ls hS h hl
    obtain ⟨t_124, e_124, h⟩ := ez_let_sp h
    refine lv_iinc (v := t_124) (lv' := [(2, .int t_124), (0, .ref (B + h0)), (1, .int x1)]) hx hb dX12_comes_124 hl (k := 2) rfl (by rw [e_124]; rfl) (by decide) rfl (fun ls hl => ?_)
    refine lv_goto (tgt := 12) hx hb dX12_comes_127 (by decide) ?_
    exact hk_12 σ h0 x1 t_124 _ _ _ hS h (lv_sub hl [1, 2, 0] rfl)
  have K_61 : ∀ (k_12 : ez_H → Nat → Int32 → Int32 → Option (Int32 × ez_H)) (hk_12 : ∀ (σ : ez_H) (h0 : Nat) (x1 : Int32) (x2 : Int32) (H : Heap) (locs : List Loc) (ls : Array Slot), ez_S X B s.heap (σ0.length) σ H locs → k_12 σ h0 x1 x2 = some z → lv_has ls 4 [(0, .ref (B + h0)), (1, .int x1), (2, .int x2)] → W p l e R s m args below meth c H locs 0 0 Q (F0 m 12 ls [])), ∀ (σ : ez_H) (h0 : Nat) (x1 : Int32) (x2 : Int32) (y0 : Nat) (y1 : Int32) (y2 : Int32) (H : Heap) (locs : List Loc) (ls : Array Slot), ez_S X B s.heap (σ0.length) σ H locs → z_X12_comes_61 k_12 σ h0 x1 x2 y0 y1 y2 = some z → lv_has ls 4 [(0, .ref (B + h0)), (1, .int x1), (2, .int x2)] → W p l e R s m args below meth c H locs 0 0 Q (F0 m 61 ls [.int y2, .int y1, .ref (B + y0)]) := by
    intro k_12 hk_12 σ h0 x1 x2 y0 y1 y2 H locs ls hS h hl
    refine ez_ias hC hS h dX12_comes_61 (fun σ H locs hS h => ?_)
    refine lv_goto (tgt := 124) hx hb dX12_comes_62 (by decide) ?_
    exact K_124 k_12 hk_12 σ h0 x1 x2 _ _ _ hS h (lv_sub hl [0, 1, 2] rfl)
  have K_12 : ∀ (k_12 : ez_H → Nat → Int32 → Int32 → Option (Int32 × ez_H)) (hk_12 : ∀ (σ : ez_H) (h0 : Nat) (x1 : Int32) (x2 : Int32) (H : Heap) (locs : List Loc) (ls : Array Slot), ez_S X B s.heap (σ0.length) σ H locs → k_12 σ h0 x1 x2 = some z → lv_has ls 4 [(0, .ref (B + h0)), (1, .int x1), (2, .int x2)] → W p l e R s m args below meth c H locs 0 0 Q (F0 m 12 ls [])), ∀ (σ : ez_H) (h0 : Nat) (x1 : Int32) (x2 : Int32) (H : Heap) (locs : List Loc) (ls : Array Slot), ez_S X B s.heap (σ0.length) σ H locs → z_X12_comes_12 k_12 σ h0 x1 x2 = some z → lv_has ls 4 [(0, .ref (B + h0)), (1, .int x1), (2, .int x2)] → W p l e R s m args below meth c H locs 0 0 Q (F0 m 12 ls []) := by
    intro k_12 hk_12 σ h0 x1 x2 H locs ls hS h hl
    refine lv_iload_n hx hb dX12_comes_12 rfl (lv_at hl 2 rfl) ?_
    refine lv_aload_n hx hb dX12_comes_13 rfl (lv_at hl 0 rfl) ?_
    refine eg_RX12_84 hC hS h dX12_comes_14 (fun t_14 h => ?_)
    refine lv_aload_n hx hb dX12_comes_17 rfl (lv_at hl 0 rfl) ?_
    refine eg_RX12_274 hC hS h dX12_comes_18 (fun t_18 h => ?_)
    refine ez_ial hC hS h dX12_comes_21 (fun t_21 h => ?_)
    refine lv_icmp_ge (tgt := 130) hx hb dX12_comes_22 (by decide) (fun c_22 => ?_) (fun c_22 => ?_)
    · replace h := ez_ifp h c_22
      refine lv_aload_n hx hb dX12_comes_130 rfl (lv_at hl 0 rfl) ?_
      refine eg_RX12_115 hC hS h dX12_comes_131 (fun t_131 h => ?_)
      refine lv_iconst (v := 0) hx hb dX12_comes_134 (by decide) ?_
      refine ez_ial hC hS h dX12_comes_135 (fun t_135 h => ?_)
      exact hret _ _ _ _ _ _ (Option.some.inj h) rfl hS dX12_comes_136
    · replace h := ez_ifn h c_22
      refine lv_aload_n hx hb dX12_comes_25 rfl (lv_at hl 0 rfl) ?_
      refine eg_RX12_103 hC hS h dX12_comes_26 (fun t_26 h => ?_)
      refine lv_iload_n hx hb dX12_comes_29 rfl (lv_at hl 2 rfl) ?_
      refine ez_ial hC hS h dX12_comes_30 (fun t_30 h => ?_)
      refine lv_istore_n (lv' := [(3, .int t_30), (0, .ref (B + h0)), (1, .int x1), (2, .int x2)]) hx hb dX12_comes_31 rfl hl (by decide) rfl (fun ls hl => ?_)
      refine lv_iload_n hx hb dX12_comes_32 rfl (lv_at hl 0 rfl) ?_
      refine lv_bipush (v := 126) hx hb dX12_comes_33 (by decide) ?_
      refine lv_icmp_ne (tgt := 65) hx hb dX12_comes_35 (by decide) (fun c_35 => ?_) (fun c_35 => ?_)
      · replace h := ez_ifn h c_35
        refine lv_iload_n hx hb dX12_comes_65 rfl (lv_at hl 0 rfl) ?_
        refine ez_cSpi (As := [.int t_30]) (rest := []) h (fun _ q => c_X12_isLetter q) hC k_X12_isLetter ql_RX12_226 rfl (by decide) hS hl.1 rfl (Nat.le_of_ble_eq_true rfl) ⟨Nat.zero_le _, Nat.zero_le _⟩ dX12_comes_66 (fun t_66 H locs hS h => ?_)
        refine lv_if_eq (tgt := 95) hx hb dX12_comes_69 (by decide) (fun c_69 => ?_) (fun c_69 => ?_)
        · replace h := ez_ifp h c_69
          obtain ⟨t_95, e_95, h⟩ := ez_let_sp h
          refine lv_iinc (v := t_95) (lv' := [(1, .int t_95), (3, .int t_30), (0, .ref (B + h0)), (2, .int x2)]) hx hb dX12_comes_95 hl (k := 2) rfl (by rw [e_95]; rfl) (by decide) rfl (fun ls hl => ?_)
          refine lv_aload_n hx hb dX12_comes_98 rfl (lv_at hl 2 rfl) ?_
          refine eg_RX12_115 hC hS h dX12_comes_99 (fun t_99 h => ?_)
          refine lv_iload_n hx hb dX12_comes_102 rfl (lv_at hl 0 rfl) ?_
          refine lv_iconst (v := 1) hx hb dX12_comes_103 (by decide) ?_
          refine lv_isub hx hb dX12_comes_104 ?_
          refine ez_top h (fun t_104 h => ?_)
          refine lv_iload_n hx hb dX12_comes_105 rfl (lv_at hl 1 rfl) ?_
          refine lv_aload_n hx hb dX12_comes_106 rfl (lv_at hl 2 rfl) ?_
          refine eg_RX12_115 hC hS h dX12_comes_107 (fun t_107 h => ?_)
          refine lv_iload_n hx hb dX12_comes_110 rfl (lv_at hl 0 rfl) ?_
          refine lv_iconst (v := 1) hx hb dX12_comes_111 (by decide) ?_
          refine lv_isub hx hb dX12_comes_112 ?_
          refine ez_top h (fun t_112 h => ?_)
          refine ez_ial hC hS h dX12_comes_113 (fun t_113 h => ?_)
          refine lv_aload_n hx hb dX12_comes_114 rfl (lv_at hl 2 rfl) ?_
          refine eg_RX12_115 hC hS h dX12_comes_115 (fun t_115 h => ?_)
          refine lv_iload_n hx hb dX12_comes_118 rfl (lv_at hl 0 rfl) ?_
          refine ez_ial hC hS h dX12_comes_119 (fun t_119 h => ?_)
          refine ez_cSpi (As := [.int t_30, .int t_113, .int t_119]) (rest := [.int t_104, .ref (B + t_99)]) h (fun _ q => c_X12_two q) hC k_X12_two ql_RX12_401 rfl (by decide) hS hl.1 rfl (Nat.le_of_ble_eq_true rfl) ⟨Nat.zero_le _, Nat.zero_le _⟩ dX12_comes_120 (fun t_120 H locs hS h => ?_)
          refine ez_ias hC hS h dX12_comes_123 (fun σ H locs hS h => ?_)
          exact K_124 k_12 hk_12 σ h0 t_95 x2 _ _ _ hS h (lv_sub hl [2, 0, 3] rfl)
        · replace h := ez_ifn h c_69
          refine lv_aload_n hx hb dX12_comes_72 rfl (lv_at hl 1 rfl) ?_
          refine eg_RX12_115 hC hS h dX12_comes_73 (fun t_73 h => ?_)
          refine lv_iload_n hx hb dX12_comes_76 rfl (lv_at hl 2 rfl) ?_
          refine lv_aload_n hx hb dX12_comes_77 rfl (lv_at hl 1 rfl) ?_
          refine lv_iload_n hx hb dX12_comes_78 rfl (lv_at hl 0 rfl) ?_
          refine lv_aload_n hx hb dX12_comes_79 rfl (lv_at hl 1 rfl) ?_
          refine eg_RX12_106 hC hS h dX12_comes_80 (fun t_80 h => ?_)
          refine lv_iload_n hx hb dX12_comes_83 rfl (lv_at hl 3 rfl) ?_
          refine ez_ial hC hS h dX12_comes_84 (fun t_84 h => ?_)
          refine ez_cVpi (As := [.int t_30, .int t_84]) (rest := [.int x1, .ref (B + t_73)]) h (fun _ q => c_X12_asked q) hC k_X12_asked ql_RX12_398 rfl (by decide) hS (fun _ q => ez_rcv q) rfl hl.1 rfl (Nat.le_of_ble_eq_true rfl) ⟨Nat.zero_le _, Nat.zero_le _⟩ dX12_comes_85 (fun t_85 H locs hS h => ?_)
          refine ez_ias hC hS h dX12_comes_88 (fun σ H locs hS h => ?_)
          obtain ⟨t_89, e_89, h⟩ := ez_let_sp h
          refine lv_iinc (v := t_89) (lv' := [(1, .int t_89), (3, .int t_30), (0, .ref (B + h0)), (2, .int x2)]) hx hb dX12_comes_89 hl (k := 2) rfl (by rw [e_89]; rfl) (by decide) rfl (fun ls hl => ?_)
          refine lv_goto (tgt := 124) hx hb dX12_comes_92 (by decide) ?_
          exact K_124 k_12 hk_12 σ h0 t_89 x2 _ _ _ hS h (lv_sub hl [2, 0, 3] rfl)
      · replace h := ez_ifp h c_35
        refine lv_aload_n hx hb dX12_comes_38 rfl (lv_at hl 1 rfl) ?_
        refine eg_RX12_115 hC hS h dX12_comes_39 (fun t_39 h => ?_)
        refine lv_iload_n hx hb dX12_comes_42 rfl (lv_at hl 2 rfl) ?_
        refine lv_iconst (v := 1) hx hb dX12_comes_43 (by decide) ?_
        refine lv_isub hx hb dX12_comes_44 ?_
        refine ez_top h (fun t_44 h => ?_)
        refine lv_aload_n hx hb dX12_comes_45 rfl (lv_at hl 1 rfl) ?_
        refine eg_RX12_115 hC hS h dX12_comes_46 (fun t_46 h => ?_)
        refine lv_iload_n hx hb dX12_comes_49 rfl (lv_at hl 2 rfl) ?_
        refine lv_iconst (v := 1) hx hb dX12_comes_50 (by decide) ?_
        refine lv_isub hx hb dX12_comes_51 ?_
        refine ez_top h (fun t_51 h => ?_)
        refine ez_ial hC hS h dX12_comes_52 (fun t_52 h => ?_)
        refine lv_if_ne (tgt := 60) hx hb dX12_comes_53 (by decide) (fun c_53 => ?_) (fun c_53 => ?_)
        · replace h := ez_ifn h c_53
          refine lv_iconst (v := 0) hx hb dX12_comes_60 (by decide) ?_
          exact K_61 k_12 hk_12 σ h0 x1 x2 t_39 t_44 (0 : Int32) _ _ _ hS h (lv_sub hl [1, 2, 3] rfl)
        · replace h := ez_ifp h c_53
          refine lv_iconst (v := 1) hx hb dX12_comes_56 (by decide) ?_
          refine lv_goto (tgt := 61) hx hb dX12_comes_57 (by decide) ?_
          exact K_61 k_12 hk_12 σ h0 x1 x2 t_39 t_44 (1 : Int32) _ _ _ hS h (lv_sub hl [1, 2, 3] rfl)
  have E_12 : ∀ (σ : ez_H) (h0 : Nat) (x1 : Int32) (x2 : Int32) (H : Heap) (locs : List Loc) (ls : Array Slot), ez_S X B s.heap (σ0.length) σ H locs → (ez_fix (fun _ _ _ _ => none) (z_X12_comes_12) ez_N) σ h0 x1 x2 = some z → lv_has ls 4 [(0, .ref (B + h0)), (1, .int x1), (2, .int x2)] → W p l e R s m args below meth c H locs 0 0 Q (F0 m 12 ls []) := ez_fix_ind (fun k_12 : ez_H → Nat → Int32 → Int32 → Option (Int32 × ez_H) => ∀ (σ : ez_H) (h0 : Nat) (x1 : Int32) (x2 : Int32) (H : Heap) (locs : List Loc) (ls : Array Slot), ez_S X B s.heap (σ0.length) σ H locs → k_12 σ h0 x1 x2 = some z → lv_has ls 4 [(0, .ref (B + h0)), (1, .int x1), (2, .int x2)] → W p l e R s m args below meth c H locs 0 0 Q (F0 m 12 ls [])) (fun _ _ _ _ _ _ _ _ h _ => by cases h) (fun k_12 hk_12 => K_12 k_12 hk_12) ez_N
  refine lv_iconst (v := 0) hx hb dX12_comes_0 (by decide) ?_
  refine lv_istore_n (lv' := [(1, .int 0), (0, .ref (B + h0))]) hx hb dX12_comes_1 rfl hl (by decide) rfl (fun ls hl => ?_)
  refine lv_aload_n hx hb dX12_comes_2 rfl (lv_at hl 1 rfl) ?_
  refine eg_RX12_81 hC hS h dX12_comes_3 (fun t_3 h => ?_)
  refine lv_aload_n hx hb dX12_comes_6 rfl (lv_at hl 1 rfl) ?_
  refine eg_RX12_274 hC hS h dX12_comes_7 (fun t_7 h => ?_)
  refine ez_ial hC hS h dX12_comes_10 (fun t_10 h => ?_)
  refine lv_istore_n (lv' := [(2, .int t_10), (1, .int 0), (0, .ref (B + h0))]) hx hb dX12_comes_11 rfl hl (by decide) rfl (fun ls hl => ?_)
  exact E_12  σ h0 (0 : Int32) t_10 _ _ _ hS h (lv_sub hl [2, 1, 0] rfl)
set_option maxHeartbeats 4000000 in
set_option maxRecDepth 100000 in
theorem c_X12_use {l : Launch} {X : ez_X} {B : Nat} {σ : ez_H} {h0 : Nat} {x1 : Int32} {z : Unit × ez_H} (h : z_X12_use σ h0 x1 = some z) : ez_M l X B σ yX12_use cX12_use 4 (none) 4 [.ref (B + h0), .int x1] (none) z.2 := by
  refine ez_startv (z := z) (by decide) (Nat.le_of_ble_eq_true rfl) (fun p e R s m args below meth c Q hC hret hS ls hl => ?_)
  have hC : ez_C p R s m args c X B RX12 cX12_use 4 4 := hC
  have hx := hC.1.1
  have hb := hC.1.2.1
  have hown := hC.1.2.2.2.1
  have hts := hC.1.2.2.2.2
  have hl : lv_has ls 4 [(0, .ref (B + h0)), (1, .int x1)] := hl
  obtain ⟨σ0, eσ⟩ : ∃ σ0 : ez_H, σ0 = σ := ⟨_, rfl⟩
  rw [← eσ] at hret
  have hS : ez_S X B s.heap σ0.length σ s.heap [] := eσ ▸ hS
  obtain ⟨-, h⟩ := ez_in h
  have K_170 : ∀ (σ : ez_H) (h0 : Nat) (x1 : Int32) (H : Heap) (locs : List Loc) (ls : Array Slot), ez_S X B s.heap (σ0.length) σ H locs → z_X12_use_170 σ h0 x1 = some z → lv_has ls 4 [(0, .ref (B + h0)), (1, .int x1)] → W p l e R s m args below meth c H locs 0 0 Q (F0 m 170 ls []) := by
    intro σ h0 x1 H locs ls hS h hl
    refine lv_aload_n hx hb dX12_use_170 rfl (lv_at hl 0 rfl) ?_
    refine eg_RX12_118 hC hS h dX12_use_171 (fun t_171 h => ?_)
    refine lv_bipush (v := 40) hx hb dX12_use_174 (by decide) ?_
    refine lv_iload_n hx hb dX12_use_176 rfl (lv_at hl 1 rfl) ?_
    refine lv_iadd hx hb dX12_use_177 ?_
    refine ez_top h (fun t_177 h => ?_)
    refine lv_dup2_11 hx hb dX12_use_178 rfl rfl ?_
    refine ez_ial hC hS h dX12_use_179 (fun t_179 h => ?_)
    refine lv_iconst (v := 1) hx hb dX12_use_180 (by decide) ?_
    refine lv_iadd hx hb dX12_use_181 ?_
    refine ez_top h (fun t_181 h => ?_)
    refine ez_ias hC hS h dX12_use_182 (fun σ H locs hS h => ?_)
    exact hret _ _ _ _ _ _ (Option.some.inj h) hS dX12_use_183
  have K_148 : ∀ (σ : ez_H) (h0 : Nat) (x1 : Int32) (x2 : Int32) (y0 : Int32) (H : Heap) (locs : List Loc) (ls : Array Slot), ez_S X B s.heap (σ0.length) σ H locs → z_X12_use_148 σ h0 x1 x2 y0 = some z → lv_has ls 4 [(0, .ref (B + h0)), (1, .int x1), (2, .int x2)] → W p l e R s m args below meth c H locs 0 0 Q (F0 m 148 ls [.int y0]) := by
    intro σ h0 x1 x2 y0 H locs ls hS h hl
    refine lv_istore_n (lv' := [(3, .int y0), (0, .ref (B + h0)), (1, .int x1), (2, .int x2)]) hx hb dX12_use_148 rfl hl (by decide) rfl (fun ls hl => ?_)
    refine lv_aload_n hx hb dX12_use_149 rfl (lv_at hl 1 rfl) ?_
    refine eg_RX12_118 hC hS h dX12_use_150 (fun t_150 h => ?_)
    refine lv_bipush (v := 90) hx hb dX12_use_153 (by decide) ?_
    refine ez_ial hC hS h dX12_use_155 (fun t_155 h => ?_)
    refine lv_bipush (v := 10) hx hb dX12_use_156 (by decide) ?_
    obtain ⟨nz_158, h⟩ := ez_nz_sp h
    refine lv_idiv hx hb dX12_use_158 nz_158 ?_
    refine ez_top h (fun t_158 h => ?_)
    refine lv_iload_n hx hb dX12_use_159 rfl (lv_at hl 0 rfl) ?_
    refine lv_icmp_ge (tgt := 170) hx hb dX12_use_160 (by decide) (fun c_160 => ?_) (fun c_160 => ?_)
    · replace h := ez_ifp h c_160
      exact K_170  σ h0 x1 _ _ _ hS h (lv_sub hl [1, 2] rfl)
    · replace h := ez_ifn h c_160
      refine lv_aload_n hx hb dX12_use_163 rfl (lv_at hl 1 rfl) ?_
      refine lv_iload_n hx hb dX12_use_164 rfl (lv_at hl 2 rfl) ?_
      refine lv_iload_n hx hb dX12_use_165 rfl (lv_at hl 3 rfl) ?_
      refine ez_cVi (As := [.int x1, .int x2]) (rest := []) h (fun _ q => c_X12_deepen q) hC k_X12_deepen ql_RX12_593 rfl (by decide) hS (fun _ q => ez_rcv q) rfl hl.1 rfl (Nat.le_of_ble_eq_true rfl) ⟨Nat.zero_le _, Nat.zero_le _⟩ dX12_use_166 (fun t_166 σ H locs hS h => ?_)
      refine lv_pop hx hb dX12_use_169 rfl ?_
      exact K_170  σ h0 x1 _ _ _ hS h (lv_sub hl [1, 2] rfl)
  have K_106 : ∀ (σ : ez_H) (h0 : Nat) (x1 : Int32) (x2 : Int32) (H : Heap) (locs : List Loc) (ls : Array Slot), ez_S X B s.heap (σ0.length) σ H locs → z_X12_use_106 σ h0 x1 x2 = some z → lv_has ls 4 [(0, .ref (B + h0)), (1, .int x1), (2, .int x2)] → W p l e R s m args below meth c H locs 0 0 Q (F0 m 106 ls []) := by
    intro σ h0 x1 x2 H locs ls hS h hl
    refine lv_aload_n hx hb dX12_use_106 rfl (lv_at hl 0 rfl) ?_
    refine lv_aload_n hx hb dX12_use_107 rfl (lv_at hl 0 rfl) ?_
    refine eg_RX12_118 hC hS h dX12_use_108 (fun t_108 h => ?_)
    refine lv_bipush (v := 40) hx hb dX12_use_111 (by decide) ?_
    refine lv_iload_n hx hb dX12_use_113 rfl (lv_at hl 1 rfl) ?_
    refine lv_iadd hx hb dX12_use_114 ?_
    refine ez_top h (fun t_114 h => ?_)
    refine ez_ial hC hS h dX12_use_115 (fun t_115 h => ?_)
    refine ep_RX12_392 hC hS h dX12_use_116 (fun σ H locs hS h => ?_)
    refine lv_aload_n hx hb dX12_use_119 rfl (lv_at hl 0 rfl) ?_
    refine lv_iload_n hx hb dX12_use_120 rfl (lv_at hl 2 rfl) ?_
    refine ep_RX12_395 hC hS h dX12_use_121 (fun σ H locs hS h => ?_)
    refine lv_aload_n hx hb dX12_use_124 rfl (lv_at hl 0 rfl) ?_
    refine eg_RX12_51 hC hS h dX12_use_125 (fun t_125 h => ?_)
    refine lv_aload_n hx hb dX12_use_128 rfl (lv_at hl 0 rfl) ?_
    refine eg_RX12_274 hC hS h dX12_use_129 (fun t_129 h => ?_)
    refine ez_ial hC hS h dX12_use_132 (fun t_132 h => ?_)
    refine lv_iconst (v := 3) hx hb dX12_use_133 (by decide) ?_
    refine ez_cSpi (As := [.int t_132, .int 3]) (rest := []) h (fun _ q => c_X12_bit q) hC k_X12_bit ql_RX12_261 rfl (by decide) hS hl.1 rfl (Nat.le_of_ble_eq_true rfl) ⟨Nat.zero_le _, Nat.zero_le _⟩ dX12_use_134 (fun t_134 H locs hS h => ?_)
    refine lv_if_eq (tgt := 147) hx hb dX12_use_137 (by decide) (fun c_137 => ?_) (fun c_137 => ?_)
    · replace h := ez_ifp h c_137
      refine lv_iconst (v := 0) hx hb dX12_use_147 (by decide) ?_
      exact K_148  σ h0 x1 x2 (0 : Int32) _ _ _ hS h (lv_sub hl [0, 1, 2] rfl)
    · replace h := ez_ifn h c_137
      refine lv_aload_n hx hb dX12_use_140 rfl (lv_at hl 0 rfl) ?_
      refine ez_cVi (As := []) (rest := []) h (fun _ q => c_X12_comes q) hC k_X12_comes ql_RX12_590 rfl (by decide) hS (fun _ q => ez_rcv q) rfl hl.1 rfl (Nat.le_of_ble_eq_true rfl) ⟨Nat.zero_le _, Nat.zero_le _⟩ dX12_use_141 (fun t_141 σ H locs hS h => ?_)
      refine lv_goto (tgt := 148) hx hb dX12_use_144 (by decide) ?_
      exact K_148  σ h0 x1 x2 t_141 _ _ _ hS h (lv_sub hl [0, 1, 2] rfl)
  have K_69 : ∀ (σ : ez_H) (h0 : Nat) (x1 : Int32) (x2 : Int32) (H : Heap) (locs : List Loc) (ls : Array Slot), ez_S X B s.heap (σ0.length) σ H locs → z_X12_use_69 σ h0 x1 x2 = some z → lv_has ls 4 [(0, .ref (B + h0)), (1, .int x1), (2, .int x2)] → W p l e R s m args below meth c H locs 0 0 Q (F0 m 69 ls []) := by
    intro σ h0 x1 x2 H locs ls hS h hl
    refine lv_iload_n hx hb dX12_use_69 rfl (lv_at hl 2 rfl) ?_
    refine lv_aload_n hx hb dX12_use_70 rfl (lv_at hl 0 rfl) ?_
    refine ez_cVpi (As := []) (rest := [.int x2]) h (fun _ q => c_X12_wide q) hC k_X12_wide ql_RX12_414 rfl (by decide) hS (fun _ q => ez_rcv q) rfl hl.1 rfl (Nat.le_of_ble_eq_true rfl) ⟨Nat.zero_le _, Nat.zero_le _⟩ dX12_use_71 (fun t_71 H locs hS h => ?_)
    refine lv_iconst (v := 1) hx hb dX12_use_74 (by decide) ?_
    refine lv_isub hx hb dX12_use_75 ?_
    refine ez_top h (fun t_75 h => ?_)
    refine lv_icmp_ge (tgt := 106) hx hb dX12_use_76 (by decide) (fun c_76 => ?_) (fun c_76 => ?_)
    · replace h := ez_ifp h c_76
      exact K_106  σ h0 x1 x2 _ _ _ hS h (lv_sub hl [0, 1, 2] rfl)
    · replace h := ez_ifn h c_76
      refine lv_aload_n hx hb dX12_use_79 rfl (lv_at hl 0 rfl) ?_
      refine lv_iload_n hx hb dX12_use_80 rfl (lv_at hl 1 rfl) ?_
      refine lv_iload_n hx hb dX12_use_81 rfl (lv_at hl 2 rfl) ?_
      refine lv_iconst (v := 1) hx hb dX12_use_82 (by decide) ?_
      refine lv_iadd hx hb dX12_use_83 ?_
      refine ez_top h (fun t_83 h => ?_)
      refine ez_cVpi (As := [.int x1, .int t_83]) (rest := []) h (fun _ q => c_X12_cutOf q) hC k_X12_cutOf ql_RX12_444 rfl (by decide) hS (fun _ q => ez_rcv q) rfl hl.1 rfl (Nat.le_of_ble_eq_true rfl) ⟨Nat.zero_le _, Nat.zero_le _⟩ dX12_use_84 (fun t_84 H locs hS h => ?_)
      refine lv_aload_n hx hb dX12_use_87 rfl (lv_at hl 0 rfl) ?_
      refine eg_RX12_389 hC hS h dX12_use_88 (fun t_88 h => ?_)
      refine lv_icmp_le (tgt := 106) hx hb dX12_use_91 (by decide) (fun c_91 => ?_) (fun c_91 => ?_)
      · replace h := ez_ifp h c_91
        exact K_106  σ h0 x1 x2 _ _ _ hS h (lv_sub hl [0, 1, 2] rfl)
      · replace h := ez_ifn h c_91
        refine lv_aload_n hx hb dX12_use_94 rfl (lv_at hl 0 rfl) ?_
        refine lv_aload_n hx hb dX12_use_95 rfl (lv_at hl 0 rfl) ?_
        refine lv_iload_n hx hb dX12_use_96 rfl (lv_at hl 1 rfl) ?_
        refine lv_iload_n hx hb dX12_use_97 rfl (lv_at hl 2 rfl) ?_
        refine lv_iconst (v := 1) hx hb dX12_use_98 (by decide) ?_
        refine lv_iadd hx hb dX12_use_99 ?_
        refine ez_top h (fun t_99 h => ?_)
        refine ez_cVpi (As := [.int x1, .int t_99]) (rest := [.ref (B + h0)]) h (fun _ q => c_X12_cutOf q) hC k_X12_cutOf ql_RX12_444 rfl (by decide) hS (fun _ q => ez_rcv q) rfl hl.1 rfl (Nat.le_of_ble_eq_true rfl) ⟨Nat.zero_le _, Nat.zero_le _⟩ dX12_use_100 (fun t_100 H locs hS h => ?_)
        refine ep_RX12_389 hC hS h dX12_use_103 (fun σ H locs hS h => ?_)
        exact K_106  σ h0 x1 x2 _ _ _ hS h (lv_sub hl [0, 1, 2] rfl)
  refine lv_aload_n hx hb dX12_use_0 rfl (lv_at hl 0 rfl) ?_
  refine eg_RX12_118 hC hS h dX12_use_1 (fun t_1 h => ?_)
  refine lv_bipush (v := 90) hx hb dX12_use_4 (by decide) ?_
  refine lv_sipush (v := 137) hx hb dX12_use_6 (by decide) ?_
  refine lv_aload_n hx hb dX12_use_9 rfl (lv_at hl 0 rfl) ?_
  refine eg_RX12_118 hC hS h dX12_use_10 (fun t_10 h => ?_)
  refine lv_bipush (v := 90) hx hb dX12_use_13 (by decide) ?_
  refine ez_ial hC hS h dX12_use_15 (fun t_15 h => ?_)
  refine lv_imul hx hb dX12_use_16 ?_
  refine ez_top h (fun t_16 h => ?_)
  refine lv_bipush (v := 71) hx hb dX12_use_17 (by decide) ?_
  refine lv_iadd hx hb dX12_use_19 ?_
  refine ez_top h (fun t_19 h => ?_)
  refine lv_sipush (v := 1000) hx hb dX12_use_20 (by decide) ?_
  obtain ⟨nz_23, h⟩ := ez_nz_sp h
  refine lv_irem hx hb dX12_use_23 nz_23 ?_
  refine ez_top h (fun t_23 h => ?_)
  refine ez_ias hC hS h dX12_use_24 (fun σ H locs hS h => ?_)
  refine lv_aload_n hx hb dX12_use_25 rfl (lv_at hl 0 rfl) ?_
  refine eg_RX12_118 hC hS h dX12_use_26 (fun t_26 h => ?_)
  refine lv_bipush (v := 90) hx hb dX12_use_29 (by decide) ?_
  refine ez_ial hC hS h dX12_use_31 (fun t_31 h => ?_)
  refine lv_aload_n hx hb dX12_use_32 rfl (lv_at hl 0 rfl) ?_
  refine ez_cVpi (As := []) (rest := [.int t_31]) h (fun _ q => c_X12_wide q) hC k_X12_wide ql_RX12_414 rfl (by decide) hS (fun _ q => ez_rcv q) rfl hl.1 rfl (Nat.le_of_ble_eq_true rfl) ⟨Nat.zero_le _, Nat.zero_le _⟩ dX12_use_33 (fun t_33 H locs hS h => ?_)
  obtain ⟨nz_36, h⟩ := ez_nz_sp h
  refine lv_irem hx hb dX12_use_36 nz_36 ?_
  refine ez_top h (fun t_36 h => ?_)
  refine lv_istore_n (lv' := [(2, .int t_36), (0, .ref (B + h0)), (1, .int x1)]) hx hb dX12_use_37 rfl hl (by decide) rfl (fun ls hl => ?_)
  refine lv_aload_n hx hb dX12_use_38 rfl (lv_at hl 1 rfl) ?_
  refine lv_aload_n hx hb dX12_use_39 rfl (lv_at hl 1 rfl) ?_
  refine lv_iload_n hx hb dX12_use_40 rfl (lv_at hl 2 rfl) ?_
  refine lv_iload_n hx hb dX12_use_41 rfl (lv_at hl 0 rfl) ?_
  refine ez_cVpi (As := [.int x1, .int t_36]) (rest := [.ref (B + h0)]) h (fun _ q => c_X12_cutOf q) hC k_X12_cutOf ql_RX12_444 rfl (by decide) hS (fun _ q => ez_rcv q) rfl hl.1 rfl (Nat.le_of_ble_eq_true rfl) ⟨Nat.zero_le _, Nat.zero_le _⟩ dX12_use_42 (fun t_42 H locs hS h => ?_)
  refine ep_RX12_386 hC hS h dX12_use_45 (fun σ H locs hS h => ?_)
  refine lv_aload_n hx hb dX12_use_48 rfl (lv_at hl 1 rfl) ?_
  refine lv_iconst (v := -1) hx hb dX12_use_49 (by decide) ?_
  refine ep_RX12_389 hC hS h dX12_use_50 (fun σ H locs hS h => ?_)
  refine lv_iload_n hx hb dX12_use_53 rfl (lv_at hl 0 rfl) ?_
  refine lv_if_le (tgt := 69) hx hb dX12_use_54 (by decide) (fun c_54 => ?_) (fun c_54 => ?_)
  · replace h := ez_ifp h c_54
    exact K_69  σ h0 x1 t_36 _ _ _ hS h (lv_sub hl [1, 2, 0] rfl)
  · replace h := ez_ifn h c_54
    refine lv_aload_n hx hb dX12_use_57 rfl (lv_at hl 1 rfl) ?_
    refine lv_aload_n hx hb dX12_use_58 rfl (lv_at hl 1 rfl) ?_
    refine lv_iload_n hx hb dX12_use_59 rfl (lv_at hl 2 rfl) ?_
    refine lv_iload_n hx hb dX12_use_60 rfl (lv_at hl 0 rfl) ?_
    refine lv_iconst (v := 1) hx hb dX12_use_61 (by decide) ?_
    refine lv_isub hx hb dX12_use_62 ?_
    refine ez_top h (fun t_62 h => ?_)
    refine ez_cVpi (As := [.int x1, .int t_62]) (rest := [.ref (B + h0)]) h (fun _ q => c_X12_cutOf q) hC k_X12_cutOf ql_RX12_444 rfl (by decide) hS (fun _ q => ez_rcv q) rfl hl.1 rfl (Nat.le_of_ble_eq_true rfl) ⟨Nat.zero_le _, Nat.zero_le _⟩ dX12_use_63 (fun t_63 H locs hS h => ?_)
    refine ep_RX12_389 hC hS h dX12_use_66 (fun σ H locs hS h => ?_)
    exact K_69  σ h0 x1 t_36 _ _ _ hS h (lv_sub hl [1, 2, 0] rfl)
set_option maxHeartbeats 4000000 in
set_option maxRecDepth 100000 in
theorem c_X12_lasts {l : Launch} {X : ez_X} {B : Nat} {σ : ez_H} {h0 : Nat} {x1 : Int32} {x2 : Int32} {z : Int32 × ez_H} (h : z_X12_lasts σ h0 x1 x2 = some z) : ez_M l X B σ yX12_lasts cX12_lasts 4 (some .int) 5 [.ref (B + h0), .int x1, .int x2] (some (.int z.1)) z.2 := by
  refine ez_starti (z := z) (by decide) (Nat.le_of_ble_eq_true rfl) (fun p e R s m args below meth c Q hC hret hS ls hl => ?_)
  have hC : ez_C p R s m args c X B RX12 cX12_lasts 4 5 := hC
  have hx := hC.1.1
  have hb := hC.1.2.1
  have hown := hC.1.2.2.2.1
  have hts := hC.1.2.2.2.2
  have hl : lv_has ls 4 [(0, .ref (B + h0)), (1, .int x1), (2, .int x2)] := hl
  obtain ⟨σ0, eσ⟩ : ∃ σ0 : ez_H, σ0 = σ := ⟨_, rfl⟩
  rw [← eσ] at hret
  have hS : ez_S X B s.heap σ0.length σ s.heap [] := eσ ▸ hS
  obtain ⟨-, h⟩ := ez_in h
  have K_16 : ∀ (σ : ez_H) (H : Heap) (locs : List Loc) (ls : Array Slot), ez_S X B s.heap (σ0.length) σ H locs → z_X12_lasts_16 σ = some z → lv_has ls 4 [] → W p l e R s m args below meth c H locs 0 0 Q (F0 m 16 ls []) := by
    intro σ H locs ls hS h hl
    refine lv_iconst (v := -1) hx hb dX12_lasts_16 (by decide) ?_
    exact hret _ _ _ _ _ _ (Option.some.inj h) rfl hS dX12_lasts_17
  have K_67 : ∀ (σ : ez_H) (y0 : Int32) (H : Heap) (locs : List Loc) (ls : Array Slot), ez_S X B s.heap (σ0.length) σ H locs → z_X12_lasts_67 σ y0 = some z → lv_has ls 4 [] → W p l e R s m args below meth c H locs 0 0 Q (F0 m 67 ls [.int y0]) := by
    intro σ y0 H locs ls hS h hl
    exact hret _ _ _ _ _ _ (Option.some.inj h) rfl hS dX12_lasts_67
  have K_51 : ∀ (σ : ez_H) (h0 : Nat) (x3 : Int32) (H : Heap) (locs : List Loc) (ls : Array Slot), ez_S X B s.heap (σ0.length) σ H locs → z_X12_lasts_51 σ h0 x3 = some z → lv_has ls 4 [(0, .ref (B + h0)), (3, .int x3)] → W p l e R s m args below meth c H locs 0 0 Q (F0 m 51 ls []) := by
    intro σ h0 x3 H locs ls hS h hl
    refine lv_aload_n hx hb dX12_lasts_51 rfl (lv_at hl 0 rfl) ?_
    refine ez_cVv (As := []) (rest := []) h (fun _ q => c_X12_bringBack q) hC k_X12_bringBack ql_RX12_562 rfl (by decide) hS (fun _ q => ez_rcv q) rfl hl.1 rfl (Nat.le_of_ble_eq_true rfl) ⟨Nat.zero_le _, Nat.zero_le _⟩ dX12_lasts_52 (fun _ σ H locs hS h => ?_)
    refine lv_iload_n hx hb dX12_lasts_55 rfl (lv_at hl 1 rfl) ?_
    refine lv_sipush (v := 200) hx hb dX12_lasts_56 (by decide) ?_
    refine lv_icmp_gt (tgt := 66) hx hb dX12_lasts_59 (by decide) (fun c_59 => ?_) (fun c_59 => ?_)
    · replace h := ez_ifp h c_59
      refine lv_iconst (v := -1) hx hb dX12_lasts_66 (by decide) ?_
      exact K_67  σ (-1 : Int32) _ _ _ hS h (lv_sub hl [] rfl)
    · replace h := ez_ifn h c_59
      refine lv_iload_n hx hb dX12_lasts_62 rfl (lv_at hl 1 rfl) ?_
      refine lv_goto (tgt := 67) hx hb dX12_lasts_63 (by decide) ?_
      exact K_67  σ x3 _ _ _ hS h (lv_sub hl [] rfl)
  have K_24 : ∀ (k_24 : ez_H → Nat → Int32 → Int32 → Int32 → Option (Int32 × ez_H)) (hk_24 : ∀ (σ : ez_H) (h0 : Nat) (x1 : Int32) (x2 : Int32) (x3 : Int32) (H : Heap) (locs : List Loc) (ls : Array Slot), ez_S X B s.heap (σ0.length) σ H locs → k_24 σ h0 x1 x2 x3 = some z → lv_has ls 4 [(0, .ref (B + h0)), (1, .int x1), (2, .int x2), (3, .int x3)] → W p l e R s m args below meth c H locs 0 0 Q (F0 m 24 ls [])), ∀ (σ : ez_H) (h0 : Nat) (x1 : Int32) (x2 : Int32) (x3 : Int32) (H : Heap) (locs : List Loc) (ls : Array Slot), ez_S X B s.heap (σ0.length) σ H locs → z_X12_lasts_24 k_24 σ h0 x1 x2 x3 = some z → lv_has ls 4 [(0, .ref (B + h0)), (1, .int x1), (2, .int x2), (3, .int x3)] → W p l e R s m args below meth c H locs 0 0 Q (F0 m 24 ls []) := by
    intro k_24 hk_24 σ h0 x1 x2 x3 H locs ls hS h hl
    refine lv_iload_n hx hb dX12_lasts_24 rfl (lv_at hl 3 rfl) ?_
    refine lv_sipush (v := 200) hx hb dX12_lasts_25 (by decide) ?_
    refine lv_icmp_gt (tgt := 51) hx hb dX12_lasts_28 (by decide) (fun c_28 => ?_) (fun c_28 => ?_)
    · replace h := ez_ifp h c_28
      exact K_51  σ h0 x3 _ _ _ hS h (lv_sub hl [0, 3] rfl)
    · replace h := ez_ifn h c_28
      refine lv_aload_n hx hb dX12_lasts_31 rfl (lv_at hl 0 rfl) ?_
      refine lv_iload_n hx hb dX12_lasts_32 rfl (lv_at hl 1 rfl) ?_
      refine lv_iload_n hx hb dX12_lasts_33 rfl (lv_at hl 2 rfl) ?_
      refine ez_cVpi (As := [.int x1, .int x2]) (rest := []) h (fun _ q => c_X12_opensBy q) hC k_X12_opensBy ql_RX12_474 rfl (by decide) hS (fun _ q => ez_rcv q) rfl hl.1 rfl (Nat.le_of_ble_eq_true rfl) ⟨Nat.zero_le _, Nat.zero_le _⟩ dX12_lasts_34 (fun t_34 H locs hS h => ?_)
      refine lv_if_eq (tgt := 51) hx hb dX12_lasts_37 (by decide) (fun c_37 => ?_) (fun c_37 => ?_)
      · replace h := ez_ifp h c_37
        exact K_51  σ h0 x3 _ _ _ hS h (lv_sub hl [0, 3] rfl)
      · replace h := ez_ifn h c_37
        refine lv_aload_n hx hb dX12_lasts_40 rfl (lv_at hl 0 rfl) ?_
        refine lv_iload_n hx hb dX12_lasts_41 rfl (lv_at hl 1 rfl) ?_
        refine ez_cVv (As := [.int x1]) (rest := []) h (fun _ q => c_X12_use q) hC k_X12_use ql_RX12_596 rfl (by decide) hS (fun _ q => ez_rcv q) rfl hl.1 rfl (Nat.le_of_ble_eq_true rfl) ⟨Nat.zero_le _, Nat.zero_le _⟩ dX12_lasts_42 (fun _ σ H locs hS h => ?_)
        obtain ⟨t_45, e_45, h⟩ := ez_let_sp h
        refine lv_iinc (v := t_45) (lv' := [(3, .int t_45), (0, .ref (B + h0)), (1, .int x1), (2, .int x2)]) hx hb dX12_lasts_45 hl (k := 3) rfl (by rw [e_45]; rfl) (by decide) rfl (fun ls hl => ?_)
        refine lv_goto (tgt := 24) hx hb dX12_lasts_48 (by decide) ?_
        exact hk_24 σ h0 x1 x2 t_45 _ _ _ hS h (lv_sub hl [1, 2, 3, 0] rfl)
  have E_24 : ∀ (σ : ez_H) (h0 : Nat) (x1 : Int32) (x2 : Int32) (x3 : Int32) (H : Heap) (locs : List Loc) (ls : Array Slot), ez_S X B s.heap (σ0.length) σ H locs → (ez_fix (fun _ _ _ _ _ => none) (z_X12_lasts_24) ez_N) σ h0 x1 x2 x3 = some z → lv_has ls 4 [(0, .ref (B + h0)), (1, .int x1), (2, .int x2), (3, .int x3)] → W p l e R s m args below meth c H locs 0 0 Q (F0 m 24 ls []) := ez_fix_ind (fun k_24 : ez_H → Nat → Int32 → Int32 → Int32 → Option (Int32 × ez_H) => ∀ (σ : ez_H) (h0 : Nat) (x1 : Int32) (x2 : Int32) (x3 : Int32) (H : Heap) (locs : List Loc) (ls : Array Slot), ez_S X B s.heap (σ0.length) σ H locs → k_24 σ h0 x1 x2 x3 = some z → lv_has ls 4 [(0, .ref (B + h0)), (1, .int x1), (2, .int x2), (3, .int x3)] → W p l e R s m args below meth c H locs 0 0 Q (F0 m 24 ls [])) (fun _ _ _ _ _ _ _ _ _ h _ => by cases h) (fun k_24 hk_24 => K_24 k_24 hk_24) ez_N
  refine lv_aload_n hx hb dX12_lasts_0 rfl (lv_at hl 0 rfl) ?_
  refine lv_iload_n hx hb dX12_lasts_1 rfl (lv_at hl 1 rfl) ?_
  refine ez_cVpi (As := [.int x1]) (rest := []) h (fun _ q => c_X12_isKey q) hC k_X12_isKey ql_RX12_462 rfl (by decide) hS (fun _ q => ez_rcv q) rfl hl.1 rfl (Nat.le_of_ble_eq_true rfl) ⟨Nat.zero_le _, Nat.zero_le _⟩ dX12_lasts_2 (fun t_2 H locs hS h => ?_)
  refine lv_if_eq (tgt := 16) hx hb dX12_lasts_5 (by decide) (fun c_5 => ?_) (fun c_5 => ?_)
  · replace h := ez_ifp h c_5
    exact K_16  σ _ _ _ hS h (lv_sub hl [] rfl)
  · replace h := ez_ifn h c_5
    refine lv_aload_n hx hb dX12_lasts_8 rfl (lv_at hl 0 rfl) ?_
    refine lv_iload_n hx hb dX12_lasts_9 rfl (lv_at hl 2 rfl) ?_
    refine ez_cVpi (As := [.int x2]) (rest := []) h (fun _ q => c_X12_isLock q) hC k_X12_isLock ql_RX12_477 rfl (by decide) hS (fun _ q => ez_rcv q) rfl hl.1 rfl (Nat.le_of_ble_eq_true rfl) ⟨Nat.zero_le _, Nat.zero_le _⟩ dX12_lasts_10 (fun t_10 H locs hS h => ?_)
    refine lv_if_ne (tgt := 18) hx hb dX12_lasts_13 (by decide) (fun c_13 => ?_) (fun c_13 => ?_)
    · replace h := ez_ifn h c_13
      refine lv_aload_n hx hb dX12_lasts_18 rfl (lv_at hl 0 rfl) ?_
      refine ez_cVv (As := []) (rest := []) h (fun _ q => c_X12_keepNow q) hC k_X12_keepNow ql_RX12_553 rfl (by decide) hS (fun _ q => ez_rcv q) rfl hl.1 rfl (Nat.le_of_ble_eq_true rfl) ⟨Nat.zero_le _, Nat.zero_le _⟩ dX12_lasts_19 (fun _ σ H locs hS h => ?_)
      refine lv_iconst (v := 0) hx hb dX12_lasts_22 (by decide) ?_
      refine lv_istore_n (lv' := [(3, .int 0), (0, .ref (B + h0)), (1, .int x1), (2, .int x2)]) hx hb dX12_lasts_23 rfl hl (by decide) rfl (fun ls hl => ?_)
      exact E_24  σ h0 x1 x2 (0 : Int32) _ _ _ hS h (lv_sub hl [1, 2, 3, 0] rfl)
    · replace h := ez_ifp h c_13
      exact K_16  σ _ _ _ hS h (lv_sub hl [] rfl)
set_option maxHeartbeats 4000000 in
set_option maxRecDepth 100000 in
theorem c_X12_later {l : Launch} {X : ez_X} {B : Nat} {σ : ez_H} {h0 : Nat} {x1 : Int32} {z : Int32 × ez_H} (h : z_X12_later σ h0 x1 = some z) : ez_M l X B σ yX12_later cX12_later 2 (some .int) 1 [.ref (B + h0), .int x1] (some (.int z.1)) z.2 := by
  refine ez_starti (z := z) (by decide) (Nat.le_of_ble_eq_true rfl) (fun p e R s m args below meth c Q hC hret hS ls hl => ?_)
  have hC : ez_C p R s m args c X B RX12 cX12_later 2 1 := hC
  have hx := hC.1.1
  have hb := hC.1.2.1
  have hown := hC.1.2.2.2.1
  have hts := hC.1.2.2.2.2
  have hl : lv_has ls 2 [(0, .ref (B + h0)), (1, .int x1)] := hl
  obtain ⟨σ0, eσ⟩ : ∃ σ0 : ez_H, σ0 = σ := ⟨_, rfl⟩
  rw [← eσ] at hret
  have hS : ez_S X B s.heap σ0.length σ s.heap [] := eσ ▸ hS
  obtain ⟨-, h⟩ := ez_in h
  have K_23 : ∀ (σ : ez_H) (H : Heap) (locs : List Loc) (ls : Array Slot), ez_S X B s.heap (σ0.length) σ H locs → z_X12_later_23 σ = some z → lv_has ls 2 [] → W p l e R s m args below meth c H locs 0 0 Q (F0 m 23 ls []) := by
    intro σ H locs ls hS h hl
    refine lv_iconst (v := -1) hx hb dX12_later_23 (by decide) ?_
    exact hret _ _ _ _ _ _ (Option.some.inj h) rfl hS dX12_later_24
  refine lv_iload_n hx hb dX12_later_0 rfl (lv_at hl 1 rfl) ?_
  refine lv_iconst (v := 0) hx hb dX12_later_1 (by decide) ?_
  refine lv_sipush (v := 1000) hx hb dX12_later_2 (by decide) ?_
  refine ez_cSpi (As := [.int x1, .int 0, .int 1000]) (rest := []) h (fun _ q => c_X12_isIn q) hC k_X12_isIn ql_RX12_407 rfl (by decide) hS hl.1 rfl (Nat.le_of_ble_eq_true rfl) ⟨Nat.zero_le _, Nat.zero_le _⟩ dX12_later_5 (fun t_5 H locs hS h => ?_)
  refine lv_if_eq (tgt := 23) hx hb dX12_later_8 (by decide) (fun c_8 => ?_) (fun c_8 => ?_)
  · replace h := ez_ifp h c_8
    exact K_23  σ _ _ _ hS h (lv_sub hl [] rfl)
  · replace h := ez_ifn h c_8
    refine lv_aload_n hx hb dX12_later_11 rfl (lv_at hl 0 rfl) ?_
    refine eg_RX12_609 hC hS h dX12_later_12 (fun t_12 h => ?_)
    refine lv_iload_n hx hb dX12_later_15 rfl (lv_at hl 1 rfl) ?_
    refine lv_iadd hx hb dX12_later_16 ?_
    refine ez_top h (fun t_16 h => ?_)
    refine lv_ldcw hx hb hown (hts _ qc_RX12_528) dX12_later_17 ?_
    refine lv_icmp_le (tgt := 25) hx hb dX12_later_20 (by decide) (fun c_20 => ?_) (fun c_20 => ?_)
    · replace h := ez_ifp h c_20
      refine lv_aload_n hx hb dX12_later_25 rfl (lv_at hl 0 rfl) ?_
      refine lv_dup hx hb dX12_later_26 rfl ?_
      refine eg_RX12_609 hC hS h dX12_later_27 (fun t_27 h => ?_)
      refine lv_iload_n hx hb dX12_later_30 rfl (lv_at hl 1 rfl) ?_
      refine lv_iadd hx hb dX12_later_31 ?_
      refine ez_top h (fun t_31 h => ?_)
      refine ep_RX12_609 hC hS h dX12_later_32 (fun σ H locs hS h => ?_)
      refine lv_aload_n hx hb dX12_later_35 rfl (lv_at hl 0 rfl) ?_
      refine eg_RX12_609 hC hS h dX12_later_36 (fun t_36 h => ?_)
      exact hret _ _ _ _ _ _ (Option.some.inj h) rfl hS dX12_later_39
    · replace h := ez_ifn h c_20
      exact K_23  σ _ _ _ hS h (lv_sub hl [] rfl)
set_option maxHeartbeats 4000000 in
set_option maxRecDepth 100000 in
theorem c_X12_manyLegal {l : Launch} {X : ez_X} {B : Nat} {σ : ez_H} {h0 : Nat} {x1 : Int32} {z : Int32} (h : z_X12_manyLegal σ h0 x1 = some z) : ez_M l X B σ yX12_manyLegal cX12_manyLegal 4 (some .int) 2 [.ref (B + h0), .int x1] (some (.int z)) σ := by
  refine ez_startip (z := z) (by decide) (Nat.le_of_ble_eq_true rfl) (fun p e R s m args below meth c Q hC hret hS ls hl => ?_)
  have hC : ez_C p R s m args c X B RX12 cX12_manyLegal 4 2 := hC
  have hx := hC.1.1
  have hb := hC.1.2.1
  have hown := hC.1.2.2.2.1
  have hts := hC.1.2.2.2.2
  have hl : lv_has ls 4 [(0, .ref (B + h0)), (1, .int x1)] := hl
  obtain ⟨n0, e0⟩ : ∃ n0 : Nat, n0 = σ.length := ⟨_, rfl⟩
  rw [← e0] at hret hS
  obtain ⟨-, h⟩ := ez_in h
  have K_24 : ∀ (k_4 : Nat → Int32 → Int32 → Int32 → Option (Int32)) (hk_4 : ∀ (h0 : Nat) (x1 : Int32) (x2 : Int32) (x3 : Int32) (H : Heap) (locs : List Loc) (ls : Array Slot), ez_S X B s.heap (n0) σ H locs → k_4 h0 x1 x2 x3 = some z → lv_has ls 4 [(0, .ref (B + h0)), (1, .int x1), (2, .int x2), (3, .int x3)] → W p l e R s m args below meth c H locs 0 0 Q (F0 m 4 ls [])), ∀ (h0 : Nat) (x1 : Int32) (x2 : Int32) (x3 : Int32) (H : Heap) (locs : List Loc) (ls : Array Slot), ez_S X B s.heap (n0) σ H locs → z_X12_manyLegal_24 σ k_4 h0 x1 x2 x3 = some z → lv_has ls 4 [(0, .ref (B + h0)), (1, .int x1), (2, .int x2), (3, .int x3)] → W p l e R s m args below meth c H locs 0 0 Q (F0 m 24 ls []) := by
    intro k_4 hk_4 h0 x1 x2 x3 H locs ls hS h hl
    obtain ⟨t_24, e_24, h⟩ := ez_let_sp h
    refine lv_iinc (v := t_24) (lv' := [(3, .int t_24), (0, .ref (B + h0)), (1, .int x1), (2, .int x2)]) hx hb dX12_manyLegal_24 hl (k := 3) rfl (by rw [e_24]; rfl) (by decide) rfl (fun ls hl => ?_)
    refine lv_goto (tgt := 4) hx hb dX12_manyLegal_27 (by decide) ?_
    exact hk_4 h0 x1 x2 t_24 _ _ _ hS h (lv_sub hl [1, 2, 3, 0] rfl)
  have K_4 : ∀ (k_4 : Nat → Int32 → Int32 → Int32 → Option (Int32)) (hk_4 : ∀ (h0 : Nat) (x1 : Int32) (x2 : Int32) (x3 : Int32) (H : Heap) (locs : List Loc) (ls : Array Slot), ez_S X B s.heap (n0) σ H locs → k_4 h0 x1 x2 x3 = some z → lv_has ls 4 [(0, .ref (B + h0)), (1, .int x1), (2, .int x2), (3, .int x3)] → W p l e R s m args below meth c H locs 0 0 Q (F0 m 4 ls [])), ∀ (h0 : Nat) (x1 : Int32) (x2 : Int32) (x3 : Int32) (H : Heap) (locs : List Loc) (ls : Array Slot), ez_S X B s.heap (n0) σ H locs → z_X12_manyLegal_4 σ k_4 h0 x1 x2 x3 = some z → lv_has ls 4 [(0, .ref (B + h0)), (1, .int x1), (2, .int x2), (3, .int x3)] → W p l e R s m args below meth c H locs 0 0 Q (F0 m 4 ls []) := by
    intro k_4 hk_4 h0 x1 x2 x3 H locs ls hS h hl
    refine lv_iload_n hx hb dX12_manyLegal_4 rfl (lv_at hl 3 rfl) ?_
    refine lv_aload_n hx hb dX12_manyLegal_5 rfl (lv_at hl 0 rfl) ?_
    refine ez_cVpi (As := []) (rest := [.int x3]) h (fun _ q => c_X12_bittings q) hC k_X12_bittings ql_RX12_438 rfl (by decide) hS (fun _ q => ez_rcv q) rfl hl.1 rfl (Nat.le_of_ble_eq_true rfl) ⟨Nat.zero_le _, Nat.zero_le _⟩ dX12_manyLegal_6 (fun t_6 H locs hS h => ?_)
    refine lv_icmp_ge (tgt := 30) hx hb dX12_manyLegal_9 (by decide) (fun c_9 => ?_) (fun c_9 => ?_)
    · replace h := ez_ifp h c_9
      refine lv_iload_n hx hb dX12_manyLegal_30 rfl (lv_at hl 2 rfl) ?_
      exact hret _ _ _ _ _ (Option.some.inj h) rfl hS dX12_manyLegal_31
    · replace h := ez_ifn h c_9
      refine lv_aload_n hx hb dX12_manyLegal_12 rfl (lv_at hl 0 rfl) ?_
      refine lv_iload_n hx hb dX12_manyLegal_13 rfl (lv_at hl 3 rfl) ?_
      refine lv_iload_n hx hb dX12_manyLegal_14 rfl (lv_at hl 1 rfl) ?_
      refine ez_cVpi (As := [.int x3, .int x1]) (rest := []) h (fun _ q => c_X12_isLegalBy q) hC k_X12_isLegalBy ql_RX12_441 rfl (by decide) hS (fun _ q => ez_rcv q) rfl hl.1 rfl (Nat.le_of_ble_eq_true rfl) ⟨Nat.zero_le _, Nat.zero_le _⟩ dX12_manyLegal_15 (fun t_15 H locs hS h => ?_)
      refine lv_if_eq (tgt := 24) hx hb dX12_manyLegal_18 (by decide) (fun c_18 => ?_) (fun c_18 => ?_)
      · replace h := ez_ifp h c_18
        exact K_24 k_4 hk_4 h0 x1 x2 x3 _ _ _ hS h (lv_sub hl [0, 1, 2, 3] rfl)
      · replace h := ez_ifn h c_18
        obtain ⟨t_21, e_21, h⟩ := ez_let_sp h
        refine lv_iinc (v := t_21) (lv' := [(2, .int t_21), (0, .ref (B + h0)), (1, .int x1), (3, .int x3)]) hx hb dX12_manyLegal_21 hl (k := 2) rfl (by rw [e_21]; rfl) (by decide) rfl (fun ls hl => ?_)
        exact K_24 k_4 hk_4 h0 x1 t_21 x3 _ _ _ hS h (lv_sub hl [1, 2, 0, 3] rfl)
  have E_4 : ∀ (h0 : Nat) (x1 : Int32) (x2 : Int32) (x3 : Int32) (H : Heap) (locs : List Loc) (ls : Array Slot), ez_S X B s.heap (n0) σ H locs → (ez_fix (fun _ _ _ _ => none) (z_X12_manyLegal_4 σ) ez_N) h0 x1 x2 x3 = some z → lv_has ls 4 [(0, .ref (B + h0)), (1, .int x1), (2, .int x2), (3, .int x3)] → W p l e R s m args below meth c H locs 0 0 Q (F0 m 4 ls []) := ez_fix_ind (fun k_4 : Nat → Int32 → Int32 → Int32 → Option (Int32) => ∀ (h0 : Nat) (x1 : Int32) (x2 : Int32) (x3 : Int32) (H : Heap) (locs : List Loc) (ls : Array Slot), ez_S X B s.heap (n0) σ H locs → k_4 h0 x1 x2 x3 = some z → lv_has ls 4 [(0, .ref (B + h0)), (1, .int x1), (2, .int x2), (3, .int x3)] → W p l e R s m args below meth c H locs 0 0 Q (F0 m 4 ls [])) (fun _ _ _ _ _ _ _ _ h _ => by cases h) (fun k_4 hk_4 => K_4 k_4 hk_4) ez_N
  refine lv_iconst (v := 0) hx hb dX12_manyLegal_0 (by decide) ?_
  refine lv_istore_n (lv' := [(2, .int 0), (0, .ref (B + h0)), (1, .int x1)]) hx hb dX12_manyLegal_1 rfl hl (by decide) rfl (fun ls hl => ?_)
  refine lv_iconst (v := 0) hx hb dX12_manyLegal_2 (by decide) ?_
  refine lv_istore_n (lv' := [(3, .int 0), (2, .int 0), (0, .ref (B + h0)), (1, .int x1)]) hx hb dX12_manyLegal_3 rfl hl (by decide) rfl (fun ls hl => ?_)
  exact E_4  h0 x1 (0 : Int32) (0 : Int32) _ _ _ hS h (lv_sub hl [2, 3, 1, 0] rfl)
set_option maxHeartbeats 4000000 in
set_option maxRecDepth 100000 in
theorem c_X12_law {l : Launch} {X : ez_X} {B : Nat} {σ : ez_H} {h0 : Nat} {x1 : Int32} {z : Int32} (h : z_X12_law σ h0 x1 = some z) : ez_M l X B σ yX12_law cX12_law 2 (some .int) 3 [.ref (B + h0), .int x1] (some (.int z)) σ := by
  refine ez_startip (z := z) (by decide) (Nat.le_of_ble_eq_true rfl) (fun p e R s m args below meth c Q hC hret hS ls hl => ?_)
  have hC : ez_C p R s m args c X B RX12 cX12_law 2 3 := hC
  have hx := hC.1.1
  have hb := hC.1.2.1
  have hown := hC.1.2.2.2.1
  have hts := hC.1.2.2.2.2
  have hl : lv_has ls 2 [(0, .ref (B + h0)), (1, .int x1)] := hl
  obtain ⟨n0, e0⟩ : ∃ n0 : Nat, n0 = σ.length := ⟨_, rfl⟩
  rw [← e0] at hret hS
  obtain ⟨-, h⟩ := ez_in h
  have K_18 : ∀ (y0 : Int32) (H : Heap) (locs : List Loc) (ls : Array Slot), ez_S X B s.heap (n0) σ H locs → z_X12_law_18 σ y0 = some z → lv_has ls 2 [] → W p l e R s m args below meth c H locs 0 0 Q (F0 m 18 ls [.int y0]) := by
    intro y0 H locs ls hS h hl
    exact hret _ _ _ _ _ (Option.some.inj h) rfl hS dX12_law_18
  refine lv_iload_n hx hb dX12_law_0 rfl (lv_at hl 1 rfl) ?_
  refine lv_iconst (v := 0) hx hb dX12_law_1 (by decide) ?_
  refine lv_iconst (v := 5) hx hb dX12_law_2 (by decide) ?_
  refine ez_cSpi (As := [.int x1, .int 0, .int 5]) (rest := []) h (fun _ q => c_X12_isIn q) hC k_X12_isIn ql_RX12_407 rfl (by decide) hS hl.1 rfl (Nat.le_of_ble_eq_true rfl) ⟨Nat.zero_le _, Nat.zero_le _⟩ dX12_law_3 (fun t_3 H locs hS h => ?_)
  refine lv_if_eq (tgt := 17) hx hb dX12_law_6 (by decide) (fun c_6 => ?_) (fun c_6 => ?_)
  · replace h := ez_ifp h c_6
    refine lv_iconst (v := -1) hx hb dX12_law_17 (by decide) ?_
    exact K_18  (-1 : Int32) _ _ _ hS h (lv_sub hl [] rfl)
  · replace h := ez_ifn h c_6
    refine lv_aload_n hx hb dX12_law_9 rfl (lv_at hl 0 rfl) ?_
    refine lv_iload_n hx hb dX12_law_10 rfl (lv_at hl 1 rfl) ?_
    refine ez_cVpi (As := [.int x1]) (rest := []) h (fun _ q => c_X12_manyLegal q) hC k_X12_manyLegal ql_RX12_504 rfl (by decide) hS (fun _ q => ez_rcv q) rfl hl.1 rfl (Nat.le_of_ble_eq_true rfl) ⟨Nat.zero_le _, Nat.zero_le _⟩ dX12_law_11 (fun t_11 H locs hS h => ?_)
    refine lv_goto (tgt := 18) hx hb dX12_law_14 (by decide) ?_
    exact K_18  t_11 _ _ _ hS h (lv_sub hl [] rfl)
set_option maxHeartbeats 4000000 in
set_option maxRecDepth 100000 in
theorem c_X12_leftOver {l : Launch} {X : ez_X} {B : Nat} {σ : ez_H} {h0 : Nat} {x1 : Int32} {z : Int32 × ez_H} (h : z_X12_leftOver σ h0 x1 = some z) : ez_M l X B σ yX12_leftOver cX12_leftOver 5 (some .int) 3 [.ref (B + h0), .int x1] (some (.int z.1)) z.2 := by
  refine ez_starti (z := z) (by decide) (Nat.le_of_ble_eq_true rfl) (fun p e R s m args below meth c Q hC hret hS ls hl => ?_)
  have hC : ez_C p R s m args c X B RX12 cX12_leftOver 5 3 := hC
  have hx := hC.1.1
  have hb := hC.1.2.1
  have hown := hC.1.2.2.2.1
  have hts := hC.1.2.2.2.2
  have hl : lv_has ls 5 [(0, .ref (B + h0)), (1, .int x1)] := hl
  obtain ⟨σ0, eσ⟩ : ∃ σ0 : ez_H, σ0 = σ := ⟨_, rfl⟩
  rw [← eσ] at hret
  have hS : ez_S X B s.heap σ0.length σ s.heap [] := eσ ▸ hS
  obtain ⟨-, h⟩ := ez_in h
  have K_69 : ∀ (k_18 : ez_H → Nat → Int32 → Int32 → Int32 → Option (Int32 × ez_H)) (hk_18 : ∀ (σ : ez_H) (h0 : Nat) (x1 : Int32) (x2 : Int32) (x3 : Int32) (H : Heap) (locs : List Loc) (ls : Array Slot), ez_S X B s.heap (σ0.length) σ H locs → k_18 σ h0 x1 x2 x3 = some z → lv_has ls 5 [(0, .ref (B + h0)), (1, .int x1), (2, .int x2), (3, .int x3)] → W p l e R s m args below meth c H locs 0 0 Q (F0 m 18 ls [])), ∀ (σ : ez_H) (h0 : Nat) (x1 : Int32) (x2 : Int32) (x3 : Int32) (H : Heap) (locs : List Loc) (ls : Array Slot), ez_S X B s.heap (σ0.length) σ H locs → z_X12_leftOver_69 k_18 σ h0 x1 x2 x3 = some z → lv_has ls 5 [(0, .ref (B + h0)), (1, .int x1), (2, .int x2), (3, .int x3)] → W p l e R s m args below meth c H locs 0 0 Q (F0 m 69 ls []) := by
    intro k_18 hk_18 σ h0 x1 x2 x3 H locs ls hS h hl
    obtain ⟨t_69, e_69, h⟩ := ez_let_sp h
    refine lv_iinc (v := t_69) (lv' := [(3, .int t_69), (0, .ref (B + h0)), (1, .int x1), (2, .int x2)]) hx hb dX12_leftOver_69 hl (k := 3) rfl (by rw [e_69]; rfl) (by decide) rfl (fun ls hl => ?_)
    refine lv_goto (tgt := 18) hx hb dX12_leftOver_72 (by decide) ?_
    exact hk_18 σ h0 x1 x2 t_69 _ _ _ hS h (lv_sub hl [1, 2, 3, 0] rfl)
  have K_18 : ∀ (k_18 : ez_H → Nat → Int32 → Int32 → Int32 → Option (Int32 × ez_H)) (hk_18 : ∀ (σ : ez_H) (h0 : Nat) (x1 : Int32) (x2 : Int32) (x3 : Int32) (H : Heap) (locs : List Loc) (ls : Array Slot), ez_S X B s.heap (σ0.length) σ H locs → k_18 σ h0 x1 x2 x3 = some z → lv_has ls 5 [(0, .ref (B + h0)), (1, .int x1), (2, .int x2), (3, .int x3)] → W p l e R s m args below meth c H locs 0 0 Q (F0 m 18 ls [])), ∀ (σ : ez_H) (h0 : Nat) (x1 : Int32) (x2 : Int32) (x3 : Int32) (H : Heap) (locs : List Loc) (ls : Array Slot), ez_S X B s.heap (σ0.length) σ H locs → z_X12_leftOver_18 k_18 σ h0 x1 x2 x3 = some z → lv_has ls 5 [(0, .ref (B + h0)), (1, .int x1), (2, .int x2), (3, .int x3)] → W p l e R s m args below meth c H locs 0 0 Q (F0 m 18 ls []) := by
    intro k_18 hk_18 σ h0 x1 x2 x3 H locs ls hS h hl
    refine lv_iload_n hx hb dX12_leftOver_18 rfl (lv_at hl 3 rfl) ?_
    refine lv_aload_n hx hb dX12_leftOver_19 rfl (lv_at hl 0 rfl) ?_
    refine ez_cVpi (As := []) (rest := [.int x3]) h (fun _ q => c_X12_bolts q) hC k_X12_bolts ql_RX12_411 rfl (by decide) hS (fun _ q => ez_rcv q) rfl hl.1 rfl (Nat.le_of_ble_eq_true rfl) ⟨Nat.zero_le _, Nat.zero_le _⟩ dX12_leftOver_20 (fun t_20 H locs hS h => ?_)
    refine lv_icmp_ge (tgt := 75) hx hb dX12_leftOver_23 (by decide) (fun c_23 => ?_) (fun c_23 => ?_)
    · replace h := ez_ifp h c_23
      refine lv_aload_n hx hb dX12_leftOver_75 rfl (lv_at hl 0 rfl) ?_
      refine ez_cVv (As := []) (rest := []) h (fun _ q => c_X12_bringBack q) hC k_X12_bringBack ql_RX12_562 rfl (by decide) hS (fun _ q => ez_rcv q) rfl hl.1 rfl (Nat.le_of_ble_eq_true rfl) ⟨Nat.zero_le _, Nat.zero_le _⟩ dX12_leftOver_76 (fun _ σ H locs hS h => ?_)
      refine lv_iload_n hx hb dX12_leftOver_79 rfl (lv_at hl 2 rfl) ?_
      exact hret _ _ _ _ _ _ (Option.some.inj h) rfl hS dX12_leftOver_80
    · replace h := ez_ifn h c_23
      refine lv_aload_n hx hb dX12_leftOver_26 rfl (lv_at hl 0 rfl) ?_
      refine lv_iload_n hx hb dX12_leftOver_27 rfl (lv_at hl 3 rfl) ?_
      refine ez_cVpi (As := [.int x3]) (rest := []) h (fun _ q => c_X12_mustOf q) hC k_X12_mustOf ql_RX12_486 rfl (by decide) hS (fun _ q => ez_rcv q) rfl hl.1 rfl (Nat.le_of_ble_eq_true rfl) ⟨Nat.zero_le _, Nat.zero_le _⟩ dX12_leftOver_28 (fun t_28 H locs hS h => ?_)
      refine lv_iconst (v := 1) hx hb dX12_leftOver_31 (by decide) ?_
      refine lv_iload_n hx hb dX12_leftOver_32 rfl (lv_at hl 1 rfl) ?_
      refine lv_ishl hx hb dX12_leftOver_33 ?_
      refine ez_top h (fun t_33 h => ?_)
      refine lv_iconst (v := -1) hx hb dX12_leftOver_34 (by decide) ?_
      refine lv_ixor hx hb dX12_leftOver_35 ?_
      refine ez_top h (fun t_35 h => ?_)
      refine lv_iand hx hb dX12_leftOver_36 ?_
      refine ez_top h (fun t_36 h => ?_)
      refine lv_istore (lv' := [(4, .int t_36), (0, .ref (B + h0)), (1, .int x1), (2, .int x2), (3, .int x3)]) hx hb dX12_leftOver_37 hl (by decide) rfl (fun ls hl => ?_)
      refine lv_iload hx hb dX12_leftOver_39 (lv_at hl 0 rfl) ?_
      refine lv_if_ne (tgt := 47) hx hb dX12_leftOver_41 (by decide) (fun c_41 => ?_) (fun c_41 => ?_)
      · replace h := ez_ifn h c_41
        refine lv_aload_n hx hb dX12_leftOver_47 rfl (lv_at hl 1 rfl) ?_
        refine lv_iload_n hx hb dX12_leftOver_48 rfl (lv_at hl 4 rfl) ?_
        refine lv_iload hx hb dX12_leftOver_49 (lv_at hl 0 rfl) ?_
        refine ez_cVv (As := [.int x3, .int t_36]) (rest := []) h (fun _ q => c_X12_pinFor q) hC k_X12_pinFor ql_RX12_550 rfl (by decide) hS (fun _ q => ez_rcv q) rfl hl.1 rfl (Nat.le_of_ble_eq_true rfl) ⟨Nat.zero_le _, Nat.zero_le _⟩ dX12_leftOver_51 (fun _ σ H locs hS h => ?_)
        refine lv_aload_n hx hb dX12_leftOver_54 rfl (lv_at hl 1 rfl) ?_
        refine lv_iload_n hx hb dX12_leftOver_55 rfl (lv_at hl 2 rfl) ?_
        refine lv_iload_n hx hb dX12_leftOver_56 rfl (lv_at hl 4 rfl) ?_
        refine ez_cVpi (As := [.int x1, .int x3]) (rest := []) h (fun _ q => c_X12_opensBy q) hC k_X12_opensBy ql_RX12_474 rfl (by decide) hS (fun _ q => ez_rcv q) rfl hl.1 rfl (Nat.le_of_ble_eq_true rfl) ⟨Nat.zero_le _, Nat.zero_le _⟩ dX12_leftOver_57 (fun t_57 H locs hS h => ?_)
        refine lv_if_eq (tgt := 69) hx hb dX12_leftOver_60 (by decide) (fun c_60 => ?_) (fun c_60 => ?_)
        · replace h := ez_ifp h c_60
          exact K_69 k_18 hk_18 σ h0 x1 x2 x3 _ _ _ hS h (lv_sub hl [1, 2, 3, 4] rfl)
        · replace h := ez_ifn h c_60
          refine lv_iload_n hx hb dX12_leftOver_63 rfl (lv_at hl 3 rfl) ?_
          refine lv_iconst (v := 1) hx hb dX12_leftOver_64 (by decide) ?_
          refine lv_iload_n hx hb dX12_leftOver_65 rfl (lv_at hl 4 rfl) ?_
          refine lv_ishl hx hb dX12_leftOver_66 ?_
          refine ez_top h (fun t_66 h => ?_)
          refine lv_ior hx hb dX12_leftOver_67 ?_
          refine ez_top h (fun t_67 h => ?_)
          refine lv_istore_n (lv' := [(2, .int t_67), (4, .int t_36), (0, .ref (B + h0)), (1, .int x1), (3, .int x3)]) hx hb dX12_leftOver_68 rfl hl (by decide) rfl (fun ls hl => ?_)
          exact K_69 k_18 hk_18 σ h0 x1 t_67 x3 _ _ _ hS h (lv_sub hl [2, 3, 0, 4] rfl)
      · replace h := ez_ifp h c_41
        refine lv_goto (tgt := 69) hx hb dX12_leftOver_44 (by decide) ?_
        exact K_69 k_18 hk_18 σ h0 x1 x2 x3 _ _ _ hS h (lv_sub hl [1, 2, 3, 4] rfl)
  have E_18 : ∀ (σ : ez_H) (h0 : Nat) (x1 : Int32) (x2 : Int32) (x3 : Int32) (H : Heap) (locs : List Loc) (ls : Array Slot), ez_S X B s.heap (σ0.length) σ H locs → (ez_fix (fun _ _ _ _ _ => none) (z_X12_leftOver_18) ez_N) σ h0 x1 x2 x3 = some z → lv_has ls 5 [(0, .ref (B + h0)), (1, .int x1), (2, .int x2), (3, .int x3)] → W p l e R s m args below meth c H locs 0 0 Q (F0 m 18 ls []) := ez_fix_ind (fun k_18 : ez_H → Nat → Int32 → Int32 → Int32 → Option (Int32 × ez_H) => ∀ (σ : ez_H) (h0 : Nat) (x1 : Int32) (x2 : Int32) (x3 : Int32) (H : Heap) (locs : List Loc) (ls : Array Slot), ez_S X B s.heap (σ0.length) σ H locs → k_18 σ h0 x1 x2 x3 = some z → lv_has ls 5 [(0, .ref (B + h0)), (1, .int x1), (2, .int x2), (3, .int x3)] → W p l e R s m args below meth c H locs 0 0 Q (F0 m 18 ls [])) (fun _ _ _ _ _ _ _ _ _ h _ => by cases h) (fun k_18 hk_18 => K_18 k_18 hk_18) ez_N
  refine lv_aload_n hx hb dX12_leftOver_0 rfl (lv_at hl 0 rfl) ?_
  refine lv_iload_n hx hb dX12_leftOver_1 rfl (lv_at hl 1 rfl) ?_
  refine ez_cVpi (As := [.int x1]) (rest := []) h (fun _ q => c_X12_isKey q) hC k_X12_isKey ql_RX12_462 rfl (by decide) hS (fun _ q => ez_rcv q) rfl hl.1 rfl (Nat.le_of_ble_eq_true rfl) ⟨Nat.zero_le _, Nat.zero_le _⟩ dX12_leftOver_2 (fun t_2 H locs hS h => ?_)
  refine lv_if_ne (tgt := 10) hx hb dX12_leftOver_5 (by decide) (fun c_5 => ?_) (fun c_5 => ?_)
  · replace h := ez_ifn h c_5
    refine lv_aload_n hx hb dX12_leftOver_10 rfl (lv_at hl 0 rfl) ?_
    refine ez_cVv (As := []) (rest := []) h (fun _ q => c_X12_keepNow q) hC k_X12_keepNow ql_RX12_553 rfl (by decide) hS (fun _ q => ez_rcv q) rfl hl.1 rfl (Nat.le_of_ble_eq_true rfl) ⟨Nat.zero_le _, Nat.zero_le _⟩ dX12_leftOver_11 (fun _ σ H locs hS h => ?_)
    refine lv_iconst (v := 0) hx hb dX12_leftOver_14 (by decide) ?_
    refine lv_istore_n (lv' := [(2, .int 0), (0, .ref (B + h0)), (1, .int x1)]) hx hb dX12_leftOver_15 rfl hl (by decide) rfl (fun ls hl => ?_)
    refine lv_iconst (v := 0) hx hb dX12_leftOver_16 (by decide) ?_
    refine lv_istore_n (lv' := [(3, .int 0), (2, .int 0), (0, .ref (B + h0)), (1, .int x1)]) hx hb dX12_leftOver_17 rfl hl (by decide) rfl (fun ls hl => ?_)
    exact E_18  σ h0 x1 (0 : Int32) (0 : Int32) _ _ _ hS h (lv_sub hl [2, 3, 1, 0] rfl)
  · replace h := ez_ifp h c_5
    refine lv_iconst (v := -1) hx hb dX12_leftOver_8 (by decide) ?_
    exact hret _ _ _ _ _ _ (Option.some.inj h) rfl hS dX12_leftOver_9
set_option maxHeartbeats 4000000 in
set_option maxRecDepth 100000 in
theorem c_X12_legal {l : Launch} {X : ez_X} {B : Nat} {σ : ez_H} {h0 : Nat} {z : Int32} (h : z_X12_legal σ h0 = some z) : ez_M l X B σ yX12_legal cX12_legal 1 (some .int) 3 [.ref (B + h0)] (some (.int z)) σ := by
  refine ez_startip (z := z) (by decide) (Nat.le_of_ble_eq_true rfl) (fun p e R s m args below meth c Q hC hret hS ls hl => ?_)
  have hC : ez_C p R s m args c X B RX12 cX12_legal 1 3 := hC
  have hx := hC.1.1
  have hb := hC.1.2.1
  have hown := hC.1.2.2.2.1
  have hts := hC.1.2.2.2.2
  have hl : lv_has ls 1 [(0, .ref (B + h0))] := hl
  obtain ⟨n0, e0⟩ : ∃ n0 : Nat, n0 = σ.length := ⟨_, rfl⟩
  rw [← e0] at hret hS
  obtain ⟨-, h⟩ := ez_in h
  refine lv_aload_n hx hb dX12_legal_0 rfl (lv_at hl 0 rfl) ?_
  refine lv_aload_n hx hb dX12_legal_1 rfl (lv_at hl 0 rfl) ?_
  refine eg_RX12_27 hC hS h dX12_legal_2 (fun t_2 h => ?_)
  refine lv_aload_n hx hb dX12_legal_5 rfl (lv_at hl 0 rfl) ?_
  refine eg_RX12_274 hC hS h dX12_legal_6 (fun t_6 h => ?_)
  refine ez_ial hC hS h dX12_legal_9 (fun t_9 h => ?_)
  refine ez_cVpi (As := [.int t_9]) (rest := []) h (fun _ q => c_X12_manyLegal q) hC k_X12_manyLegal ql_RX12_504 rfl (by decide) hS (fun _ q => ez_rcv q) rfl hl.1 rfl (Nat.le_of_ble_eq_true rfl) ⟨Nat.zero_le _, Nat.zero_le _⟩ dX12_legal_10 (fun t_10 H locs hS h => ?_)
  exact hret _ _ _ _ _ (Option.some.inj h) rfl hS dX12_legal_13
set_option maxHeartbeats 4000000 in
set_option maxRecDepth 100000 in
theorem c_X12_lies {l : Launch} {X : ez_X} {B : Nat} {σ : ez_H} {h0 : Nat} {x1 : Int32} {z : Int32} (h : z_X12_lies σ h0 x1 = some z) : ez_M l X B σ yX12_lies cX12_lies 2 (some .int) 1 [.ref (B + h0), .int x1] (some (.int z)) σ := by
  refine ez_startip (z := z) (by decide) (Nat.le_of_ble_eq_true rfl) (fun p e R s m args below meth c Q hC hret hS ls hl => ?_)
  have hC : ez_C p R s m args c X B RX12 cX12_lies 2 1 := hC
  have hx := hC.1.1
  have hb := hC.1.2.1
  have hown := hC.1.2.2.2.1
  have hts := hC.1.2.2.2.2
  have hl : lv_has ls 2 [(0, .ref (B + h0)), (1, .int x1)] := hl
  obtain ⟨n0, e0⟩ : ∃ n0 : Nat, n0 = σ.length := ⟨_, rfl⟩
  rw [← e0] at hret hS
  obtain ⟨-, h⟩ := ez_in h
  have K_25 : ∀ (y0 : Int32) (H : Heap) (locs : List Loc) (ls : Array Slot), ez_S X B s.heap (n0) σ H locs → z_X12_lies_25 σ y0 = some z → lv_has ls 2 [] → W p l e R s m args below meth c H locs 0 0 Q (F0 m 25 ls [.int y0]) := by
    intro y0 H locs ls hS h hl
    exact hret _ _ _ _ _ (Option.some.inj h) rfl hS dX12_lies_25
  refine lv_iload_n hx hb dX12_lies_0 rfl (lv_at hl 1 rfl) ?_
  refine lv_iconst (v := 0) hx hb dX12_lies_1 (by decide) ?_
  refine lv_aload_n hx hb dX12_lies_2 rfl (lv_at hl 0 rfl) ?_
  refine eg_RX12_426 hC hS h dX12_lies_3 (fun t_3 h => ?_)
  refine lv_iconst (v := 1) hx hb dX12_lies_6 (by decide) ?_
  refine lv_isub hx hb dX12_lies_7 ?_
  refine ez_top h (fun t_7 h => ?_)
  refine ez_cSpi (As := [.int x1, .int 0, .int t_7]) (rest := []) h (fun _ q => c_X12_isIn q) hC k_X12_isIn ql_RX12_407 rfl (by decide) hS hl.1 rfl (Nat.le_of_ble_eq_true rfl) ⟨Nat.zero_le _, Nat.zero_le _⟩ dX12_lies_8 (fun t_8 H locs hS h => ?_)
  refine lv_if_eq (tgt := 23) hx hb dX12_lies_11 (by decide) (fun c_11 => ?_) (fun c_11 => ?_)
  · replace h := ez_ifp h c_11
    refine lv_bipush (v := -2) hx hb dX12_lies_23 (by decide) ?_
    exact K_25  (-2 : Int32) _ _ _ hS h (lv_sub hl [] rfl)
  · replace h := ez_ifn h c_11
    refine lv_aload_n hx hb dX12_lies_14 rfl (lv_at hl 0 rfl) ?_
    refine eg_RX12_127 hC hS h dX12_lies_15 (fun t_15 h => ?_)
    refine lv_iload_n hx hb dX12_lies_18 rfl (lv_at hl 1 rfl) ?_
    refine ez_ial hC hS h dX12_lies_19 (fun t_19 h => ?_)
    refine lv_goto (tgt := 25) hx hb dX12_lies_20 (by decide) ?_
    exact K_25  t_19 _ _ _ hS h (lv_sub hl [] rfl)
