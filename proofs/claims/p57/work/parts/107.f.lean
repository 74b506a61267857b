set_option maxHeartbeats 4000000 in
set_option maxRecDepth 100000 in
theorem c_X7_putHolder {l : Launch} {X : ez_X} {B : Nat} {σ : ez_H} {h0 : Nat} {x1 : Int32} {x2 : Int32} {z : Unit × ez_H} (h : z_X7_putHolder σ h0 x1 x2 = some z) : ez_M l X B σ yX7_putHolder cX7_putHolder 3 (none) 1 [.ref (B + h0), .int x1, .int x2] (none) z.2 := by
  refine ez_startv (z := z) (by decide) (Nat.le_of_ble_eq_true rfl) (fun p e R s m args below meth c Q hC hret hS ls hl => ?_)
  have hC : ez_C p R s m args c X B RX7 cX7_putHolder 3 1 := hC
  have hx := hC.1.1
  have hb := hC.1.2.1
  have hown := hC.1.2.2.2.1
  have hts := hC.1.2.2.2.2
  have hl : lv_has ls 3 [(0, .ref (B + h0)), (1, .int x1), (2, .int x2)] := hl
  obtain ⟨σ0, eσ⟩ : ∃ σ0 : ez_H, σ0 = σ := ⟨_, rfl⟩
  rw [← eσ] at hret
  have hS : ez_S X B s.heap σ0.length σ s.heap [] := eσ ▸ hS
  obtain ⟨-, h⟩ := ez_in h
  refine lv_aload_n hx hb dX7_putHolder_0 rfl (lv_at hl 0 rfl) ?_
  refine lv_bipush (v := 16) hx hb dX7_putHolder_1 (by decide) ?_
  refine lv_iload_n hx hb dX7_putHolder_3 rfl (lv_at hl 1 rfl) ?_
  refine lv_iadd hx hb dX7_putHolder_4 ?_
  refine ez_top h (fun t_4 h => ?_)
  refine lv_iload_n hx hb dX7_putHolder_5 rfl (lv_at hl 2 rfl) ?_
  refine ez_cVv (As := [.int t_4, .int x2]) (rest := []) h (fun _ q => c_X7_put q) hC k_X7_put ql_RX7_31 rfl (by decide) hS (fun _ q => ez_rcv q) rfl hl.1 rfl (Nat.le_of_ble_eq_true rfl) ⟨Nat.zero_le _, Nat.zero_le _⟩ dX7_putHolder_6 (fun _ σ H locs hS h => ?_)
  exact hret _ _ _ _ _ _ (Option.some.inj h) hS dX7_putHolder_9
set_option maxHeartbeats 4000000 in
set_option maxRecDepth 100000 in
theorem c_X11_handOver {l : Launch} {X : ez_X} {B : Nat} {σ : ez_H} {h0 : Nat} {x1 : Int32} {x2 : Int32} {z : Int32 × ez_H} (h : z_X11_handOver σ h0 x1 x2 = some z) : ez_M l X B σ yX11_handOver cX11_handOver 4 (some .int) 3 [.ref (B + h0), .int x1, .int x2] (some (.int z.1)) z.2 := by
  refine ez_starti (z := z) (by decide) (Nat.le_of_ble_eq_true rfl) (fun p e R s m args below meth c Q hC hret hS ls hl => ?_)
  have hC : ez_C p R s m args c X B RX11 cX11_handOver 4 3 := hC
  have hx := hC.1.1
  have hb := hC.1.2.1
  have hown := hC.1.2.2.2.1
  have hts := hC.1.2.2.2.2
  have hl : lv_has ls 4 [(0, .ref (B + h0)), (1, .int x1), (2, .int x2)] := hl
  obtain ⟨σ0, eσ⟩ : ∃ σ0 : ez_H, σ0 = σ := ⟨_, rfl⟩
  rw [← eσ] at hret
  have hS : ez_S X B s.heap σ0.length σ s.heap [] := eσ ▸ hS
  obtain ⟨-, h⟩ := ez_in h
  refine lv_aload_n hx hb dX11_handOver_0 rfl (lv_at hl 0 rfl) ?_
  refine eg_RX11_41 hC hS h dX11_handOver_1 (fun t_1 h => ?_)
  refine lv_iload_n hx hb dX11_handOver_4 rfl (lv_at hl 1 rfl) ?_
  refine ez_cVpi (As := [.int x1]) (rest := []) h (fun _ q => c_X7_holder q) hC k_X7_holder ql_RX11_152 rfl (by decide) hS (fun _ q => ez_rcv q) rfl hl.1 rfl (Nat.le_of_ble_eq_true rfl) ⟨Nat.zero_le _, Nat.zero_le _⟩ dX11_handOver_5 (fun t_5 H locs hS h => ?_)
  refine lv_istore_n (lv' := [(3, .int t_5), (0, .ref (B + h0)), (1, .int x1), (2, .int x2)]) hx hb dX11_handOver_8 rfl hl (by decide) rfl (fun ls hl => ?_)
  refine lv_aload_n hx hb dX11_handOver_9 rfl (lv_at hl 1 rfl) ?_
  refine eg_RX11_51 hC hS h dX11_handOver_10 (fun t_10 h => ?_)
  refine lv_aload_n hx hb dX11_handOver_13 rfl (lv_at hl 1 rfl) ?_
  refine eg_RX11_41 hC hS h dX11_handOver_14 (fun t_14 h => ?_)
  refine ez_cVv (As := [.ref (B + t_14)]) (rest := []) h (fun _ q => c_X1_keep q) hC k_X1_keep ql_RX11_222 rfl (by decide) hS (fun _ q => ez_rcv q) rfl hl.1 rfl (Nat.le_of_ble_eq_true rfl) ⟨Nat.zero_le _, Nat.zero_le _⟩ dX11_handOver_17 (fun _ σ H locs hS h => ?_)
  refine lv_aload_n hx hb dX11_handOver_20 rfl (lv_at hl 1 rfl) ?_
  refine eg_RX11_41 hC hS h dX11_handOver_21 (fun t_21 h => ?_)
  refine lv_iload_n hx hb dX11_handOver_24 rfl (lv_at hl 2 rfl) ?_
  refine lv_iload_n hx hb dX11_handOver_25 rfl (lv_at hl 3 rfl) ?_
  refine ez_cVv (As := [.int x1, .int x2]) (rest := []) h (fun _ q => c_X7_putHolder q) hC k_X7_putHolder ql_RX11_276 rfl (by decide) hS (fun _ q => ez_rcv q) rfl hl.1 rfl (Nat.le_of_ble_eq_true rfl) ⟨Nat.zero_le _, Nat.zero_le _⟩ dX11_handOver_26 (fun _ σ H locs hS h => ?_)
  refine lv_iload_n hx hb dX11_handOver_29 rfl (lv_at hl 0 rfl) ?_
  exact hret _ _ _ _ _ _ (Option.some.inj h) rfl hS dX11_handOver_30
set_option maxHeartbeats 4000000 in
set_option maxRecDepth 100000 in
theorem c_X11_find {l : Launch} {X : ez_X} {B : Nat} {σ : ez_H} {h0 : Nat} {x1 : Int32} {x2 : Int32} {z : Int32 × ez_H} (h : z_X11_find σ h0 x1 x2 = some z) : ez_M l X B σ yX11_find cX11_find 3 (some .int) 4 [.ref (B + h0), .int x1, .int x2] (some (.int z.1)) z.2 := by
  refine ez_starti (z := z) (by decide) (Nat.le_of_ble_eq_true rfl) (fun p e R s m args below meth c Q hC hret hS ls hl => ?_)
  have hC : ez_C p R s m args c X B RX11 cX11_find 3 4 := hC
  have hx := hC.1.1
  have hb := hC.1.2.1
  have hown := hC.1.2.2.2.1
  have hts := hC.1.2.2.2.2
  have hl : lv_has ls 3 [(0, .ref (B + h0)), (1, .int x1), (2, .int x2)] := hl
  obtain ⟨σ0, eσ⟩ : ∃ σ0 : ez_H, σ0 = σ := ⟨_, rfl⟩
  rw [← eσ] at hret
  have hS : ez_S X B s.heap σ0.length σ s.heap [] := eσ ▸ hS
  obtain ⟨-, h⟩ := ez_in h
  have K_35 : ∀ (σ : ez_H) (H : Heap) (locs : List Loc) (ls : Array Slot), ez_S X B s.heap (σ0.length) σ H locs → z_X11_find_35 σ = some z → lv_has ls 3 [] → W p l e R s m args below meth c H locs 0 0 Q (F0 m 35 ls []) := by
    intro σ H locs ls hS h hl
    refine lv_iconst (v := -1) hx hb dX11_find_35 (by decide) ?_
    exact hret _ _ _ _ _ _ (Option.some.inj h) rfl hS dX11_find_36
  refine lv_aload_n hx hb dX11_find_0 rfl (lv_at hl 0 rfl) ?_
  refine eg_RX11_29 hC hS h dX11_find_1 (fun t_1 h => ?_)
  refine lv_iload_n hx hb dX11_find_4 rfl (lv_at hl 1 rfl) ?_
  refine ez_cVpi (As := [.int x1]) (rest := []) h (fun _ q => c_X3_hasKey q) hC k_X3_hasKey ql_RX11_137 rfl (by decide) hS (fun _ q => ez_rcv q) rfl hl.1 rfl (Nat.le_of_ble_eq_true rfl) ⟨Nat.zero_le _, Nat.zero_le _⟩ dX11_find_5 (fun t_5 H locs hS h => ?_)
  refine lv_if_eq (tgt := 35) hx hb dX11_find_8 (by decide) (fun c_8 => ?_) (fun c_8 => ?_)
  · replace h := ez_ifp h c_8
    exact K_35  σ _ _ _ hS h (lv_sub hl [] rfl)
  · replace h := ez_ifn h c_8
    refine lv_aload_n hx hb dX11_find_11 rfl (lv_at hl 0 rfl) ?_
    refine eg_RX11_29 hC hS h dX11_find_12 (fun t_12 h => ?_)
    refine lv_iload_n hx hb dX11_find_15 rfl (lv_at hl 2 rfl) ?_
    refine ez_cVpi (As := [.int x2]) (rest := []) h (fun _ q => c_X3_hasPerson q) hC k_X3_hasPerson ql_RX11_200 rfl (by decide) hS (fun _ q => ez_rcv q) rfl hl.1 rfl (Nat.le_of_ble_eq_true rfl) ⟨Nat.zero_le _, Nat.zero_le _⟩ dX11_find_16 (fun t_16 H locs hS h => ?_)
    refine lv_if_eq (tgt := 35) hx hb dX11_find_19 (by decide) (fun c_19 => ?_) (fun c_19 => ?_)
    · replace h := ez_ifp h c_19
      exact K_35  σ _ _ _ hS h (lv_sub hl [] rfl)
    · replace h := ez_ifn h c_19
      refine lv_aload_n hx hb dX11_find_22 rfl (lv_at hl 0 rfl) ?_
      refine eg_RX11_41 hC hS h dX11_find_23 (fun t_23 h => ?_)
      refine lv_iload_n hx hb dX11_find_26 rfl (lv_at hl 1 rfl) ?_
      refine ez_cVpi (As := [.int x1]) (rest := []) h (fun _ q => c_X7_holder q) hC k_X7_holder ql_RX11_152 rfl (by decide) hS (fun _ q => ez_rcv q) rfl hl.1 rfl (Nat.le_of_ble_eq_true rfl) ⟨Nat.zero_le _, Nat.zero_le _⟩ dX11_find_27 (fun t_27 H locs hS h => ?_)
      refine lv_bipush (v := -2) hx hb dX11_find_30 (by decide) ?_
      refine lv_icmp_eq (tgt := 37) hx hb dX11_find_32 (by decide) (fun c_32 => ?_) (fun c_32 => ?_)
      · replace h := ez_ifp h c_32
        refine lv_aload_n hx hb dX11_find_37 rfl (lv_at hl 0 rfl) ?_
        refine lv_iload_n hx hb dX11_find_38 rfl (lv_at hl 1 rfl) ?_
        refine lv_iload_n hx hb dX11_find_39 rfl (lv_at hl 2 rfl) ?_
        refine ez_cVi (As := [.int x1, .int x2]) (rest := []) h (fun _ q => c_X11_handOver q) hC k_X11_handOver ql_RX11_273 rfl (by decide) hS (fun _ q => ez_rcv q) rfl hl.1 rfl (Nat.le_of_ble_eq_true rfl) ⟨Nat.zero_le _, Nat.zero_le _⟩ dX11_find_40 (fun t_40 σ H locs hS h => ?_)
        refine lv_pop hx hb dX11_find_43 rfl ?_
        refine lv_aload_n hx hb dX11_find_44 rfl (lv_at hl 0 rfl) ?_
        refine eg_RX11_41 hC hS h dX11_find_45 (fun t_45 h => ?_)
        refine lv_iload_n hx hb dX11_find_48 rfl (lv_at hl 2 rfl) ?_
        refine lv_aload_n hx hb dX11_find_49 rfl (lv_at hl 0 rfl) ?_
        refine eg_RX11_29 hC hS h dX11_find_50 (fun t_50 h => ?_)
        refine eg_RX11_128 hC hS h dX11_find_53 (fun t_53 h => ?_)
        refine ez_cVpi (As := [.int x2, .int t_53]) (rest := []) h (fun _ q => c_X7_heldBy q) hC k_X7_heldBy ql_RX11_206 rfl (by decide) hS (fun _ q => ez_rcv q) rfl hl.1 rfl (Nat.le_of_ble_eq_true rfl) ⟨Nat.zero_le _, Nat.zero_le _⟩ dX11_find_56 (fun t_56 H locs hS h => ?_)
        refine ez_cSpi (As := [.int t_56]) (rest := []) h (fun _ q => c_J6_bitCount_0f7a4 q) hC k_J6_bitCount_0f7a4 ql_RX11_171 rfl (by decide) hS hl.1 rfl (Nat.le_of_ble_eq_true rfl) ⟨Nat.zero_le _, Nat.zero_le _⟩ dX11_find_59 (fun t_59 H locs hS h => ?_)
        exact hret _ _ _ _ _ _ (Option.some.inj h) rfl hS dX11_find_62
      · replace h := ez_ifn h c_32
        exact K_35  σ _ _ _ hS h (lv_sub hl [] rfl)
set_option maxHeartbeats 4000000 in
set_option maxRecDepth 100000 in
theorem c_X7_firstWith {l : Launch} {X : ez_X} {B : Nat} {σ : ez_H} {h0 : Nat} {x1 : Int32} {x2 : Int32} {z : Int32} (h : z_X7_firstWith σ h0 x1 x2 = some z) : ez_M l X B σ yX7_firstWith cX7_firstWith 4 (some .int) 2 [.ref (B + h0), .int x1, .int x2] (some (.int z)) σ := by
  refine ez_startip (z := z) (by decide) (Nat.le_of_ble_eq_true rfl) (fun p e R s m args below meth c Q hC hret hS ls hl => ?_)
  have hC : ez_C p R s m args c X B RX7 cX7_firstWith 4 2 := hC
  have hx := hC.1.1
  have hb := hC.1.2.1
  have hown := hC.1.2.2.2.1
  have hts := hC.1.2.2.2.2
  have hl : lv_has ls 4 [(0, .ref (B + h0)), (1, .int x1), (2, .int x2)] := hl
  obtain ⟨n0, e0⟩ : ∃ n0 : Nat, n0 = σ.length := ⟨_, rfl⟩
  rw [← e0] at hret hS
  obtain ⟨-, h⟩ := ez_in h
  have K_30 : ∀ (H : Heap) (locs : List Loc) (ls : Array Slot), ez_S X B s.heap (n0) σ H locs → z_X7_firstWith_30 σ = some z → lv_has ls 4 [] → W p l e R s m args below meth c H locs 0 0 Q (F0 m 30 ls []) := by
    intro  H locs ls hS h hl
    refine lv_iconst (v := -1) hx hb dX7_firstWith_30 (by decide) ?_
    exact hret _ _ _ _ _ (Option.some.inj h) rfl hS dX7_firstWith_31
  have K_2 : ∀ (k_2 : Nat → Int32 → Int32 → Int32 → Option (Int32)) (hk_2 : ∀ (h0 : Nat) (x1 : Int32) (x2 : Int32) (x3 : Int32) (H : Heap) (locs : List Loc) (ls : Array Slot), ez_S X B s.heap (n0) σ H locs → k_2 h0 x1 x2 x3 = some z → lv_has ls 4 [(0, .ref (B + h0)), (1, .int x1), (2, .int x2), (3, .int x3)] → W p l e R s m args below meth c H locs 0 0 Q (F0 m 2 ls [])), ∀ (h0 : Nat) (x1 : Int32) (x2 : Int32) (x3 : Int32) (H : Heap) (locs : List Loc) (ls : Array Slot), ez_S X B s.heap (n0) σ H locs → z_X7_firstWith_2 σ k_2 h0 x1 x2 x3 = some z → lv_has ls 4 [(0, .ref (B + h0)), (1, .int x1), (2, .int x2), (3, .int x3)] → W p l e R s m args below meth c H locs 0 0 Q (F0 m 2 ls []) := by
    intro k_2 hk_2 h0 x1 x2 x3 H locs ls hS h hl
    refine lv_iload_n hx hb dX7_firstWith_2 rfl (lv_at hl 3 rfl) ?_
    refine lv_iload_n hx hb dX7_firstWith_3 rfl (lv_at hl 2 rfl) ?_
    refine lv_icmp_ge (tgt := 30) hx hb dX7_firstWith_4 (by decide) (fun c_4 => ?_) (fun c_4 => ?_)
    · replace h := ez_ifp h c_4
      exact K_30   _ _ _ hS h (lv_sub hl [] rfl)
    · replace h := ez_ifn h c_4
      refine lv_iload_n hx hb dX7_firstWith_7 rfl (lv_at hl 3 rfl) ?_
      refine lv_bipush (v := 8) hx hb dX7_firstWith_8 (by decide) ?_
      refine lv_icmp_ge (tgt := 30) hx hb dX7_firstWith_10 (by decide) (fun c_10 => ?_) (fun c_10 => ?_)
      · replace h := ez_ifp h c_10
        exact K_30   _ _ _ hS h (lv_sub hl [] rfl)
      · replace h := ez_ifn h c_10
        refine lv_aload_n hx hb dX7_firstWith_13 rfl (lv_at hl 0 rfl) ?_
        refine lv_iload_n hx hb dX7_firstWith_14 rfl (lv_at hl 3 rfl) ?_
        refine ez_cVpi (As := [.int x3]) (rest := []) h (fun _ q => c_X7_bits q) hC k_X7_bits ql_RX7_38 rfl (by decide) hS (fun _ q => ez_rcv q) rfl hl.1 rfl (Nat.le_of_ble_eq_true rfl) ⟨Nat.zero_le _, Nat.zero_le _⟩ dX7_firstWith_15 (fun t_15 H locs hS h => ?_)
        refine lv_iload_n hx hb dX7_firstWith_18 rfl (lv_at hl 1 rfl) ?_
        refine lv_icmp_ne (tgt := 24) hx hb dX7_firstWith_19 (by decide) (fun c_19 => ?_) (fun c_19 => ?_)
        · replace h := ez_ifn h c_19
          obtain ⟨t_24, e_24, h⟩ := ez_let_sp h
          refine lv_iinc (v := t_24) (lv' := [(3, .int t_24), (0, .ref (B + h0)), (1, .int x1), (2, .int x2)]) hx hb dX7_firstWith_24 hl (k := 3) rfl (by rw [e_24]; rfl) (by decide) rfl (fun ls hl => ?_)
          refine lv_goto (tgt := 2) hx hb dX7_firstWith_27 (by decide) ?_
          exact hk_2 h0 x1 x2 t_24 _ _ _ hS h (lv_sub hl [1, 2, 3, 0] rfl)
        · replace h := ez_ifp h c_19
          refine lv_iload_n hx hb dX7_firstWith_22 rfl (lv_at hl 3 rfl) ?_
          exact hret _ _ _ _ _ (Option.some.inj h) rfl hS dX7_firstWith_23
  have E_2 : ∀ (h0 : Nat) (x1 : Int32) (x2 : Int32) (x3 : Int32) (H : Heap) (locs : List Loc) (ls : Array Slot), ez_S X B s.heap (n0) σ H locs → (ez_fix (fun _ _ _ _ => none) (z_X7_firstWith_2 σ) ez_N) h0 x1 x2 x3 = some z → lv_has ls 4 [(0, .ref (B + h0)), (1, .int x1), (2, .int x2), (3, .int x3)] → W p l e R s m args below meth c H locs 0 0 Q (F0 m 2 ls []) := ez_fix_ind (fun k_2 : Nat → Int32 → Int32 → Int32 → Option (Int32) => ∀ (h0 : Nat) (x1 : Int32) (x2 : Int32) (x3 : Int32) (H : Heap) (locs : List Loc) (ls : Array Slot), ez_S X B s.heap (n0) σ H locs → k_2 h0 x1 x2 x3 = some z → lv_has ls 4 [(0, .ref (B + h0)), (1, .int x1), (2, .int x2), (3, .int x3)] → W p l e R s m args below meth c H locs 0 0 Q (F0 m 2 ls [])) (fun _ _ _ _ _ _ _ _ h _ => by cases h) (fun k_2 hk_2 => K_2 k_2 hk_2) ez_N
  refine lv_iconst (v := 0) hx hb dX7_firstWith_0 (by decide) ?_
  refine lv_istore_n (lv' := [(3, .int 0), (0, .ref (B + h0)), (1, .int x1), (2, .int x2)]) hx hb dX7_firstWith_1 rfl hl (by decide) rfl (fun ls hl => ?_)
  exact E_2  h0 x1 x2 (0 : Int32) _ _ _ hS h (lv_sub hl [1, 2, 3, 0] rfl)
set_option maxHeartbeats 4000000 in
set_option maxRecDepth 100000 in
theorem c_X11_cutAhead {l : Launch} {X : ez_X} {B : Nat} {σ : ez_H} {h0 : Nat} {x1 : Int32} {x2 : Int32} {z : Int32} (h : z_X11_cutAhead σ h0 x1 x2 = some z) : ez_M l X B σ yX11_cutAhead cX11_cutAhead 7 (some .int) 3 [.ref (B + h0), .int x1, .int x2] (some (.int z)) σ := by
  refine ez_startip (z := z) (by decide) (Nat.le_of_ble_eq_true rfl) (fun p e R s m args below meth c Q hC hret hS ls hl => ?_)
  have hC : ez_C p R s m args c X B RX11 cX11_cutAhead 7 3 := hC
  have hx := hC.1.1
  have hb := hC.1.2.1
  have hown := hC.1.2.2.2.1
  have hts := hC.1.2.2.2.2
  have hl : lv_has ls 7 [(0, .ref (B + h0)), (1, .int x1), (2, .int x2)] := hl
  obtain ⟨n0, e0⟩ : ∃ n0 : Nat, n0 = σ.length := ⟨_, rfl⟩
  rw [← e0] at hret hS
  obtain ⟨-, h⟩ := ez_in h
  have K_86 : ∀ (k_5 : Nat → Int32 → Int32 → Int32 → Int32 → Option (Int32)) (hk_5 : ∀ (h0 : Nat) (x1 : Int32) (x2 : Int32) (x3 : Int32) (x4 : Int32) (H : Heap) (locs : List Loc) (ls : Array Slot), ez_S X B s.heap (n0) σ H locs → k_5 h0 x1 x2 x3 x4 = some z → lv_has ls 7 [(0, .ref (B + h0)), (1, .int x1), (2, .int x2), (3, .int x3), (4, .int x4)] → W p l e R s m args below meth c H locs 0 0 Q (F0 m 5 ls [])), ∀ (h0 : Nat) (x1 : Int32) (x2 : Int32) (x3 : Int32) (x4 : Int32) (H : Heap) (locs : List Loc) (ls : Array Slot), ez_S X B s.heap (n0) σ H locs → z_X11_cutAhead_86 σ k_5 h0 x1 x2 x3 x4 = some z → lv_has ls 7 [(0, .ref (B + h0)), (1, .int x1), (2, .int x2), (3, .int x3), (4, .int x4)] → W p l e R s m args below meth c H locs 0 0 Q (F0 m 86 ls []) := by
    intro k_5 hk_5 h0 x1 x2 x3 x4 H locs ls hS h hl
    obtain ⟨t_86, e_86, h⟩ := ez_let_sp h
    refine lv_iinc (v := t_86) (lv' := [(4, .int t_86), (0, .ref (B + h0)), (1, .int x1), (2, .int x2), (3, .int x3)]) hx hb dX11_cutAhead_86 hl (k := 4) rfl (by rw [e_86]; rfl) (by decide) rfl (fun ls hl => ?_)
    refine lv_goto (tgt := 5) hx hb dX11_cutAhead_89 (by decide) ?_
    exact hk_5 h0 x1 x2 x3 t_86 _ _ _ hS h (lv_sub hl [1, 2, 3, 4, 0] rfl)
  have K_55 : ∀ (k_5 : Nat → Int32 → Int32 → Int32 → Int32 → Option (Int32)) (hk_5 : ∀ (h0 : Nat) (x1 : Int32) (x2 : Int32) (x3 : Int32) (x4 : Int32) (H : Heap) (locs : List Loc) (ls : Array Slot), ez_S X B s.heap (n0) σ H locs → k_5 h0 x1 x2 x3 x4 = some z → lv_has ls 7 [(0, .ref (B + h0)), (1, .int x1), (2, .int x2), (3, .int x3), (4, .int x4)] → W p l e R s m args below meth c H locs 0 0 Q (F0 m 5 ls [])), ∀ (h0 : Nat) (x1 : Int32) (x2 : Int32) (x3 : Int32) (x4 : Int32) (x5 : Int32) (y0 : Int32) (H : Heap) (locs : List Loc) (ls : Array Slot), ez_S X B s.heap (n0) σ H locs → z_X11_cutAhead_55 σ k_5 h0 x1 x2 x3 x4 x5 y0 = some z → lv_has ls 7 [(0, .ref (B + h0)), (1, .int x1), (2, .int x2), (3, .int x3), (4, .int x4), (5, .int x5)] → W p l e R s m args below meth c H locs 0 0 Q (F0 m 55 ls [.int y0]) := by
    intro k_5 hk_5 h0 x1 x2 x3 x4 x5 y0 H locs ls hS h hl
    refine lv_istore (lv' := [(6, .int y0), (0, .ref (B + h0)), (1, .int x1), (2, .int x2), (3, .int x3), (4, .int x4), (5, .int x5)]) hx hb dX11_cutAhead_55 hl (by decide) rfl (fun ls hl => ?_)
    refine lv_iload hx hb dX11_cutAhead_57 (lv_at hl 0 rfl) ?_
    refine lv_if_eq (tgt := 86) hx hb dX11_cutAhead_59 (by decide) (fun c_59 => ?_) (fun c_59 => ?_)
    · replace h := ez_ifp h c_59
      exact K_86 k_5 hk_5 h0 x1 x2 x3 x4 _ _ _ hS h (lv_sub hl [1, 2, 3, 4, 5] rfl)
    · replace h := ez_ifn h c_59
      refine lv_aload_n hx hb dX11_cutAhead_62 rfl (lv_at hl 1 rfl) ?_
      refine eg_RX11_41 hC hS h dX11_cutAhead_63 (fun t_63 h => ?_)
      refine lv_iload hx hb dX11_cutAhead_66 (lv_at hl 6 rfl) ?_
      refine lv_aload_n hx hb dX11_cutAhead_68 rfl (lv_at hl 1 rfl) ?_
      refine eg_RX11_29 hC hS h dX11_cutAhead_69 (fun t_69 h => ?_)
      refine eg_RX11_128 hC hS h dX11_cutAhead_72 (fun t_72 h => ?_)
      refine ez_cVpi (As := [.int x5, .int t_72]) (rest := []) h (fun _ q => c_X7_firstWith q) hC k_X7_firstWith ql_RX11_319 rfl (by decide) hS (fun _ q => ez_rcv q) rfl hl.1 rfl (Nat.le_of_ble_eq_true rfl) ⟨Nat.zero_le _, Nat.zero_le _⟩ dX11_cutAhead_75 (fun t_75 H locs hS h => ?_)
      refine lv_iload hx hb dX11_cutAhead_78 (lv_at hl 5 rfl) ?_
      refine lv_icmp_ne (tgt := 86) hx hb dX11_cutAhead_80 (by decide) (fun c_80 => ?_) (fun c_80 => ?_)
      · replace h := ez_ifn h c_80
        exact K_86 k_5 hk_5 h0 x1 x2 x3 x4 _ _ _ hS h (lv_sub hl [1, 2, 3, 4, 5] rfl)
      · replace h := ez_ifp h c_80
        obtain ⟨t_83, e_83, h⟩ := ez_let_sp h
        refine lv_iinc (v := t_83) (lv' := [(3, .int t_83), (6, .int y0), (0, .ref (B + h0)), (1, .int x1), (2, .int x2), (4, .int x4), (5, .int x5)]) hx hb dX11_cutAhead_83 hl (k := 4) rfl (by rw [e_83]; rfl) (by decide) rfl (fun ls hl => ?_)
        exact K_86 k_5 hk_5 h0 x1 x2 t_83 x4 _ _ _ hS h (lv_sub hl [2, 3, 4, 0, 5] rfl)
  have K_54 : ∀ (k_5 : Nat → Int32 → Int32 → Int32 → Int32 → Option (Int32)) (hk_5 : ∀ (h0 : Nat) (x1 : Int32) (x2 : Int32) (x3 : Int32) (x4 : Int32) (H : Heap) (locs : List Loc) (ls : Array Slot), ez_S X B s.heap (n0) σ H locs → k_5 h0 x1 x2 x3 x4 = some z → lv_has ls 7 [(0, .ref (B + h0)), (1, .int x1), (2, .int x2), (3, .int x3), (4, .int x4)] → W p l e R s m args below meth c H locs 0 0 Q (F0 m 5 ls [])), ∀ (h0 : Nat) (x1 : Int32) (x2 : Int32) (x3 : Int32) (x4 : Int32) (x5 : Int32) (H : Heap) (locs : List Loc) (ls : Array Slot), ez_S X B s.heap (n0) σ H locs → z_X11_cutAhead_54 σ k_5 h0 x1 x2 x3 x4 x5 = some z → lv_has ls 7 [(0, .ref (B + h0)), (1, .int x1), (2, .int x2), (3, .int x3), (4, .int x4), (5, .int x5)] → W p l e R s m args below meth c H locs 0 0 Q (F0 m 54 ls []) := by
    intro k_5 hk_5 h0 x1 x2 x3 x4 x5 H locs ls hS h hl
    refine lv_iconst (v := 0) hx hb dX11_cutAhead_54 (by decide) ?_
    exact K_55 k_5 hk_5 h0 x1 x2 x3 x4 x5 (0 : Int32) _ _ _ hS h (lv_sub hl [0, 1, 2, 3, 4, 5] rfl)
  have K_5 : ∀ (k_5 : Nat → Int32 → Int32 → Int32 → Int32 → Option (Int32)) (hk_5 : ∀ (h0 : Nat) (x1 : Int32) (x2 : Int32) (x3 : Int32) (x4 : Int32) (H : Heap) (locs : List Loc) (ls : Array Slot), ez_S X B s.heap (n0) σ H locs → k_5 h0 x1 x2 x3 x4 = some z → lv_has ls 7 [(0, .ref (B + h0)), (1, .int x1), (2, .int x2), (3, .int x3), (4, .int x4)] → W p l e R s m args below meth c H locs 0 0 Q (F0 m 5 ls [])), ∀ (h0 : Nat) (x1 : Int32) (x2 : Int32) (x3 : Int32) (x4 : Int32) (H : Heap) (locs : List Loc) (ls : Array Slot), ez_S X B s.heap (n0) σ H locs → z_X11_cutAhead_5 σ k_5 h0 x1 x2 x3 x4 = some z → lv_has ls 7 [(0, .ref (B + h0)), (1, .int x1), (2, .int x2), (3, .int x3), (4, .int x4)] → W p l e R s m args below meth c H locs 0 0 Q (F0 m 5 ls []) := by
    intro k_5 hk_5 h0 x1 x2 x3 x4 H locs ls hS h hl
    refine lv_iload hx hb dX11_cutAhead_5 (lv_at hl 4 rfl) ?_
    refine lv_aload_n hx hb dX11_cutAhead_7 rfl (lv_at hl 0 rfl) ?_
    refine eg_RX11_29 hC hS h dX11_cutAhead_8 (fun t_8 h => ?_)
    refine eg_RX11_128 hC hS h dX11_cutAhead_11 (fun t_11 h => ?_)
    refine lv_icmp_ge (tgt := 92) hx hb dX11_cutAhead_14 (by decide) (fun c_14 => ?_) (fun c_14 => ?_)
    · replace h := ez_ifp h c_14
      refine lv_iload_n hx hb dX11_cutAhead_92 rfl (lv_at hl 3 rfl) ?_
      exact hret _ _ _ _ _ (Option.some.inj h) rfl hS dX11_cutAhead_93
    · replace h := ez_ifn h c_14
      refine lv_aload_n hx hb dX11_cutAhead_17 rfl (lv_at hl 0 rfl) ?_
      refine eg_RX11_41 hC hS h dX11_cutAhead_18 (fun t_18 h => ?_)
      refine lv_iload hx hb dX11_cutAhead_21 (lv_at hl 4 rfl) ?_
      refine ez_cVpi (As := [.int x4]) (rest := []) h (fun _ q => c_X7_bits q) hC k_X7_bits ql_RX11_140 rfl (by decide) hS (fun _ q => ez_rcv q) rfl hl.1 rfl (Nat.le_of_ble_eq_true rfl) ⟨Nat.zero_le _, Nat.zero_le _⟩ dX11_cutAhead_23 (fun t_23 H locs hS h => ?_)
      refine lv_istore (lv' := [(5, .int t_23), (0, .ref (B + h0)), (1, .int x1), (2, .int x2), (3, .int x3), (4, .int x4)]) hx hb dX11_cutAhead_26 hl (by decide) rfl (fun ls hl => ?_)
      refine lv_iload hx hb dX11_cutAhead_28 (lv_at hl 0 rfl) ?_
      refine lv_iload_n hx hb dX11_cutAhead_30 rfl (lv_at hl 2 rfl) ?_
      refine ez_cSpi (As := [.int t_23, .int x1]) (rest := []) h (fun _ q => c_X6_fitsIn q) hC k_X6_fitsIn ql_RX11_215 rfl (by decide) hS hl.1 rfl (Nat.le_of_ble_eq_true rfl) ⟨Nat.zero_le _, Nat.zero_le _⟩ dX11_cutAhead_31 (fun t_31 H locs hS h => ?_)
      refine lv_if_eq (tgt := 54) hx hb dX11_cutAhead_34 (by decide) (fun c_34 => ?_) (fun c_34 => ?_)
      · replace h := ez_ifp h c_34
        exact K_54 k_5 hk_5 h0 x1 x2 x3 x4 t_23 _ _ _ hS h (lv_sub hl [1, 2, 3, 4, 5, 0] rfl)
      · replace h := ez_ifn h c_34
        refine lv_aload_n hx hb dX11_cutAhead_37 rfl (lv_at hl 1 rfl) ?_
        refine eg_RX11_37 hC hS h dX11_cutAhead_38 (fun t_38 h => ?_)
        refine lv_iload hx hb dX11_cutAhead_41 (lv_at hl 0 rfl) ?_
        refine ez_cVpi (As := [.int t_23]) (rest := []) h (fun _ q => c_X6_numberOf q) hC k_X6_numberOf ql_RX11_144 rfl (by decide) hS (fun _ q => ez_rcv q) rfl hl.1 rfl (Nat.le_of_ble_eq_true rfl) ⟨Nat.zero_le _, Nat.zero_le _⟩ dX11_cutAhead_43 (fun t_43 H locs hS h => ?_)
        refine lv_iload_n hx hb dX11_cutAhead_46 rfl (lv_at hl 3 rfl) ?_
        refine lv_icmp_ge (tgt := 54) hx hb dX11_cutAhead_47 (by decide) (fun c_47 => ?_) (fun c_47 => ?_)
        · replace h := ez_ifp h c_47
          exact K_54 k_5 hk_5 h0 x1 x2 x3 x4 t_23 _ _ _ hS h (lv_sub hl [1, 2, 3, 4, 5, 0] rfl)
        · replace h := ez_ifn h c_47
          refine lv_iconst (v := 1) hx hb dX11_cutAhead_50 (by decide) ?_
          refine lv_goto (tgt := 55) hx hb dX11_cutAhead_51 (by decide) ?_
          exact K_55 k_5 hk_5 h0 x1 x2 x3 x4 t_23 (1 : Int32) _ _ _ hS h (lv_sub hl [1, 2, 3, 4, 5, 0] rfl)
  have E_5 : ∀ (h0 : Nat) (x1 : Int32) (x2 : Int32) (x3 : Int32) (x4 : Int32) (H : Heap) (locs : List Loc) (ls : Array Slot), ez_S X B s.heap (n0) σ H locs → (ez_fix (fun _ _ _ _ _ => none) (z_X11_cutAhead_5 σ) ez_N) h0 x1 x2 x3 x4 = some z → lv_has ls 7 [(0, .ref (B + h0)), (1, .int x1), (2, .int x2), (3, .int x3), (4, .int x4)] → W p l e R s m args below meth c H locs 0 0 Q (F0 m 5 ls []) := ez_fix_ind (fun k_5 : Nat → Int32 → Int32 → Int32 → Int32 → Option (Int32) => ∀ (h0 : Nat) (x1 : Int32) (x2 : Int32) (x3 : Int32) (x4 : Int32) (H : Heap) (locs : List Loc) (ls : Array Slot), ez_S X B s.heap (n0) σ H locs → k_5 h0 x1 x2 x3 x4 = some z → lv_has ls 7 [(0, .ref (B + h0)), (1, .int x1), (2, .int x2), (3, .int x3), (4, .int x4)] → W p l e R s m args below meth c H locs 0 0 Q (F0 m 5 ls [])) (fun _ _ _ _ _ _ _ _ _ h _ => by cases h) (fun k_5 hk_5 => K_5 k_5 hk_5) ez_N
  refine lv_iconst (v := 0) hx hb dX11_cutAhead_0 (by decide) ?_
  refine lv_istore_n (lv' := [(3, .int 0), (0, .ref (B + h0)), (1, .int x1), (2, .int x2)]) hx hb dX11_cutAhead_1 rfl hl (by decide) rfl (fun ls hl => ?_)
  refine lv_iconst (v := 0) hx hb dX11_cutAhead_2 (by decide) ?_
  refine lv_istore (lv' := [(4, .int 0), (3, .int 0), (0, .ref (B + h0)), (1, .int x1), (2, .int x2)]) hx hb dX11_cutAhead_3 hl (by decide) rfl (fun ls hl => ?_)
  exact E_5  h0 x1 x2 (0 : Int32) (0 : Int32) _ _ _ hS h (lv_sub hl [2, 3, 4, 1, 0] rfl)
set_option maxHeartbeats 4000000 in
set_option maxRecDepth 100000 in
theorem c_X11_ghost {l : Launch} {X : ez_X} {B : Nat} {σ : ez_H} {h0 : Nat} {x1 : Int32} {x2 : Int32} {z : Int32 × ez_H} (h : z_X11_ghost σ h0 x1 x2 = some z) : ez_M l X B σ yX11_ghost cX11_ghost 7 (some .int) 4 [.ref (B + h0), .int x1, .int x2] (some (.int z.1)) z.2 := by
  refine ez_starti (z := z) (by decide) (Nat.le_of_ble_eq_true rfl) (fun p e R s m args below meth c Q hC hret hS ls hl => ?_)
  have hC : ez_C p R s m args c X B RX11 cX11_ghost 7 4 := hC
  have hx := hC.1.1
  have hb := hC.1.2.1
  have hown := hC.1.2.2.2.1
  have hts := hC.1.2.2.2.2
  have hl : lv_has ls 7 [(0, .ref (B + h0)), (1, .int x1), (2, .int x2)] := hl
  obtain ⟨σ0, eσ⟩ : ∃ σ0 : ez_H, σ0 = σ := ⟨_, rfl⟩
  rw [← eσ] at hret
  have hS : ez_S X B s.heap σ0.length σ s.heap [] := eσ ▸ hS
  obtain ⟨-, h⟩ := ez_in h
  have K_22 : ∀ (σ : ez_H) (H : Heap) (locs : List Loc) (ls : Array Slot), ez_S X B s.heap (σ0.length) σ H locs → z_X11_ghost_22 σ = some z → lv_has ls 7 [] → W p l e R s m args below meth c H locs 0 0 Q (F0 m 22 ls []) := by
    intro σ H locs ls hS h hl
    refine lv_iconst (v := -1) hx hb dX11_ghost_22 (by decide) ?_
    exact hret _ _ _ _ _ _ (Option.some.inj h) rfl hS dX11_ghost_23
  have K_112 : ∀ (k_36 : ez_H → Nat → Int32 → Int32 → Int32 → Option (Int32 × ez_H)) (hk_36 : ∀ (σ : ez_H) (h0 : Nat) (x2 : Int32) (x3 : Int32) (x4 : Int32) (H : Heap) (locs : List Loc) (ls : Array Slot), ez_S X B s.heap (σ0.length) σ H locs → k_36 σ h0 x2 x3 x4 = some z → lv_has ls 7 [(0, .ref (B + h0)), (2, .int x2), (3, .int x3), (4, .int x4)] → W p l e R s m args below meth c H locs 0 0 Q (F0 m 36 ls [])), ∀ (σ : ez_H) (h0 : Nat) (x2 : Int32) (x3 : Int32) (x4 : Int32) (H : Heap) (locs : List Loc) (ls : Array Slot), ez_S X B s.heap (σ0.length) σ H locs → z_X11_ghost_112 k_36 σ h0 x2 x3 x4 = some z → lv_has ls 7 [(0, .ref (B + h0)), (2, .int x2), (3, .int x3), (4, .int x4)] → W p l e R s m args below meth c H locs 0 0 Q (F0 m 112 ls []) := by
    intro k_36 hk_36 σ h0 x2 x3 x4 H locs ls hS h hl
    obtain ⟨t_112, e_112, h⟩ := ez_let_sp h
    refine lv_iinc (v := t_112) (lv' := [(4, .int t_112), (0, .ref (B + h0)), (2, .int x2), (3, .int x3)]) hx hb dX11_ghost_112 hl (k := 3) rfl (by rw [e_112]; rfl) (by decide) rfl (fun ls hl => ?_)
    refine lv_goto (tgt := 36) hx hb dX11_ghost_115 (by decide) ?_
    exact hk_36 σ h0 x2 x3 t_112 _ _ _ hS h (lv_sub hl [1, 2, 3, 0] rfl)
  have K_36 : ∀ (k_36 : ez_H → Nat → Int32 → Int32 → Int32 → Option (Int32 × ez_H)) (hk_36 : ∀ (σ : ez_H) (h0 : Nat) (x2 : Int32) (x3 : Int32) (x4 : Int32) (H : Heap) (locs : List Loc) (ls : Array Slot), ez_S X B s.heap (σ0.length) σ H locs → k_36 σ h0 x2 x3 x4 = some z → lv_has ls 7 [(0, .ref (B + h0)), (2, .int x2), (3, .int x3), (4, .int x4)] → W p l e R s m args below meth c H locs 0 0 Q (F0 m 36 ls [])), ∀ (σ : ez_H) (h0 : Nat) (x2 : Int32) (x3 : Int32) (x4 : Int32) (H : Heap) (locs : List Loc) (ls : Array Slot), ez_S X B s.heap (σ0.length) σ H locs → z_X11_ghost_36 k_36 σ h0 x2 x3 x4 = some z → lv_has ls 7 [(0, .ref (B + h0)), (2, .int x2), (3, .int x3), (4, .int x4)] → W p l e R s m args below meth c H locs 0 0 Q (F0 m 36 ls []) := by
    intro k_36 hk_36 σ h0 x2 x3 x4 H locs ls hS h hl
    refine lv_iload hx hb dX11_ghost_36 (lv_at hl 3 rfl) ?_
    refine lv_iload_n hx hb dX11_ghost_38 rfl (lv_at hl 1 rfl) ?_
    refine lv_bipush (v := 8) hx hb dX11_ghost_39 (by decide) ?_
    refine lv_iadd hx hb dX11_ghost_41 ?_
    refine ez_top h (fun t_41 h => ?_)
    refine lv_icmp_gt (tgt := 118) hx hb dX11_ghost_42 (by decide) (fun c_42 => ?_) (fun c_42 => ?_)
    · replace h := ez_ifp h c_42
      refine lv_iconst (v := -1) hx hb dX11_ghost_118 (by decide) ?_
      exact hret _ _ _ _ _ _ (Option.some.inj h) rfl hS dX11_ghost_119
    · replace h := ez_ifn h c_42
      refine lv_aload_n hx hb dX11_ghost_45 rfl (lv_at hl 0 rfl) ?_
      refine eg_RX11_37 hC hS h dX11_ghost_46 (fun t_46 h => ?_)
      refine lv_iload_n hx hb dX11_ghost_49 rfl (lv_at hl 2 rfl) ?_
      refine lv_iload hx hb dX11_ghost_50 (lv_at hl 3 rfl) ?_
      refine ez_cVi (As := [.int x3, .int x4]) (rest := []) h (fun _ q => c_X6_nth q) hC k_X6_nth ql_RX11_310 rfl (by decide) hS (fun _ q => ez_rcv q) rfl hl.1 rfl (Nat.le_of_ble_eq_true rfl) ⟨Nat.zero_le _, Nat.zero_le _⟩ dX11_ghost_52 (fun t_52 σ H locs hS h => ?_)
      refine lv_istore (lv' := [(5, .int t_52), (0, .ref (B + h0)), (2, .int x2), (3, .int x3), (4, .int x4)]) hx hb dX11_ghost_55 hl (by decide) rfl (fun ls hl => ?_)
      refine lv_iload hx hb dX11_ghost_57 (lv_at hl 0 rfl) ?_
      refine lv_if_ne (tgt := 64) hx hb dX11_ghost_59 (by decide) (fun c_59 => ?_) (fun c_59 => ?_)
      · replace h := ez_ifn h c_59
        refine lv_aload_n hx hb dX11_ghost_64 rfl (lv_at hl 1 rfl) ?_
        refine eg_RX11_37 hC hS h dX11_ghost_65 (fun t_65 h => ?_)
        refine lv_iload hx hb dX11_ghost_68 (lv_at hl 0 rfl) ?_
        refine ez_cVpi (As := [.int t_52]) (rest := []) h (fun _ q => c_X6_numberOf q) hC k_X6_numberOf ql_RX11_144 rfl (by decide) hS (fun _ q => ez_rcv q) rfl hl.1 rfl (Nat.le_of_ble_eq_true rfl) ⟨Nat.zero_le _, Nat.zero_le _⟩ dX11_ghost_70 (fun t_70 H locs hS h => ?_)
        refine lv_istore (lv' := [(6, .int t_70), (5, .int t_52), (0, .ref (B + h0)), (2, .int x2), (3, .int x3), (4, .int x4)]) hx hb dX11_ghost_73 hl (by decide) rfl (fun ls hl => ?_)
        refine lv_aload_n hx hb dX11_ghost_75 rfl (lv_at hl 2 rfl) ?_
        refine eg_RX11_41 hC hS h dX11_ghost_76 (fun t_76 h => ?_)
        refine lv_iload hx hb dX11_ghost_79 (lv_at hl 1 rfl) ?_
        refine lv_aload_n hx hb dX11_ghost_81 rfl (lv_at hl 2 rfl) ?_
        refine eg_RX11_29 hC hS h dX11_ghost_82 (fun t_82 h => ?_)
        refine eg_RX11_128 hC hS h dX11_ghost_85 (fun t_85 h => ?_)
        refine ez_cVpi (As := [.int t_52, .int t_85]) (rest := []) h (fun _ q => c_X7_firstWith q) hC k_X7_firstWith ql_RX11_319 rfl (by decide) hS (fun _ q => ez_rcv q) rfl hl.1 rfl (Nat.le_of_ble_eq_true rfl) ⟨Nat.zero_le _, Nat.zero_le _⟩ dX11_ghost_88 (fun t_88 H locs hS h => ?_)
        refine lv_iconst (v := -1) hx hb dX11_ghost_91 (by decide) ?_
        refine lv_icmp_ne (tgt := 112) hx hb dX11_ghost_92 (by decide) (fun c_92 => ?_) (fun c_92 => ?_)
        · replace h := ez_ifn h c_92
          exact K_112 k_36 hk_36 σ h0 x2 x3 x4 _ _ _ hS h (lv_sub hl [2, 3, 4, 5] rfl)
        · replace h := ez_ifp h c_92
          refine lv_iload hx hb dX11_ghost_95 (lv_at hl 5 rfl) ?_
          refine lv_aload_n hx hb dX11_ghost_97 rfl (lv_at hl 2 rfl) ?_
          refine lv_iload_n hx hb dX11_ghost_98 rfl (lv_at hl 4 rfl) ?_
          refine lv_iload hx hb dX11_ghost_99 (lv_at hl 0 rfl) ?_
          refine ez_cVpi (As := [.int x3, .int t_70]) (rest := [.int x4]) h (fun _ q => c_X11_cutAhead q) hC k_X11_cutAhead ql_RX11_316 rfl (by decide) hS (fun _ q => ez_rcv q) rfl hl.1 rfl (Nat.le_of_ble_eq_true rfl) ⟨Nat.zero_le _, Nat.zero_le _⟩ dX11_ghost_101 (fun t_101 H locs hS h => ?_)
          refine lv_isub hx hb dX11_ghost_104 ?_
          refine ez_top h (fun t_104 h => ?_)
          refine lv_iload_n hx hb dX11_ghost_105 rfl (lv_at hl 3 rfl) ?_
          refine lv_icmp_ne (tgt := 112) hx hb dX11_ghost_106 (by decide) (fun c_106 => ?_) (fun c_106 => ?_)
          · replace h := ez_ifn h c_106
            exact K_112 k_36 hk_36 σ h0 x2 x3 x4 _ _ _ hS h (lv_sub hl [2, 3, 4, 5] rfl)
          · replace h := ez_ifp h c_106
            refine lv_iload hx hb dX11_ghost_109 (lv_at hl 0 rfl) ?_
            exact hret _ _ _ _ _ _ (Option.some.inj h) rfl hS dX11_ghost_111
      · replace h := ez_ifp h c_59
        refine lv_iconst (v := -1) hx hb dX11_ghost_62 (by decide) ?_
        exact hret _ _ _ _ _ _ (Option.some.inj h) rfl hS dX11_ghost_63
  have E_36 : ∀ (σ : ez_H) (h0 : Nat) (x2 : Int32) (x3 : Int32) (x4 : Int32) (H : Heap) (locs : List Loc) (ls : Array Slot), ez_S X B s.heap (σ0.length) σ H locs → (ez_fix (fun _ _ _ _ _ => none) (z_X11_ghost_36) ez_N) σ h0 x2 x3 x4 = some z → lv_has ls 7 [(0, .ref (B + h0)), (2, .int x2), (3, .int x3), (4, .int x4)] → W p l e R s m args below meth c H locs 0 0 Q (F0 m 36 ls []) := ez_fix_ind (fun k_36 : ez_H → Nat → Int32 → Int32 → Int32 → Option (Int32 × ez_H) => ∀ (σ : ez_H) (h0 : Nat) (x2 : Int32) (x3 : Int32) (x4 : Int32) (H : Heap) (locs : List Loc) (ls : Array Slot), ez_S X B s.heap (σ0.length) σ H locs → k_36 σ h0 x2 x3 x4 = some z → lv_has ls 7 [(0, .ref (B + h0)), (2, .int x2), (3, .int x3), (4, .int x4)] → W p l e R s m args below meth c H locs 0 0 Q (F0 m 36 ls [])) (fun _ _ _ _ _ _ _ _ _ h _ => by cases h) (fun k_36 hk_36 => K_36 k_36 hk_36) ez_N
  refine lv_aload_n hx hb dX11_ghost_0 rfl (lv_at hl 0 rfl) ?_
  refine eg_RX11_29 hC hS h dX11_ghost_1 (fun t_1 h => ?_)
  refine lv_iload_n hx hb dX11_ghost_4 rfl (lv_at hl 1 rfl) ?_
  refine ez_cVpi (As := [.int x1]) (rest := []) h (fun _ q => c_X3_hasLock q) hC k_X3_hasLock ql_RX11_165 rfl (by decide) hS (fun _ q => ez_rcv q) rfl hl.1 rfl (Nat.le_of_ble_eq_true rfl) ⟨Nat.zero_le _, Nat.zero_le _⟩ dX11_ghost_5 (fun t_5 H locs hS h => ?_)
  refine lv_if_eq (tgt := 22) hx hb dX11_ghost_8 (by decide) (fun c_8 => ?_) (fun c_8 => ?_)
  · replace h := ez_ifp h c_8
    exact K_22  σ _ _ _ hS h (lv_sub hl [] rfl)
  · replace h := ez_ifn h c_8
    refine lv_iload_n hx hb dX11_ghost_11 rfl (lv_at hl 2 rfl) ?_
    refine lv_if_lt (tgt := 22) hx hb dX11_ghost_12 (by decide) (fun c_12 => ?_) (fun c_12 => ?_)
    · replace h := ez_ifp h c_12
      exact K_22  σ _ _ _ hS h (lv_sub hl [] rfl)
    · replace h := ez_ifn h c_12
      refine lv_iload_n hx hb dX11_ghost_15 rfl (lv_at hl 2 rfl) ?_
      refine lv_sipush (v := 7776) hx hb dX11_ghost_16 (by decide) ?_
      refine lv_icmp_lt (tgt := 24) hx hb dX11_ghost_19 (by decide) (fun c_19 => ?_) (fun c_19 => ?_)
      · replace h := ez_ifp h c_19
        refine lv_aload_n hx hb dX11_ghost_24 rfl (lv_at hl 0 rfl) ?_
        refine eg_RX11_41 hC hS h dX11_ghost_25 (fun t_25 h => ?_)
        refine lv_iload_n hx hb dX11_ghost_28 rfl (lv_at hl 1 rfl) ?_
        refine ez_cVpi (As := [.int x1]) (rest := []) h (fun _ q => c_X7_pins q) hC k_X7_pins ql_RX11_168 rfl (by decide) hS (fun _ q => ez_rcv q) rfl hl.1 rfl (Nat.le_of_ble_eq_true rfl) ⟨Nat.zero_le _, Nat.zero_le _⟩ dX11_ghost_29 (fun t_29 H locs hS h => ?_)
        refine lv_istore_n (lv' := [(3, .int t_29), (0, .ref (B + h0)), (1, .int x1), (2, .int x2)]) hx hb dX11_ghost_32 rfl hl (by decide) rfl (fun ls hl => ?_)
        refine lv_iload_n hx hb dX11_ghost_33 rfl (lv_at hl 3 rfl) ?_
        refine lv_istore (lv' := [(4, .int x2), (3, .int t_29), (0, .ref (B + h0)), (1, .int x1), (2, .int x2)]) hx hb dX11_ghost_34 hl (by decide) rfl (fun ls hl => ?_)
        exact E_36  σ h0 x2 t_29 x2 _ _ _ hS h (lv_sub hl [2, 4, 1, 0] rfl)
      · replace h := ez_ifn h c_19
        exact K_22  σ _ _ _ hS h (lv_sub hl [] rfl)
set_option maxHeartbeats 4000000 in
set_option maxRecDepth 100000 in
theorem c_X11_ghosts {l : Launch} {X : ez_X} {B : Nat} {σ : ez_H} {h0 : Nat} {x1 : Int32} {z : Int32 × ez_H} (h : z_X11_ghosts σ h0 x1 = some z) : ez_M l X B σ yX11_ghosts cX11_ghosts 3 (some .int) 4 [.ref (B + h0), .int x1] (some (.int z.1)) z.2 := by
  refine ez_starti (z := z) (by decide) (Nat.le_of_ble_eq_true rfl) (fun p e R s m args below meth c Q hC hret hS ls hl => ?_)
  have hC : ez_C p R s m args c X B RX11 cX11_ghosts 3 4 := hC
  have hx := hC.1.1
  have hb := hC.1.2.1
  have hown := hC.1.2.2.2.1
  have hts := hC.1.2.2.2.2
  have hl : lv_has ls 3 [(0, .ref (B + h0)), (1, .int x1)] := hl
  obtain ⟨σ0, eσ⟩ : ∃ σ0 : ez_H, σ0 = σ := ⟨_, rfl⟩
  rw [← eσ] at hret
  have hS : ez_S X B s.heap σ0.length σ s.heap [] := eσ ▸ hS
  obtain ⟨-, h⟩ := ez_in h
  refine lv_aload_n hx hb dX11_ghosts_0 rfl (lv_at hl 0 rfl) ?_
  refine eg_RX11_29 hC hS h dX11_ghosts_1 (fun t_1 h => ?_)
  refine lv_iload_n hx hb dX11_ghosts_4 rfl (lv_at hl 1 rfl) ?_
  refine ez_cVpi (As := [.int x1]) (rest := []) h (fun _ q => c_X3_hasLock q) hC k_X3_hasLock ql_RX11_165 rfl (by decide) hS (fun _ q => ez_rcv q) rfl hl.1 rfl (Nat.le_of_ble_eq_true rfl) ⟨Nat.zero_le _, Nat.zero_le _⟩ dX11_ghosts_5 (fun t_5 H locs hS h => ?_)
  refine lv_if_ne (tgt := 13) hx hb dX11_ghosts_8 (by decide) (fun c_8 => ?_) (fun c_8 => ?_)
  · replace h := ez_ifn h c_8
    refine lv_aload_n hx hb dX11_ghosts_13 rfl (lv_at hl 0 rfl) ?_
    refine eg_RX11_41 hC hS h dX11_ghosts_14 (fun t_14 h => ?_)
    refine lv_iload_n hx hb dX11_ghosts_17 rfl (lv_at hl 1 rfl) ?_
    refine ez_cVpi (As := [.int x1]) (rest := []) h (fun _ q => c_X7_pins q) hC k_X7_pins ql_RX11_168 rfl (by decide) hS (fun _ q => ez_rcv q) rfl hl.1 rfl (Nat.le_of_ble_eq_true rfl) ⟨Nat.zero_le _, Nat.zero_le _⟩ dX11_ghosts_18 (fun t_18 H locs hS h => ?_)
    refine lv_istore_n (lv' := [(2, .int t_18), (0, .ref (B + h0)), (1, .int x1)]) hx hb dX11_ghosts_21 rfl hl (by decide) rfl (fun ls hl => ?_)
    refine lv_aload_n hx hb dX11_ghosts_22 rfl (lv_at hl 1 rfl) ?_
    refine eg_RX11_37 hC hS h dX11_ghosts_23 (fun t_23 h => ?_)
    refine lv_iload_n hx hb dX11_ghosts_26 rfl (lv_at hl 0 rfl) ?_
    refine lv_aload_n hx hb dX11_ghosts_27 rfl (lv_at hl 1 rfl) ?_
    refine eg_RX11_37 hC hS h dX11_ghosts_28 (fun t_28 h => ?_)
    refine eg_RX11_304 hC hS h dX11_ghosts_31 (fun t_31 h => ?_)
    refine ez_cVi (As := [.int t_18, .int t_31]) (rest := []) h (fun _ q => c_X6_howMany q) hC k_X6_howMany ql_RX11_307 rfl (by decide) hS (fun _ q => ez_rcv q) rfl hl.1 rfl (Nat.le_of_ble_eq_true rfl) ⟨Nat.zero_le _, Nat.zero_le _⟩ dX11_ghosts_34 (fun t_34 σ H locs hS h => ?_)
    refine lv_aload_n hx hb dX11_ghosts_37 rfl (lv_at hl 1 rfl) ?_
    refine lv_iload_n hx hb dX11_ghosts_38 rfl (lv_at hl 0 rfl) ?_
    refine lv_sipush (v := 7776) hx hb dX11_ghosts_39 (by decide) ?_
    refine ez_cVpi (As := [.int t_18, .int 7776]) (rest := [.int t_34]) h (fun _ q => c_X11_cutAhead q) hC k_X11_cutAhead ql_RX11_316 rfl (by decide) hS (fun _ q => ez_rcv q) rfl hl.1 rfl (Nat.le_of_ble_eq_true rfl) ⟨Nat.zero_le _, Nat.zero_le _⟩ dX11_ghosts_42 (fun t_42 H locs hS h => ?_)
    refine lv_isub hx hb dX11_ghosts_45 ?_
    refine ez_top h (fun t_45 h => ?_)
    exact hret _ _ _ _ _ _ (Option.some.inj h) rfl hS dX11_ghosts_46
  · replace h := ez_ifp h c_8
    refine lv_iconst (v := -1) hx hb dX11_ghosts_11 (by decide) ?_
    exact hret _ _ _ _ _ _ (Option.some.inj h) rfl hS dX11_ghosts_12
set_option maxHeartbeats 4000000 in
set_option maxRecDepth 100000 in
theorem c_X11_give {l : Launch} {X : ez_X} {B : Nat} {σ : ez_H} {h0 : Nat} {x1 : Int32} {x2 : Int32} {z : Int32 × ez_H} (h : z_X11_give σ h0 x1 x2 = some z) : ez_M l X B σ yX11_give cX11_give 4 (some .int) 4 [.ref (B + h0), .int x1, .int x2] (some (.int z.1)) z.2 := by
  refine ez_starti (z := z) (by decide) (Nat.le_of_ble_eq_true rfl) (fun p e R s m args below meth c Q hC hret hS ls hl => ?_)
  have hC : ez_C p R s m args c X B RX11 cX11_give 4 4 := hC
  have hx := hC.1.1
  have hb := hC.1.2.1
  have hown := hC.1.2.2.2.1
  have hts := hC.1.2.2.2.2
  have hl : lv_has ls 4 [(0, .ref (B + h0)), (1, .int x1), (2, .int x2)] := hl
  obtain ⟨σ0, eσ⟩ : ∃ σ0 : ez_H, σ0 = σ := ⟨_, rfl⟩
  rw [← eσ] at hret
  have hS : ez_S X B s.heap σ0.length σ s.heap [] := eσ ▸ hS
  obtain ⟨-, h⟩ := ez_in h
  have K_22 : ∀ (σ : ez_H) (H : Heap) (locs : List Loc) (ls : Array Slot), ez_S X B s.heap (σ0.length) σ H locs → z_X11_give_22 σ = some z → lv_has ls 4 [] → W p l e R s m args below meth c H locs 0 0 Q (F0 m 22 ls []) := by
    intro σ H locs ls hS h hl
    refine lv_bipush (v := -3) hx hb dX11_give_22 (by decide) ?_
    exact hret _ _ _ _ _ _ (Option.some.inj h) rfl hS dX11_give_24
  have K_45 : ∀ (σ : ez_H) (H : Heap) (locs : List Loc) (ls : Array Slot), ez_S X B s.heap (σ0.length) σ H locs → z_X11_give_45 σ = some z → lv_has ls 4 [] → W p l e R s m args below meth c H locs 0 0 Q (F0 m 45 ls []) := by
    intro σ H locs ls hS h hl
    refine lv_bipush (v := -3) hx hb dX11_give_45 (by decide) ?_
    exact hret _ _ _ _ _ _ (Option.some.inj h) rfl hS dX11_give_47
  have K_75 : ∀ (σ : ez_H) (h0 : Nat) (x1 : Int32) (x2 : Int32) (H : Heap) (locs : List Loc) (ls : Array Slot), ez_S X B s.heap (σ0.length) σ H locs → z_X11_give_75 σ h0 x1 x2 = some z → lv_has ls 4 [(0, .ref (B + h0)), (1, .int x1), (2, .int x2)] → W p l e R s m args below meth c H locs 0 0 Q (F0 m 75 ls []) := by
    intro σ h0 x1 x2 H locs ls hS h hl
    refine lv_aload_n hx hb dX11_give_75 rfl (lv_at hl 0 rfl) ?_
    refine lv_iload_n hx hb dX11_give_76 rfl (lv_at hl 1 rfl) ?_
    refine lv_iload_n hx hb dX11_give_77 rfl (lv_at hl 2 rfl) ?_
    refine ez_cVi (As := [.int x1, .int x2]) (rest := []) h (fun _ q => c_X11_handOver q) hC k_X11_handOver ql_RX11_273 rfl (by decide) hS (fun _ q => ez_rcv q) rfl hl.1 rfl (Nat.le_of_ble_eq_true rfl) ⟨Nat.zero_le _, Nat.zero_le _⟩ dX11_give_78 (fun t_78 σ H locs hS h => ?_)
    exact hret _ _ _ _ _ _ (Option.some.inj h) rfl hS dX11_give_81
  refine lv_aload_n hx hb dX11_give_0 rfl (lv_at hl 0 rfl) ?_
  refine eg_RX11_29 hC hS h dX11_give_1 (fun t_1 h => ?_)
  refine lv_iload_n hx hb dX11_give_4 rfl (lv_at hl 1 rfl) ?_
  refine ez_cVpi (As := [.int x1]) (rest := []) h (fun _ q => c_X3_hasKey q) hC k_X3_hasKey ql_RX11_137 rfl (by decide) hS (fun _ q => ez_rcv q) rfl hl.1 rfl (Nat.le_of_ble_eq_true rfl) ⟨Nat.zero_le _, Nat.zero_le _⟩ dX11_give_5 (fun t_5 H locs hS h => ?_)
  refine lv_if_eq (tgt := 22) hx hb dX11_give_8 (by decide) (fun c_8 => ?_) (fun c_8 => ?_)
  · replace h := ez_ifp h c_8
    exact K_22  σ _ _ _ hS h (lv_sub hl [] rfl)
  · replace h := ez_ifn h c_8
    refine lv_aload_n hx hb dX11_give_11 rfl (lv_at hl 0 rfl) ?_
    refine eg_RX11_29 hC hS h dX11_give_12 (fun t_12 h => ?_)
    refine lv_iload_n hx hb dX11_give_15 rfl (lv_at hl 2 rfl) ?_
    refine ez_cVpi (As := [.int x2]) (rest := []) h (fun _ q => c_X3_hasPerson q) hC k_X3_hasPerson ql_RX11_200 rfl (by decide) hS (fun _ q => ez_rcv q) rfl hl.1 rfl (Nat.le_of_ble_eq_true rfl) ⟨Nat.zero_le _, Nat.zero_le _⟩ dX11_give_16 (fun t_16 H locs hS h => ?_)
    refine lv_if_ne (tgt := 25) hx hb dX11_give_19 (by decide) (fun c_19 => ?_) (fun c_19 => ?_)
    · replace h := ez_ifn h c_19
      refine lv_aload_n hx hb dX11_give_25 rfl (lv_at hl 0 rfl) ?_
      refine eg_RX11_41 hC hS h dX11_give_26 (fun t_26 h => ?_)
      refine lv_iload_n hx hb dX11_give_29 rfl (lv_at hl 1 rfl) ?_
      refine ez_cVpi (As := [.int x1]) (rest := []) h (fun _ q => c_X7_holder q) hC k_X7_holder ql_RX11_152 rfl (by decide) hS (fun _ q => ez_rcv q) rfl hl.1 rfl (Nat.le_of_ble_eq_true rfl) ⟨Nat.zero_le _, Nat.zero_le _⟩ dX11_give_30 (fun t_30 H locs hS h => ?_)
      refine lv_istore_n (lv' := [(3, .int t_30), (0, .ref (B + h0)), (1, .int x1), (2, .int x2)]) hx hb dX11_give_33 rfl hl (by decide) rfl (fun ls hl => ?_)
      refine lv_iload_n hx hb dX11_give_34 rfl (lv_at hl 0 rfl) ?_
      refine lv_iload_n hx hb dX11_give_35 rfl (lv_at hl 3 rfl) ?_
      refine lv_icmp_eq (tgt := 45) hx hb dX11_give_36 (by decide) (fun c_36 => ?_) (fun c_36 => ?_)
      · replace h := ez_ifp h c_36
        exact K_45  σ _ _ _ hS h (lv_sub hl [] rfl)
      · replace h := ez_ifn h c_36
        refine lv_iload_n hx hb dX11_give_39 rfl (lv_at hl 0 rfl) ?_
        refine lv_bipush (v := -2) hx hb dX11_give_40 (by decide) ?_
        refine lv_icmp_ne (tgt := 48) hx hb dX11_give_42 (by decide) (fun c_42 => ?_) (fun c_42 => ?_)
        · replace h := ez_ifn h c_42
          refine lv_iload_n hx hb dX11_give_48 rfl (lv_at hl 0 rfl) ?_
          refine lv_iconst (v := -1) hx hb dX11_give_49 (by decide) ?_
          refine lv_icmp_eq (tgt := 75) hx hb dX11_give_50 (by decide) (fun c_50 => ?_) (fun c_50 => ?_)
          · replace h := ez_ifp h c_50
            exact K_75  σ h0 x1 x2 _ _ _ hS h (lv_sub hl [1, 2, 3] rfl)
          · replace h := ez_ifn h c_50
            refine lv_aload_n hx hb dX11_give_53 rfl (lv_at hl 1 rfl) ?_
            refine eg_RX11_41 hC hS h dX11_give_54 (fun t_54 h => ?_)
            refine lv_iload_n hx hb dX11_give_57 rfl (lv_at hl 0 rfl) ?_
            refine ez_cVpi (As := [.int t_30]) (rest := []) h (fun _ q => c_X7_room q) hC k_X7_room ql_RX11_203 rfl (by decide) hS (fun _ q => ez_rcv q) rfl hl.1 rfl (Nat.le_of_ble_eq_true rfl) ⟨Nat.zero_le _, Nat.zero_le _⟩ dX11_give_58 (fun t_58 H locs hS h => ?_)
            refine lv_aload_n hx hb dX11_give_61 rfl (lv_at hl 1 rfl) ?_
            refine eg_RX11_41 hC hS h dX11_give_62 (fun t_62 h => ?_)
            refine lv_iload_n hx hb dX11_give_65 rfl (lv_at hl 3 rfl) ?_
            refine ez_cVpi (As := [.int x2]) (rest := [.int t_58]) h (fun _ q => c_X7_room q) hC k_X7_room ql_RX11_203 rfl (by decide) hS (fun _ q => ez_rcv q) rfl hl.1 rfl (Nat.le_of_ble_eq_true rfl) ⟨Nat.zero_le _, Nat.zero_le _⟩ dX11_give_66 (fun t_66 H locs hS h => ?_)
            refine lv_icmp_eq (tgt := 75) hx hb dX11_give_69 (by decide) (fun c_69 => ?_) (fun c_69 => ?_)
            · replace h := ez_ifp h c_69
              exact K_75  σ h0 x1 x2 _ _ _ hS h (lv_sub hl [1, 2, 3] rfl)
            · replace h := ez_ifn h c_69
              refine lv_bipush (v := -3) hx hb dX11_give_72 (by decide) ?_
              exact hret _ _ _ _ _ _ (Option.some.inj h) rfl hS dX11_give_74
        · replace h := ez_ifp h c_42
          exact K_45  σ _ _ _ hS h (lv_sub hl [] rfl)
    · replace h := ez_ifp h c_19
      exact K_22  σ _ _ _ hS h (lv_sub hl [] rfl)
set_option maxHeartbeats 4000000 in
set_option maxRecDepth 100000 in
theorem c_X11_hang {l : Launch} {X : ez_X} {B : Nat} {σ : ez_H} {h0 : Nat} {x1 : Int32} {z : Int32 × ez_H} (h : z_X11_hang σ h0 x1 = some z) : ez_M l X B σ yX11_hang cX11_hang 2 (some .int) 4 [.ref (B + h0), .int x1] (some (.int z.1)) z.2 := by
  refine ez_starti (z := z) (by decide) (Nat.le_of_ble_eq_true rfl) (fun p e R s m args below meth c Q hC hret hS ls hl => ?_)
  have hC : ez_C p R s m args c X B RX11 cX11_hang 2 4 := hC
  have hx := hC.1.1
  have hb := hC.1.2.1
  have hown := hC.1.2.2.2.1
  have hts := hC.1.2.2.2.2
  have hl : lv_has ls 2 [(0, .ref (B + h0)), (1, .int x1)] := hl
  obtain ⟨σ0, eσ⟩ : ∃ σ0 : ez_H, σ0 = σ := ⟨_, rfl⟩
  rw [← eσ] at hret
  have hS : ez_S X B s.heap σ0.length σ s.heap [] := eσ ▸ hS
  obtain ⟨-, h⟩ := ez_in h
  have K_22 : ∀ (σ : ez_H) (H : Heap) (locs : List Loc) (ls : Array Slot), ez_S X B s.heap (σ0.length) σ H locs → z_X11_hang_22 σ = some z → lv_has ls 2 [] → W p l e R s m args below meth c H locs 0 0 Q (F0 m 22 ls []) := by
    intro σ H locs ls hS h hl
    refine lv_bipush (v := -3) hx hb dX11_hang_22 (by decide) ?_
    exact hret _ _ _ _ _ _ (Option.some.inj h) rfl hS dX11_hang_24
  refine lv_aload_n hx hb dX11_hang_0 rfl (lv_at hl 0 rfl) ?_
  refine eg_RX11_29 hC hS h dX11_hang_1 (fun t_1 h => ?_)
  refine lv_iload_n hx hb dX11_hang_4 rfl (lv_at hl 1 rfl) ?_
  refine ez_cVpi (As := [.int x1]) (rest := []) h (fun _ q => c_X3_hasKey q) hC k_X3_hasKey ql_RX11_137 rfl (by decide) hS (fun _ q => ez_rcv q) rfl hl.1 rfl (Nat.le_of_ble_eq_true rfl) ⟨Nat.zero_le _, Nat.zero_le _⟩ dX11_hang_5 (fun t_5 H locs hS h => ?_)
  refine lv_if_eq (tgt := 22) hx hb dX11_hang_8 (by decide) (fun c_8 => ?_) (fun c_8 => ?_)
  · replace h := ez_ifp h c_8
    exact K_22  σ _ _ _ hS h (lv_sub hl [] rfl)
  · replace h := ez_ifn h c_8
    refine lv_aload_n hx hb dX11_hang_11 rfl (lv_at hl 0 rfl) ?_
    refine eg_RX11_41 hC hS h dX11_hang_12 (fun t_12 h => ?_)
    refine lv_iload_n hx hb dX11_hang_15 rfl (lv_at hl 1 rfl) ?_
    refine ez_cVpi (As := [.int x1]) (rest := []) h (fun _ q => c_X7_holder q) hC k_X7_holder ql_RX11_152 rfl (by decide) hS (fun _ q => ez_rcv q) rfl hl.1 rfl (Nat.le_of_ble_eq_true rfl) ⟨Nat.zero_le _, Nat.zero_le _⟩ dX11_hang_16 (fun t_16 H locs hS h => ?_)
    refine lv_if_ge (tgt := 25) hx hb dX11_hang_19 (by decide) (fun c_19 => ?_) (fun c_19 => ?_)
    · replace h := ez_ifp h c_19
      refine lv_aload_n hx hb dX11_hang_25 rfl (lv_at hl 0 rfl) ?_
      refine lv_iload_n hx hb dX11_hang_26 rfl (lv_at hl 1 rfl) ?_
      refine lv_iconst (v := -1) hx hb dX11_hang_27 (by decide) ?_
      refine ez_cVi (As := [.int x1, .int (-1)]) (rest := []) h (fun _ q => c_X11_handOver q) hC k_X11_handOver ql_RX11_273 rfl (by decide) hS (fun _ q => ez_rcv q) rfl hl.1 rfl (Nat.le_of_ble_eq_true rfl) ⟨Nat.zero_le _, Nat.zero_le _⟩ dX11_hang_28 (fun t_28 σ H locs hS h => ?_)
      exact hret _ _ _ _ _ _ (Option.some.inj h) rfl hS dX11_hang_31
    · replace h := ez_ifn h c_19
      exact K_22  σ _ _ _ hS h (lv_sub hl [] rfl)
set_option maxHeartbeats 4000000 in
set_option maxRecDepth 100000 in
theorem c_X11_haunted {l : Launch} {X : ez_X} {B : Nat} {σ : ez_H} {h0 : Nat} {z : Int32 × ez_H} (h : z_X11_haunted σ h0 = some z) : ez_M l X B σ yX11_haunted cX11_haunted 5 (some .int) 5 [.ref (B + h0)] (some (.int z.1)) z.2 := by
  refine ez_starti (z := z) (by decide) (Nat.le_of_ble_eq_true rfl) (fun p e R s m args below meth c Q hC hret hS ls hl => ?_)
  have hC : ez_C p R s m args c X B RX11 cX11_haunted 5 5 := hC
  have hx := hC.1.1
  have hb := hC.1.2.1
  have hown := hC.1.2.2.2.1
  have hts := hC.1.2.2.2.2
  have hl : lv_has ls 5 [(0, .ref (B + h0))] := hl
  obtain ⟨σ0, eσ⟩ : ∃ σ0 : ez_H, σ0 = σ := ⟨_, rfl⟩
  rw [← eσ] at hret
  have hS : ez_S X B s.heap σ0.length σ s.heap [] := eσ ▸ hS
  obtain ⟨-, h⟩ := ez_in h
  have K_40 : ∀ (k_6 : ez_H → Nat → Int32 → Int32 → Int32 → Option (Int32 × ez_H)) (hk_6 : ∀ (σ : ez_H) (h0 : Nat) (x1 : Int32) (x2 : Int32) (x3 : Int32) (H : Heap) (locs : List Loc) (ls : Array Slot), ez_S X B s.heap (σ0.length) σ H locs → k_6 σ h0 x1 x2 x3 = some z → lv_has ls 5 [(0, .ref (B + h0)), (1, .int x1), (2, .int x2), (3, .int x3)] → W p l e R s m args below meth c H locs 0 0 Q (F0 m 6 ls [])), ∀ (σ : ez_H) (h0 : Nat) (x1 : Int32) (x2 : Int32) (x3 : Int32) (H : Heap) (locs : List Loc) (ls : Array Slot), ez_S X B s.heap (σ0.length) σ H locs → z_X11_haunted_40 k_6 σ h0 x1 x2 x3 = some z → lv_has ls 5 [(0, .ref (B + h0)), (1, .int x1), (2, .int x2), (3, .int x3)] → W p l e R s m args below meth c H locs 0 0 Q (F0 m 40 ls []) := by
    intro k_6 hk_6 σ h0 x1 x2 x3 H locs ls hS h hl
    obtain ⟨t_40, e_40, h⟩ := ez_let_sp h
    refine lv_iinc (v := t_40) (lv' := [(3, .int t_40), (0, .ref (B + h0)), (1, .int x1), (2, .int x2)]) hx hb dX11_haunted_40 hl (k := 3) rfl (by rw [e_40]; rfl) (by decide) rfl (fun ls hl => ?_)
    refine lv_goto (tgt := 6) hx hb dX11_haunted_43 (by decide) ?_
    exact hk_6 σ h0 x1 x2 t_40 _ _ _ hS h (lv_sub hl [1, 2, 3, 0] rfl)
  have K_35 : ∀ (k_6 : ez_H → Nat → Int32 → Int32 → Int32 → Option (Int32 × ez_H)) (hk_6 : ∀ (σ : ez_H) (h0 : Nat) (x1 : Int32) (x2 : Int32) (x3 : Int32) (H : Heap) (locs : List Loc) (ls : Array Slot), ez_S X B s.heap (σ0.length) σ H locs → k_6 σ h0 x1 x2 x3 = some z → lv_has ls 5 [(0, .ref (B + h0)), (1, .int x1), (2, .int x2), (3, .int x3)] → W p l e R s m args below meth c H locs 0 0 Q (F0 m 6 ls [])), ∀ (σ : ez_H) (h0 : Nat) (x3 : Int32) (x4 : Int32) (H : Heap) (locs : List Loc) (ls : Array Slot), ez_S X B s.heap (σ0.length) σ H locs → z_X11_haunted_35 k_6 σ h0 x3 x4 = some z → lv_has ls 5 [(0, .ref (B + h0)), (3, .int x3), (4, .int x4)] → W p l e R s m args below meth c H locs 0 0 Q (F0 m 35 ls []) := by
    intro k_6 hk_6 σ h0 x3 x4 H locs ls hS h hl
    refine lv_iload_n hx hb dX11_haunted_35 rfl (lv_at hl 1 rfl) ?_
    refine lv_istore_n (lv' := [(1, .int x3), (0, .ref (B + h0)), (3, .int x3), (4, .int x4)]) hx hb dX11_haunted_36 rfl hl (by decide) rfl (fun ls hl => ?_)
    refine lv_iload hx hb dX11_haunted_37 (lv_at hl 3 rfl) ?_
    refine lv_istore_n (lv' := [(2, .int x4), (1, .int x3), (0, .ref (B + h0)), (3, .int x3), (4, .int x4)]) hx hb dX11_haunted_39 rfl hl (by decide) rfl (fun ls hl => ?_)
    exact K_40 k_6 hk_6 σ h0 x3 x4 x3 _ _ _ hS h (lv_sub hl [2, 1, 0, 3] rfl)
  have K_6 : ∀ (k_6 : ez_H → Nat → Int32 → Int32 → Int32 → Option (Int32 × ez_H)) (hk_6 : ∀ (σ : ez_H) (h0 : Nat) (x1 : Int32) (x2 : Int32) (x3 : Int32) (H : Heap) (locs : List Loc) (ls : Array Slot), ez_S X B s.heap (σ0.length) σ H locs → k_6 σ h0 x1 x2 x3 = some z → lv_has ls 5 [(0, .ref (B + h0)), (1, .int x1), (2, .int x2), (3, .int x3)] → W p l e R s m args below meth c H locs 0 0 Q (F0 m 6 ls [])), ∀ (σ : ez_H) (h0 : Nat) (x1 : Int32) (x2 : Int32) (x3 : Int32) (H : Heap) (locs : List Loc) (ls : Array Slot), ez_S X B s.heap (σ0.length) σ H locs → z_X11_haunted_6 k_6 σ h0 x1 x2 x3 = some z → lv_has ls 5 [(0, .ref (B + h0)), (1, .int x1), (2, .int x2), (3, .int x3)] → W p l e R s m args below meth c H locs 0 0 Q (F0 m 6 ls []) := by
    intro k_6 hk_6 σ h0 x1 x2 x3 H locs ls hS h hl
    refine lv_iload_n hx hb dX11_haunted_6 rfl (lv_at hl 3 rfl) ?_
    refine lv_aload_n hx hb dX11_haunted_7 rfl (lv_at hl 0 rfl) ?_
    refine eg_RX11_29 hC hS h dX11_haunted_8 (fun t_8 h => ?_)
    refine eg_RX11_392 hC hS h dX11_haunted_11 (fun t_11 h => ?_)
    refine lv_icmp_ge (tgt := 46) hx hb dX11_haunted_14 (by decide) (fun c_14 => ?_) (fun c_14 => ?_)
    · replace h := ez_ifp h c_14
      refine lv_iload_n hx hb dX11_haunted_46 rfl (lv_at hl 1 rfl) ?_
      exact hret _ _ _ _ _ _ (Option.some.inj h) rfl hS dX11_haunted_47
    · replace h := ez_ifn h c_14
      refine lv_aload_n hx hb dX11_haunted_17 rfl (lv_at hl 0 rfl) ?_
      refine lv_iload_n hx hb dX11_haunted_18 rfl (lv_at hl 3 rfl) ?_
      refine ez_cVi (As := [.int x3]) (rest := []) h (fun _ q => c_X11_ghosts q) hC k_X11_ghosts ql_RX11_395 rfl (by decide) hS (fun _ q => ez_rcv q) rfl hl.1 rfl (Nat.le_of_ble_eq_true rfl) ⟨Nat.zero_le _, Nat.zero_le _⟩ dX11_haunted_19 (fun t_19 σ H locs hS h => ?_)
      refine lv_istore (lv' := [(4, .int t_19), (0, .ref (B + h0)), (1, .int x1), (2, .int x2), (3, .int x3)]) hx hb dX11_haunted_22 hl (by decide) rfl (fun ls hl => ?_)
      refine lv_iload_n hx hb dX11_haunted_24 rfl (lv_at hl 2 rfl) ?_
      refine lv_iconst (v := -1) hx hb dX11_haunted_25 (by decide) ?_
      refine lv_icmp_eq (tgt := 35) hx hb dX11_haunted_26 (by decide) (fun c_26 => ?_) (fun c_26 => ?_)
      · replace h := ez_ifp h c_26
        exact K_35 k_6 hk_6 σ h0 x3 t_19 _ _ _ hS h (lv_sub hl [1, 4, 0] rfl)
      · replace h := ez_ifn h c_26
        refine lv_iload hx hb dX11_haunted_29 (lv_at hl 0 rfl) ?_
        refine lv_iload_n hx hb dX11_haunted_31 rfl (lv_at hl 3 rfl) ?_
        refine lv_icmp_le (tgt := 40) hx hb dX11_haunted_32 (by decide) (fun c_32 => ?_) (fun c_32 => ?_)
        · replace h := ez_ifp h c_32
          exact K_40 k_6 hk_6 σ h0 x1 x2 x3 _ _ _ hS h (lv_sub hl [1, 2, 3, 4] rfl)
        · replace h := ez_ifn h c_32
          exact K_35 k_6 hk_6 σ h0 x3 t_19 _ _ _ hS h (lv_sub hl [1, 4, 0] rfl)
  have E_6 : ∀ (σ : ez_H) (h0 : Nat) (x1 : Int32) (x2 : Int32) (x3 : Int32) (H : Heap) (locs : List Loc) (ls : Array Slot), ez_S X B s.heap (σ0.length) σ H locs → (ez_fix (fun _ _ _ _ _ => none) (z_X11_haunted_6) ez_N) σ h0 x1 x2 x3 = some z → lv_has ls 5 [(0, .ref (B + h0)), (1, .int x1), (2, .int x2), (3, .int x3)] → W p l e R s m args below meth c H locs 0 0 Q (F0 m 6 ls []) := ez_fix_ind (fun k_6 : ez_H → Nat → Int32 → Int32 → Int32 → Option (Int32 × ez_H) => ∀ (σ : ez_H) (h0 : Nat) (x1 : Int32) (x2 : Int32) (x3 : Int32) (H : Heap) (locs : List Loc) (ls : Array Slot), ez_S X B s.heap (σ0.length) σ H locs → k_6 σ h0 x1 x2 x3 = some z → lv_has ls 5 [(0, .ref (B + h0)), (1, .int x1), (2, .int x2), (3, .int x3)] → W p l e R s m args below meth c H locs 0 0 Q (F0 m 6 ls [])) (fun _ _ _ _ _ _ _ _ _ h _ => by cases h) (fun k_6 hk_6 => K_6 k_6 hk_6) ez_N
  refine lv_iconst (v := -1) hx hb dX11_haunted_0 (by decide) ?_
  refine lv_istore_n (lv' := [(1, .int (-1)), (0, .ref (B + h0))]) hx hb dX11_haunted_1 rfl hl (by decide) rfl (fun ls hl => ?_)
  refine lv_iconst (v := 0) hx hb dX11_haunted_2 (by decide) ?_
  refine lv_istore_n (lv' := [(2, .int 0), (1, .int (-1)), (0, .ref (B + h0))]) hx hb dX11_haunted_3 rfl hl (by decide) rfl (fun ls hl => ?_)
  refine lv_iconst (v := 0) hx hb dX11_haunted_4 (by decide) ?_
  refine lv_istore_n (lv' := [(3, .int 0), (2, .int 0), (1, .int (-1)), (0, .ref (B + h0))]) hx hb dX11_haunted_5 rfl hl (by decide) rfl (fun ls hl => ?_)
  exact E_6  σ h0 (-1 : Int32) (0 : Int32) (0 : Int32) _ _ _ hS h (lv_sub hl [3, 2, 1, 0] rfl)
set_option maxHeartbeats 4000000 in
set_option maxRecDepth 100000 in
theorem c_X11_idle {l : Launch} {X : ez_X} {B : Nat} {σ : ez_H} {h0 : Nat} {x1 : Int32} {z : Int32} (h : z_X11_idle σ h0 x1 = some z) : ez_M l X B σ yX11_idle cX11_idle 2 (some .int) 3 [.ref (B + h0), .int x1] (some (.int z)) σ := by
  refine ez_startip (z := z) (by decide) (Nat.le_of_ble_eq_true rfl) (fun p e R s m args below meth c Q hC hret hS ls hl => ?_)
  have hC : ez_C p R s m args c X B RX11 cX11_idle 2 3 := hC
  have hx := hC.1.1
  have hb := hC.1.2.1
  have hown := hC.1.2.2.2.1
  have hts := hC.1.2.2.2.2
  have hl : lv_has ls 2 [(0, .ref (B + h0)), (1, .int x1)] := hl
  obtain ⟨n0, e0⟩ : ∃ n0 : Nat, n0 = σ.length := ⟨_, rfl⟩
  rw [← e0] at hret hS
  obtain ⟨-, h⟩ := ez_in h
  refine lv_iload_n hx hb dX11_idle_0 rfl (lv_at hl 1 rfl) ?_
  by_cases s_1_0 : x1 = 0
  · replace h := ez_ifp h s_1_0
    refine lv_lookup (tgt := 28) hx hb dX11_idle_1 (by decide) (by first | (rw [s_1_0]; done) | (rw [s_1_0]; rfl)) (by decide) ?_
    refine lv_aload_n hx hb dX11_idle_28 rfl (lv_at hl 0 rfl) ?_
    refine eg_RX11_41 hC hS h dX11_idle_29 (fun t_29 h => ?_)
    refine lv_iconst (v := -1) hx hb dX11_idle_32 (by decide) ?_
    refine lv_aload_n hx hb dX11_idle_33 rfl (lv_at hl 0 rfl) ?_
    refine eg_RX11_29 hC hS h dX11_idle_34 (fun t_34 h => ?_)
    refine eg_RX11_128 hC hS h dX11_idle_37 (fun t_37 h => ?_)
    refine ez_cVpi (As := [.int (-1), .int t_37]) (rest := []) h (fun _ q => c_X7_heldBy q) hC k_X7_heldBy ql_RX11_206 rfl (by decide) hS (fun _ q => ez_rcv q) rfl hl.1 rfl (Nat.le_of_ble_eq_true rfl) ⟨Nat.zero_le _, Nat.zero_le _⟩ dX11_idle_40 (fun t_40 H locs hS h => ?_)
    exact hret _ _ _ _ _ (Option.some.inj h) rfl hS dX11_idle_43
  replace h := ez_ifn h s_1_0
  by_cases s_1_1 : x1 = 1
  · replace h := ez_ifp h s_1_1
    refine lv_lookup (tgt := 44) hx hb dX11_idle_1 (by decide) (by first | (rw [s_1_1]; done) | (rw [s_1_1]; rfl)) (by decide) ?_
    refine lv_aload_n hx hb dX11_idle_44 rfl (lv_at hl 0 rfl) ?_
    refine eg_RX11_41 hC hS h dX11_idle_45 (fun t_45 h => ?_)
    refine lv_bipush (v := -2) hx hb dX11_idle_48 (by decide) ?_
    refine lv_aload_n hx hb dX11_idle_50 rfl (lv_at hl 0 rfl) ?_
    refine eg_RX11_29 hC hS h dX11_idle_51 (fun t_51 h => ?_)
    refine eg_RX11_128 hC hS h dX11_idle_54 (fun t_54 h => ?_)
    refine ez_cVpi (As := [.int (-2), .int t_54]) (rest := []) h (fun _ q => c_X7_heldBy q) hC k_X7_heldBy ql_RX11_206 rfl (by decide) hS (fun _ q => ez_rcv q) rfl hl.1 rfl (Nat.le_of_ble_eq_true rfl) ⟨Nat.zero_le _, Nat.zero_le _⟩ dX11_idle_57 (fun t_57 H locs hS h => ?_)
    exact hret _ _ _ _ _ (Option.some.inj h) rfl hS dX11_idle_60
  replace h := ez_ifn h s_1_1
  refine lv_lookup (off := 60) (tgt := 61) hx hb dX11_idle_1 (by decide) (by simp only [Op.lookupswitch.offset_cons, Op.lookupswitch.offset_nil]; rw [if_neg (fun q => ez_toNe (k := 0) s_1_0 (by decide) q.symm), if_neg (fun q => ez_toNe (k := 1) s_1_1 (by decide) q.symm)]) (by decide) ?_
  refine lv_iconst (v := -1) hx hb dX11_idle_61 (by decide) ?_
  exact hret _ _ _ _ _ (Option.some.inj h) rfl hS dX11_idle_62
set_option maxHeartbeats 4000000 in
set_option maxRecDepth 100000 in
theorem c_X11_image {l : Launch} {X : ez_X} {B : Nat} {σ : ez_H} {h0 : Nat} {x1 : Int32} {z : Int32 × ez_H} (h : z_X11_image σ h0 x1 = some z) : ez_M l X B σ yX11_image cX11_image 2 (some .int) 3 [.ref (B + h0), .int x1] (some (.int z.1)) z.2 := by
  refine ez_starti (z := z) (by decide) (Nat.le_of_ble_eq_true rfl) (fun p e R s m args below meth c Q hC hret hS ls hl => ?_)
  have hC : ez_C p R s m args c X B RX11 cX11_image 2 3 := hC
  have hx := hC.1.1
  have hb := hC.1.2.1
  have hown := hC.1.2.2.2.1
  have hts := hC.1.2.2.2.2
  have hl : lv_has ls 2 [(0, .ref (B + h0)), (1, .int x1)] := hl
  obtain ⟨σ0, eσ⟩ : ∃ σ0 : ez_H, σ0 = σ := ⟨_, rfl⟩
  rw [← eσ] at hret
  have hS : ez_S X B s.heap σ0.length σ s.heap [] := eσ ▸ hS
  obtain ⟨-, h⟩ := ez_in h
  have K_9 : ∀ (σ : ez_H) (H : Heap) (locs : List Loc) (ls : Array Slot), ez_S X B s.heap (σ0.length) σ H locs → z_X11_image_9 σ = some z → lv_has ls 2 [] → W p l e R s m args below meth c H locs 0 0 Q (F0 m 9 ls []) := by
    intro σ H locs ls hS h hl
    refine lv_iconst (v := -1) hx hb dX11_image_9 (by decide) ?_
    exact hret _ _ _ _ _ _ (Option.some.inj h) rfl hS dX11_image_10
  refine lv_iload_n hx hb dX11_image_0 rfl (lv_at hl 1 rfl) ?_
  refine lv_if_lt (tgt := 9) hx hb dX11_image_1 (by decide) (fun c_1 => ?_) (fun c_1 => ?_)
  · replace h := ez_ifp h c_1
    exact K_9  σ _ _ _ hS h (lv_sub hl [] rfl)
  · replace h := ez_ifn h c_1
    refine lv_iload_n hx hb dX11_image_4 rfl (lv_at hl 1 rfl) ?_
    refine lv_iconst (v := 3) hx hb dX11_image_5 (by decide) ?_
    refine lv_icmp_lt (tgt := 11) hx hb dX11_image_6 (by decide) (fun c_6 => ?_) (fun c_6 => ?_)
    · replace h := ez_ifp h c_6
      refine lv_aload_n hx hb dX11_image_11 rfl (lv_at hl 0 rfl) ?_
      refine eg_RX11_55 hC hS h dX11_image_12 (fun t_12 h => ?_)
      refine lv_iload_n hx hb dX11_image_15 rfl (lv_at hl 1 rfl) ?_
      refine ez_sal hC hS h dX11_image_16 (fun t_16 h => ?_)
      refine lv_aload_n hx hb dX11_image_17 rfl (lv_at hl 0 rfl) ?_
      refine eg_RX11_41 hC hS h dX11_image_18 (fun t_18 h => ?_)
      refine ez_cVv (As := [.ref (B + t_18)]) (rest := []) h (fun _ q => c_X7_copyFrom q) hC k_X7_copyFrom ql_RX11_118 rfl (by decide) hS (fun _ q => ez_rcv q) rfl hl.1 rfl (Nat.le_of_ble_eq_true rfl) ⟨Nat.zero_le _, Nat.zero_le _⟩ dX11_image_21 (fun _ σ H locs hS h => ?_)
      refine lv_aload_n hx hb dX11_image_24 rfl (lv_at hl 0 rfl) ?_
      refine lv_dup hx hb dX11_image_25 rfl ?_
      refine eg_RX11_59 hC hS h dX11_image_26 (fun t_26 h => ?_)
      refine lv_iconst (v := 1) hx hb dX11_image_29 (by decide) ?_
      refine lv_iload_n hx hb dX11_image_30 rfl (lv_at hl 1 rfl) ?_
      refine lv_ishl hx hb dX11_image_31 ?_
      refine ez_top h (fun t_31 h => ?_)
      refine lv_ior hx hb dX11_image_32 ?_
      refine ez_top h (fun t_32 h => ?_)
      refine ep_RX11_59 hC hS h dX11_image_33 (fun σ H locs hS h => ?_)
      refine lv_aload_n hx hb dX11_image_36 rfl (lv_at hl 0 rfl) ?_
      refine eg_RX11_41 hC hS h dX11_image_37 (fun t_37 h => ?_)
      refine lv_bipush (v := -2) hx hb dX11_image_40 (by decide) ?_
      refine lv_aload_n hx hb dX11_image_42 rfl (lv_at hl 0 rfl) ?_
      refine eg_RX11_29 hC hS h dX11_image_43 (fun t_43 h => ?_)
      refine eg_RX11_128 hC hS h dX11_image_46 (fun t_46 h => ?_)
      refine ez_cVpi (As := [.int (-2), .int t_46]) (rest := []) h (fun _ q => c_X7_heldBy q) hC k_X7_heldBy ql_RX11_206 rfl (by decide) hS (fun _ q => ez_rcv q) rfl hl.1 rfl (Nat.le_of_ble_eq_true rfl) ⟨Nat.zero_le _, Nat.zero_le _⟩ dX11_image_49 (fun t_49 H locs hS h => ?_)
      refine ez_cSpi (As := [.int t_49]) (rest := []) h (fun _ q => c_J6_bitCount_0f7a4 q) hC k_J6_bitCount_0f7a4 ql_RX11_171 rfl (by decide) hS hl.1 rfl (Nat.le_of_ble_eq_true rfl) ⟨Nat.zero_le _, Nat.zero_le _⟩ dX11_image_52 (fun t_52 H locs hS h => ?_)
      exact hret _ _ _ _ _ _ (Option.some.inj h) rfl hS dX11_image_55
    · replace h := ez_ifn h c_6
      exact K_9  σ _ _ _ hS h (lv_sub hl [] rfl)
set_option maxHeartbeats 4000000 in
set_option maxRecDepth 100000 in
theorem c_X5_lettingIn {l : Launch} {X : ez_X} {B : Nat} {σ : ez_H} {h0 : Nat} {x1 : Int32} {x2 : Int32} {x3 : Int32} {z : Int32} (h : z_X5_lettingIn σ h0 x1 x2 x3 = some z) : ez_M l X B σ yX5_lettingIn cX5_lettingIn 5 (some .int) 4 [.ref (B + h0), .int x1, .int x2, .int x3] (some (.int z)) σ := by
  refine ez_startip (z := z) (by decide) (Nat.le_of_ble_eq_true rfl) (fun p e R s m args below meth c Q hC hret hS ls hl => ?_)
  have hC : ez_C p R s m args c X B RX5 cX5_lettingIn 5 4 := hC
  have hx := hC.1.1
  have hb := hC.1.2.1
  have hown := hC.1.2.2.2.1
  have hts := hC.1.2.2.2.2
  have hl : lv_has ls 5 [(0, .ref (B + h0)), (1, .int x1), (2, .int x2), (3, .int x3)] := hl
  obtain ⟨n0, e0⟩ : ∃ n0 : Nat, n0 = σ.length := ⟨_, rfl⟩
  rw [← e0] at hret hS
  obtain ⟨-, h⟩ := ez_in h
  have K_45 : ∀ (y0 : Int32) (H : Heap) (locs : List Loc) (ls : Array Slot), ez_S X B s.heap (n0) σ H locs → z_X5_lettingIn_45 σ y0 = some z → lv_has ls 5 [] → W p l e R s m args below meth c H locs 0 0 Q (F0 m 45 ls [.int y0]) := by
    intro y0 H locs ls hS h hl
    exact hret _ _ _ _ _ (Option.some.inj h) rfl hS dX5_lettingIn_45
  refine lv_aload_n hx hb dX5_lettingIn_0 rfl (lv_at hl 0 rfl) ?_
  refine eg_RX5_9 hC hS h dX5_lettingIn_1 (fun t_1 h => ?_)
  refine lv_iload_n hx hb dX5_lettingIn_4 rfl (lv_at hl 2 rfl) ?_
  refine ez_cVpi (As := [.int x2]) (rest := []) h (fun _ q => c_X3_mustOf q) hC k_X3_mustOf ql_RX5_55 rfl (by decide) hS (fun _ q => ez_rcv q) rfl hl.1 rfl (Nat.le_of_ble_eq_true rfl) ⟨Nat.zero_le _, Nat.zero_le _⟩ dX5_lettingIn_5 (fun t_5 H locs hS h => ?_)
  refine lv_iload_n hx hb dX5_lettingIn_8 rfl (lv_at hl 3 rfl) ?_
  refine lv_ishr hx hb dX5_lettingIn_9 ?_
  refine ez_top h (fun t_9 h => ?_)
  refine lv_iconst (v := 1) hx hb dX5_lettingIn_10 (by decide) ?_
  refine lv_iand hx hb dX5_lettingIn_11 ?_
  refine ez_top h (fun t_11 h => ?_)
  refine lv_if_ne (tgt := 46) hx hb dX5_lettingIn_12 (by decide) (fun c_12 => ?_) (fun c_12 => ?_)
  · replace h := ez_ifn h c_12
    refine lv_aload_n hx hb dX5_lettingIn_46 rfl (lv_at hl 0 rfl) ?_
    refine eg_RX5_15 hC hS h dX5_lettingIn_47 (fun t_47 h => ?_)
    refine lv_iload_n hx hb dX5_lettingIn_50 rfl (lv_at hl 1 rfl) ?_
    refine ez_cVpi (As := [.int x1]) (rest := []) h (fun _ q => c_X7_bits q) hC k_X7_bits ql_RX5_37 rfl (by decide) hS (fun _ q => ez_rcv q) rfl hl.1 rfl (Nat.le_of_ble_eq_true rfl) ⟨Nat.zero_le _, Nat.zero_le _⟩ dX5_lettingIn_51 (fun t_51 H locs hS h => ?_)
    refine lv_aload_n hx hb dX5_lettingIn_54 rfl (lv_at hl 0 rfl) ?_
    refine lv_aload_n hx hb dX5_lettingIn_55 rfl (lv_at hl 0 rfl) ?_
    refine eg_RX5_9 hC hS h dX5_lettingIn_56 (fun t_56 h => ?_)
    refine lv_iload_n hx hb dX5_lettingIn_59 rfl (lv_at hl 2 rfl) ?_
    refine ez_cVpi (As := [.int x2]) (rest := [.ref (B + h0), .int t_51]) h (fun _ q => c_X3_mustOf q) hC k_X3_mustOf ql_RX5_55 rfl (by decide) hS (fun _ q => ez_rcv q) rfl hl.1 rfl (Nat.le_of_ble_eq_true rfl) ⟨Nat.zero_le _, Nat.zero_le _⟩ dX5_lettingIn_60 (fun t_60 H locs hS h => ?_)
    refine lv_iconst (v := 1) hx hb dX5_lettingIn_63 (by decide) ?_
    refine lv_iload_n hx hb dX5_lettingIn_64 rfl (lv_at hl 3 rfl) ?_
    refine lv_ishl hx hb dX5_lettingIn_65 ?_
    refine ez_top h (fun t_65 h => ?_)
    refine lv_iconst (v := -1) hx hb dX5_lettingIn_66 (by decide) ?_
    refine lv_ixor hx hb dX5_lettingIn_67 ?_
    refine ez_top h (fun t_67 h => ?_)
    refine lv_iand hx hb dX5_lettingIn_68 ?_
    refine ez_top h (fun t_68 h => ?_)
    refine ez_cVpi (As := [.int t_68]) (rest := [.int t_51]) h (fun _ q => c_X5_pinsFor q) hC k_X5_pinsFor ql_RX5_58 rfl (by decide) hS (fun _ q => ez_rcv q) rfl hl.1 rfl (Nat.le_of_ble_eq_true rfl) ⟨Nat.zero_le _, Nat.zero_le _⟩ dX5_lettingIn_69 (fun t_69 H locs hS h => ?_)
    refine lv_iconst (v := -1) hx hb dX5_lettingIn_72 (by decide) ?_
    refine lv_ixor hx hb dX5_lettingIn_73 ?_
    refine ez_top h (fun t_73 h => ?_)
    refine lv_iand hx hb dX5_lettingIn_74 ?_
    refine ez_top h (fun t_74 h => ?_)
    refine lv_istore (lv' := [(4, .int t_74), (0, .ref (B + h0)), (1, .int x1), (2, .int x2), (3, .int x3)]) hx hb dX5_lettingIn_75 hl (by decide) rfl (fun ls hl => ?_)
    refine lv_iload hx hb dX5_lettingIn_77 (lv_at hl 0 rfl) ?_
    refine lv_aload_n hx hb dX5_lettingIn_79 rfl (lv_at hl 1 rfl) ?_
    refine eg_RX5_25 hC hS h dX5_lettingIn_80 (fun t_80 h => ?_)
    refine lv_iload hx hb dX5_lettingIn_83 (lv_at hl 0 rfl) ?_
    refine ez_cVpi (As := [.int t_74]) (rest := [.int t_74]) h (fun _ q => c_X6_everythingBut q) hC k_X6_everythingBut ql_RX5_98 rfl (by decide) hS (fun _ q => ez_rcv q) rfl hl.1 rfl (Nat.le_of_ble_eq_true rfl) ⟨Nat.zero_le _, Nat.zero_le _⟩ dX5_lettingIn_85 (fun t_85 H locs hS h => ?_)
    refine lv_ior hx hb dX5_lettingIn_88 ?_
    refine ez_top h (fun t_88 h => ?_)
    exact hret _ _ _ _ _ (Option.some.inj h) rfl hS dX5_lettingIn_89
  · replace h := ez_ifp h c_12
    refine lv_aload_n hx hb dX5_lettingIn_15 rfl (lv_at hl 0 rfl) ?_
    refine eg_RX5_15 hC hS h dX5_lettingIn_16 (fun t_16 h => ?_)
    refine lv_iload_n hx hb dX5_lettingIn_19 rfl (lv_at hl 1 rfl) ?_
    refine ez_cVpi (As := [.int x1]) (rest := []) h (fun _ q => c_X7_bits q) hC k_X7_bits ql_RX5_37 rfl (by decide) hS (fun _ q => ez_rcv q) rfl hl.1 rfl (Nat.le_of_ble_eq_true rfl) ⟨Nat.zero_le _, Nat.zero_le _⟩ dX5_lettingIn_20 (fun t_20 H locs hS h => ?_)
    refine lv_aload_n hx hb dX5_lettingIn_23 rfl (lv_at hl 0 rfl) ?_
    refine lv_iload_n hx hb dX5_lettingIn_24 rfl (lv_at hl 2 rfl) ?_
    refine ez_cVpi (As := [.int x2]) (rest := [.int t_20]) h (fun _ q => c_X5_lawfulPins q) hC k_X5_lawfulPins ql_RX5_61 rfl (by decide) hS (fun _ q => ez_rcv q) rfl hl.1 rfl (Nat.le_of_ble_eq_true rfl) ⟨Nat.zero_le _, Nat.zero_le _⟩ dX5_lettingIn_25 (fun t_25 H locs hS h => ?_)
    refine ez_cSpi (As := [.int t_20, .int t_25]) (rest := []) h (fun _ q => c_X6_fitsIn q) hC k_X6_fitsIn ql_RX5_46 rfl (by decide) hS hl.1 rfl (Nat.le_of_ble_eq_true rfl) ⟨Nat.zero_le _, Nat.zero_le _⟩ dX5_lettingIn_28 (fun t_28 H locs hS h => ?_)
    refine lv_if_eq (tgt := 44) hx hb dX5_lettingIn_31 (by decide) (fun c_31 => ?_) (fun c_31 => ?_)
    · replace h := ez_ifp h c_31
      refine lv_iconst (v := 0) hx hb dX5_lettingIn_44 (by decide) ?_
      exact K_45  (0 : Int32) _ _ _ hS h (lv_sub hl [] rfl)
    · replace h := ez_ifn h c_31
      refine lv_aload_n hx hb dX5_lettingIn_34 rfl (lv_at hl 0 rfl) ?_
      refine eg_RX5_25 hC hS h dX5_lettingIn_35 (fun t_35 h => ?_)
      refine ez_cVpi (As := []) (rest := []) h (fun _ q => c_X6_everything q) hC k_X6_everything ql_RX5_95 rfl (by decide) hS (fun _ q => ez_rcv q) rfl hl.1 rfl (Nat.le_of_ble_eq_true rfl) ⟨Nat.zero_le _, Nat.zero_le _⟩ dX5_lettingIn_38 (fun t_38 H locs hS h => ?_)
      refine lv_goto (tgt := 45) hx hb dX5_lettingIn_41 (by decide) ?_
      exact K_45  t_38 _ _ _ hS h (lv_sub hl [] rfl)
set_option maxHeartbeats 4000000 in
set_option maxRecDepth 100000 in
theorem c_X5_addBar {l : Launch} {X : ez_X} {B : Nat} {σ : ez_H} {h0 : Nat} {x1 : Int32} {z : Unit × ez_H} (h : z_X5_addBar σ h0 x1 = some z) : ez_M l X B σ yX5_addBar cX5_addBar 2 (none) 0 [.ref (B + h0), .int x1] (none) z.2 := by
  refine ez_startv (z := z) (by decide) (Nat.le_of_ble_eq_true rfl) (fun p e R s m args below meth c Q hC hret hS ls hl => ?_)
  have hC : ez_C p R s m args c X B RX5 cX5_addBar 2 0 := hC
  have hx := hC.1.1
  have hb := hC.1.2.1
  have hown := hC.1.2.2.2.1
  have hts := hC.1.2.2.2.2
  have hl : lv_has ls 2 [(0, .ref (B + h0)), (1, .int x1)] := hl
  obtain ⟨σ0, eσ⟩ : ∃ σ0 : ez_H, σ0 = σ := ⟨_, rfl⟩
  rw [← eσ] at hret
  have hS : ez_S X B s.heap σ0.length σ s.heap [] := eσ ▸ hS
  obtain ⟨-, h⟩ := ez_in h
  have K_40 : ∀ (σ : ez_H) (H : Heap) (locs : List Loc) (ls : Array Slot), ez_S X B s.heap (σ0.length) σ H locs → z_X5_addBar_40 σ = some z → lv_has ls 2 [] → W p l e R s m args below meth c H locs 0 0 Q (F0 m 40 ls []) := by
    intro σ H locs ls hS h hl
    exact hret _ _ _ _ _ _ (Option.some.inj h) hS dX5_addBar_40
  refine lv_iload_n hx hb dX5_addBar_0 rfl (lv_at hl 1 rfl) ?_
  refine lv_if_eq (tgt := 40) hx hb dX5_addBar_1 (by decide) (fun c_1 => ?_) (fun c_1 => ?_)
  · replace h := ez_ifp h c_1
    exact K_40  σ _ _ _ hS h (lv_sub hl [] rfl)
  · replace h := ez_ifn h c_1
    refine lv_aload_n hx hb dX5_addBar_4 rfl (lv_at hl 0 rfl) ?_
    refine eg_RX5_30 hC hS h dX5_addBar_5 (fun t_5 h => ?_)
    refine lv_if_lt (tgt := 40) hx hb dX5_addBar_8 (by decide) (fun c_8 => ?_) (fun c_8 => ?_)
    · replace h := ez_ifp h c_8
      exact K_40  σ _ _ _ hS h (lv_sub hl [] rfl)
    · replace h := ez_ifn h c_8
      refine lv_aload_n hx hb dX5_addBar_11 rfl (lv_at hl 0 rfl) ?_
      refine eg_RX5_30 hC hS h dX5_addBar_12 (fun t_12 h => ?_)
      refine lv_bipush (v := 48) hx hb dX5_addBar_15 (by decide) ?_
      refine lv_icmp_ge (tgt := 40) hx hb dX5_addBar_17 (by decide) (fun c_17 => ?_) (fun c_17 => ?_)
      · replace h := ez_ifp h c_17
        exact K_40  σ _ _ _ hS h (lv_sub hl [] rfl)
      · replace h := ez_ifn h c_17
        refine lv_aload_n hx hb dX5_addBar_20 rfl (lv_at hl 0 rfl) ?_
        refine eg_RX5_26 hC hS h dX5_addBar_21 (fun t_21 h => ?_)
        refine lv_aload_n hx hb dX5_addBar_24 rfl (lv_at hl 0 rfl) ?_
        refine eg_RX5_30 hC hS h dX5_addBar_25 (fun t_25 h => ?_)
        refine lv_iload_n hx hb dX5_addBar_28 rfl (lv_at hl 1 rfl) ?_
        refine ez_ias hC hS h dX5_addBar_29 (fun σ H locs hS h => ?_)
        refine lv_aload_n hx hb dX5_addBar_30 rfl (lv_at hl 0 rfl) ?_
        refine lv_dup hx hb dX5_addBar_31 rfl ?_
        refine eg_RX5_30 hC hS h dX5_addBar_32 (fun t_32 h => ?_)
        refine lv_iconst (v := 1) hx hb dX5_addBar_35 (by decide) ?_
        refine lv_iadd hx hb dX5_addBar_36 ?_
        refine ez_top h (fun t_36 h => ?_)
        refine ep_RX5_30 hC hS h dX5_addBar_37 (fun σ H locs hS h => ?_)
        exact K_40  σ _ _ _ hS h (lv_sub hl [] rfl)
set_option maxHeartbeats 4000000 in
set_option maxRecDepth 100000 in
theorem c_X5_gatherBars {l : Launch} {X : ez_X} {B : Nat} {σ : ez_H} {h0 : Nat} {x1 : Int32} {z : Unit × ez_H} (h : z_X5_gatherBars σ h0 x1 = some z) : ez_M l X B σ yX5_gatherBars cX5_gatherBars 4 (none) 5 [.ref (B + h0), .int x1] (none) z.2 := by
  refine ez_startv (z := z) (by decide) (Nat.le_of_ble_eq_true rfl) (fun p e R s m args below meth c Q hC hret hS ls hl => ?_)
  have hC : ez_C p R s m args c X B RX5 cX5_gatherBars 4 5 := hC
  have hx := hC.1.1
  have hb := hC.1.2.1
  have hown := hC.1.2.2.2.1
  have hts := hC.1.2.2.2.2
  have hl : lv_has ls 4 [(0, .ref (B + h0)), (1, .int x1)] := hl
  obtain ⟨σ0, eσ⟩ : ∃ σ0 : ez_H, σ0 = σ := ⟨_, rfl⟩
  rw [← eσ] at hret
  have hS : ez_S X B s.heap σ0.length σ s.heap [] := eσ ▸ hS
  obtain ⟨-, h⟩ := ez_in h
  have K_70 : ∀ (k_7 : ez_H → Nat → Int32 → Int32 → Option (Unit × ez_H)) (hk_7 : ∀ (σ : ez_H) (h0 : Nat) (x1 : Int32) (x2 : Int32) (H : Heap) (locs : List Loc) (ls : Array Slot), ez_S X B s.heap (σ0.length) σ H locs → k_7 σ h0 x1 x2 = some z → lv_has ls 4 [(0, .ref (B + h0)), (1, .int x1), (2, .int x2)] → W p l e R s m args below meth c H locs 0 0 Q (F0 m 7 ls [])) (k_20 : ez_H → Nat → Int32 → Int32 → Int32 → Option (Unit × ez_H)) (hk_20 : ∀ (σ : ez_H) (h0 : Nat) (x1 : Int32) (x2 : Int32) (x3 : Int32) (H : Heap) (locs : List Loc) (ls : Array Slot), ez_S X B s.heap (σ0.length) σ H locs → k_20 σ h0 x1 x2 x3 = some z → lv_has ls 4 [(0, .ref (B + h0)), (1, .int x1), (2, .int x2), (3, .int x3)] → W p l e R s m args below meth c H locs 0 0 Q (F0 m 20 ls [])), ∀ (σ : ez_H) (h0 : Nat) (x1 : Int32) (x2 : Int32) (x3 : Int32) (H : Heap) (locs : List Loc) (ls : Array Slot), ez_S X B s.heap (σ0.length) σ H locs → z_X5_gatherBars_70 k_7 k_20 σ h0 x1 x2 x3 = some z → lv_has ls 4 [(0, .ref (B + h0)), (1, .int x1), (2, .int x2), (3, .int x3)] → W p l e R s m args below meth c H locs 0 0 Q (F0 m 70 ls []) := by
    intro k_7 hk_7 k_20 hk_20 σ h0 x1 x2 x3 H locs ls hS h hl
    obtain ⟨t_70, e_70, h⟩ := ez_let_sp h
    refine lv_iinc (v := t_70) (lv' := [(3, .int t_70), (0, .ref (B + h0)), (1, .int x1), (2, .int x2)]) hx hb dX5_gatherBars_70 hl (k := 3) rfl (by rw [e_70]; rfl) (by decide) rfl (fun ls hl => ?_)
    refine lv_goto (tgt := 20) hx hb dX5_gatherBars_73 (by decide) ?_
    exact hk_20 σ h0 x1 x2 t_70 _ _ _ hS h (lv_sub hl [1, 2, 3, 0] rfl)
  have K_67 : ∀ (k_7 : ez_H → Nat → Int32 → Int32 → Option (Unit × ez_H)) (hk_7 : ∀ (σ : ez_H) (h0 : Nat) (x1 : Int32) (x2 : Int32) (H : Heap) (locs : List Loc) (ls : Array Slot), ez_S X B s.heap (σ0.length) σ H locs → k_7 σ h0 x1 x2 = some z → lv_has ls 4 [(0, .ref (B + h0)), (1, .int x1), (2, .int x2)] → W p l e R s m args below meth c H locs 0 0 Q (F0 m 7 ls [])) (k_20 : ez_H → Nat → Int32 → Int32 → Int32 → Option (Unit × ez_H)) (hk_20 : ∀ (σ : ez_H) (h0 : Nat) (x1 : Int32) (x2 : Int32) (x3 : Int32) (H : Heap) (locs : List Loc) (ls : Array Slot), ez_S X B s.heap (σ0.length) σ H locs → k_20 σ h0 x1 x2 x3 = some z → lv_has ls 4 [(0, .ref (B + h0)), (1, .int x1), (2, .int x2), (3, .int x3)] → W p l e R s m args below meth c H locs 0 0 Q (F0 m 20 ls [])), ∀ (σ : ez_H) (h0 : Nat) (x1 : Int32) (x2 : Int32) (x3 : Int32) (y0 : Nat) (y1 : Int32) (H : Heap) (locs : List Loc) (ls : Array Slot), ez_S X B s.heap (σ0.length) σ H locs → z_X5_gatherBars_67 k_7 k_20 σ h0 x1 x2 x3 y0 y1 = some z → lv_has ls 4 [(0, .ref (B + h0)), (1, .int x1), (2, .int x2), (3, .int x3)] → W p l e R s m args below meth c H locs 0 0 Q (F0 m 67 ls [.int y1, .ref (B + y0)]) := by
    intro k_7 hk_7 k_20 hk_20 σ h0 x1 x2 x3 y0 y1 H locs ls hS h hl
    refine ez_cVv (As := [.int y1]) (rest := []) h (fun _ q => c_X5_addBar q) hC k_X5_addBar ql_RX5_92 rfl (by decide) hS (fun _ q => ez_rcv q) rfl hl.1 rfl (Nat.le_of_ble_eq_true rfl) ⟨Nat.zero_le _, Nat.zero_le _⟩ dX5_gatherBars_67 (fun _ σ H locs hS h => ?_)
    exact K_70 k_7 hk_7 k_20 hk_20 σ h0 x1 x2 x3 _ _ _ hS h (lv_sub hl [0, 1, 2, 3] rfl)
  have K_20 : ∀ (k_7 : ez_H → Nat → Int32 → Int32 → Option (Unit × ez_H)) (hk_7 : ∀ (σ : ez_H) (h0 : Nat) (x1 : Int32) (x2 : Int32) (H : Heap) (locs : List Loc) (ls : Array Slot), ez_S X B s.heap (σ0.length) σ H locs → k_7 σ h0 x1 x2 = some z → lv_has ls 4 [(0, .ref (B + h0)), (1, .int x1), (2, .int x2)] → W p l e R s m args below meth c H locs 0 0 Q (F0 m 7 ls [])) (k_20 : ez_H → Nat → Int32 → Int32 → Int32 → Option (Unit × ez_H)) (hk_20 : ∀ (σ : ez_H) (h0 : Nat) (x1 : Int32) (x2 : Int32) (x3 : Int32) (H : Heap) (locs : List Loc) (ls : Array Slot), ez_S X B s.heap (σ0.length) σ H locs → k_20 σ h0 x1 x2 x3 = some z → lv_has ls 4 [(0, .ref (B + h0)), (1, .int x1), (2, .int x2), (3, .int x3)] → W p l e R s m args below meth c H locs 0 0 Q (F0 m 20 ls [])), ∀ (σ : ez_H) (h0 : Nat) (x1 : Int32) (x2 : Int32) (x3 : Int32) (H : Heap) (locs : List Loc) (ls : Array Slot), ez_S X B s.heap (σ0.length) σ H locs → z_X5_gatherBars_20 k_7 k_20 σ h0 x1 x2 x3 = some z → lv_has ls 4 [(0, .ref (B + h0)), (1, .int x1), (2, .int x2), (3, .int x3)] → W p l e R s m args below meth c H locs 0 0 Q (F0 m 20 ls []) := by
    intro k_7 hk_7 k_20 hk_20 σ h0 x1 x2 x3 H locs ls hS h hl
    refine lv_iload_n hx hb dX5_gatherBars_20 rfl (lv_at hl 3 rfl) ?_
    refine lv_aload_n hx hb dX5_gatherBars_21 rfl (lv_at hl 0 rfl) ?_
    refine eg_RX5_9 hC hS h dX5_gatherBars_22 (fun t_22 h => ?_)
    refine eg_RX5_34 hC hS h dX5_gatherBars_25 (fun t_25 h => ?_)
    refine lv_icmp_ge (tgt := 76) hx hb dX5_gatherBars_28 (by decide) (fun c_28 => ?_) (fun c_28 => ?_)
    · replace h := ez_ifp h c_28
      obtain ⟨t_76, e_76, h⟩ := ez_let_sp h
      refine lv_iinc (v := t_76) (lv' := [(2, .int t_76), (0, .ref (B + h0)), (1, .int x1), (3, .int x3)]) hx hb dX5_gatherBars_76 hl (k := 2) rfl (by rw [e_76]; rfl) (by decide) rfl (fun ls hl => ?_)
      refine lv_goto (tgt := 7) hx hb dX5_gatherBars_79 (by decide) ?_
      exact hk_7 σ h0 x1 t_76 _ _ _ hS h (lv_sub hl [1, 2, 0] rfl)
    · replace h := ez_ifn h c_28
      refine lv_aload_n hx hb dX5_gatherBars_31 rfl (lv_at hl 0 rfl) ?_
      refine eg_RX5_9 hC hS h dX5_gatherBars_32 (fun t_32 h => ?_)
      refine lv_iload_n hx hb dX5_gatherBars_35 rfl (lv_at hl 2 rfl) ?_
      refine ez_cVpi (As := [.int x2]) (rest := []) h (fun _ q => c_X3_neverOf q) hC k_X3_neverOf ql_RX5_52 rfl (by decide) hS (fun _ q => ez_rcv q) rfl hl.1 rfl (Nat.le_of_ble_eq_true rfl) ⟨Nat.zero_le _, Nat.zero_le _⟩ dX5_gatherBars_36 (fun t_36 H locs hS h => ?_)
      refine lv_iload_n hx hb dX5_gatherBars_39 rfl (lv_at hl 3 rfl) ?_
      refine lv_ishr hx hb dX5_gatherBars_40 ?_
      refine ez_top h (fun t_40 h => ?_)
      refine lv_iconst (v := 1) hx hb dX5_gatherBars_41 (by decide) ?_
      refine lv_iand hx hb dX5_gatherBars_42 ?_
      refine ez_top h (fun t_42 h => ?_)
      refine lv_if_eq (tgt := 70) hx hb dX5_gatherBars_43 (by decide) (fun c_43 => ?_) (fun c_43 => ?_)
      · replace h := ez_ifp h c_43
        exact K_70 k_7 hk_7 k_20 hk_20 σ h0 x1 x2 x3 _ _ _ hS h (lv_sub hl [0, 1, 2, 3] rfl)
      · replace h := ez_ifn h c_43
        refine lv_aload_n hx hb dX5_gatherBars_46 rfl (lv_at hl 0 rfl) ?_
        refine lv_iload_n hx hb dX5_gatherBars_47 rfl (lv_at hl 3 rfl) ?_
        refine lv_iload_n hx hb dX5_gatherBars_48 rfl (lv_at hl 1 rfl) ?_
        refine lv_icmp_ne (tgt := 60) hx hb dX5_gatherBars_49 (by decide) (fun c_49 => ?_) (fun c_49 => ?_)
        · replace h := ez_ifn h c_49
          refine lv_aload_n hx hb dX5_gatherBars_60 rfl (lv_at hl 0 rfl) ?_
          refine lv_iload_n hx hb dX5_gatherBars_61 rfl (lv_at hl 3 rfl) ?_
          refine lv_iload_n hx hb dX5_gatherBars_62 rfl (lv_at hl 2 rfl) ?_
          refine lv_iload_n hx hb dX5_gatherBars_63 rfl (lv_at hl 1 rfl) ?_
          refine ez_cVpi (As := [.int x3, .int x2, .int x1]) (rest := [.ref (B + h0)]) h (fun _ q => c_X5_lettingIn q) hC k_X5_lettingIn ql_RX5_88 rfl (by decide) hS (fun _ q => ez_rcv q) rfl hl.1 rfl (Nat.le_of_ble_eq_true rfl) ⟨Nat.zero_le _, Nat.zero_le _⟩ dX5_gatherBars_64 (fun t_64 H locs hS h => ?_)
          exact K_67 k_7 hk_7 k_20 hk_20 σ h0 x1 x2 x3 h0 t_64 _ _ _ hS h (lv_sub hl [0, 1, 2, 3] rfl)
        · replace h := ez_ifp h c_49
          refine lv_aload_n hx hb dX5_gatherBars_52 rfl (lv_at hl 0 rfl) ?_
          refine lv_iload_n hx hb dX5_gatherBars_53 rfl (lv_at hl 2 rfl) ?_
          refine ez_cVpi (As := [.int x2]) (rest := [.ref (B + h0)]) h (fun _ q => c_X5_lawfulPins q) hC k_X5_lawfulPins ql_RX5_61 rfl (by decide) hS (fun _ q => ez_rcv q) rfl hl.1 rfl (Nat.le_of_ble_eq_true rfl) ⟨Nat.zero_le _, Nat.zero_le _⟩ dX5_gatherBars_54 (fun t_54 H locs hS h => ?_)
          refine lv_goto (tgt := 67) hx hb dX5_gatherBars_57 (by decide) ?_
          exact K_67 k_7 hk_7 k_20 hk_20 σ h0 x1 x2 x3 h0 t_54 _ _ _ hS h (lv_sub hl [0, 1, 2, 3] rfl)
  have E_20 : ∀ (k_7 : ez_H → Nat → Int32 → Int32 → Option (Unit × ez_H)) (hk_7 : ∀ (σ : ez_H) (h0 : Nat) (x1 : Int32) (x2 : Int32) (H : Heap) (locs : List Loc) (ls : Array Slot), ez_S X B s.heap (σ0.length) σ H locs → k_7 σ h0 x1 x2 = some z → lv_has ls 4 [(0, .ref (B + h0)), (1, .int x1), (2, .int x2)] → W p l e R s m args below meth c H locs 0 0 Q (F0 m 7 ls [])), ∀ (σ : ez_H) (h0 : Nat) (x1 : Int32) (x2 : Int32) (x3 : Int32) (H : Heap) (locs : List Loc) (ls : Array Slot), ez_S X B s.heap (σ0.length) σ H locs → (ez_fix (fun _ _ _ _ _ => none) (z_X5_gatherBars_20 k_7) ez_N) σ h0 x1 x2 x3 = some z → lv_has ls 4 [(0, .ref (B + h0)), (1, .int x1), (2, .int x2), (3, .int x3)] → W p l e R s m args below meth c H locs 0 0 Q (F0 m 20 ls []) := fun k_7 hk_7 => ez_fix_ind (fun k_20 : ez_H → Nat → Int32 → Int32 → Int32 → Option (Unit × ez_H) => ∀ (σ : ez_H) (h0 : Nat) (x1 : Int32) (x2 : Int32) (x3 : Int32) (H : Heap) (locs : List Loc) (ls : Array Slot), ez_S X B s.heap (σ0.length) σ H locs → k_20 σ h0 x1 x2 x3 = some z → lv_has ls 4 [(0, .ref (B + h0)), (1, .int x1), (2, .int x2), (3, .int x3)] → W p l e R s m args below meth c H locs 0 0 Q (F0 m 20 ls [])) (fun _ _ _ _ _ _ _ _ _ h _ => by cases h) (fun k_20 hk_20 => K_20 k_7 hk_7 k_20 hk_20) ez_N
  have K_7 : ∀ (k_7 : ez_H → Nat → Int32 → Int32 → Option (Unit × ez_H)) (hk_7 : ∀ (σ : ez_H) (h0 : Nat) (x1 : Int32) (x2 : Int32) (H : Heap) (locs : List Loc) (ls : Array Slot), ez_S X B s.heap (σ0.length) σ H locs → k_7 σ h0 x1 x2 = some z → lv_has ls 4 [(0, .ref (B + h0)), (1, .int x1), (2, .int x2)] → W p l e R s m args below meth c H locs 0 0 Q (F0 m 7 ls [])), ∀ (σ : ez_H) (h0 : Nat) (x1 : Int32) (x2 : Int32) (H : Heap) (locs : List Loc) (ls : Array Slot), ez_S X B s.heap (σ0.length) σ H locs → z_X5_gatherBars_7 k_7 σ h0 x1 x2 = some z → lv_has ls 4 [(0, .ref (B + h0)), (1, .int x1), (2, .int x2)] → W p l e R s m args below meth c H locs 0 0 Q (F0 m 7 ls []) := by
    intro k_7 hk_7 σ h0 x1 x2 H locs ls hS h hl
    refine lv_iload_n hx hb dX5_gatherBars_7 rfl (lv_at hl 2 rfl) ?_
    refine lv_aload_n hx hb dX5_gatherBars_8 rfl (lv_at hl 0 rfl) ?_
    refine eg_RX5_9 hC hS h dX5_gatherBars_9 (fun t_9 h => ?_)
    refine eg_RX5_64 hC hS h dX5_gatherBars_12 (fun t_12 h => ?_)
    refine lv_icmp_ge (tgt := 82) hx hb dX5_gatherBars_15 (by decide) (fun c_15 => ?_) (fun c_15 => ?_)
    · replace h := ez_ifp h c_15
      exact hret _ _ _ _ _ _ (Option.some.inj h) hS dX5_gatherBars_82
    · replace h := ez_ifn h c_15
      refine lv_iconst (v := 0) hx hb dX5_gatherBars_18 (by decide) ?_
      refine lv_istore_n (lv' := [(3, .int 0), (0, .ref (B + h0)), (1, .int x1), (2, .int x2)]) hx hb dX5_gatherBars_19 rfl hl (by decide) rfl (fun ls hl => ?_)
      exact E_20 k_7 hk_7 σ h0 x1 x2 (0 : Int32) _ _ _ hS h (lv_sub hl [1, 2, 3, 0] rfl)
  have E_7 : ∀ (σ : ez_H) (h0 : Nat) (x1 : Int32) (x2 : Int32) (H : Heap) (locs : List Loc) (ls : Array Slot), ez_S X B s.heap (σ0.length) σ H locs → (ez_fix (fun _ _ _ _ => none) (z_X5_gatherBars_7) ez_N) σ h0 x1 x2 = some z → lv_has ls 4 [(0, .ref (B + h0)), (1, .int x1), (2, .int x2)] → W p l e R s m args below meth c H locs 0 0 Q (F0 m 7 ls []) := ez_fix_ind (fun k_7 : ez_H → Nat → Int32 → Int32 → Option (Unit × ez_H) => ∀ (σ : ez_H) (h0 : Nat) (x1 : Int32) (x2 : Int32) (H : Heap) (locs : List Loc) (ls : Array Slot), ez_S X B s.heap (σ0.length) σ H locs → k_7 σ h0 x1 x2 = some z → lv_has ls 4 [(0, .ref (B + h0)), (1, .int x1), (2, .int x2)] → W p l e R s m args below meth c H locs 0 0 Q (F0 m 7 ls [])) (fun _ _ _ _ _ _ _ _ h _ => by cases h) (fun k_7 hk_7 => K_7 k_7 hk_7) ez_N
  refine lv_aload_n hx hb dX5_gatherBars_0 rfl (lv_at hl 0 rfl) ?_
  refine lv_iconst (v := 0) hx hb dX5_gatherBars_1 (by decide) ?_
  refine ep_RX5_30 hC hS h dX5_gatherBars_2 (fun σ H locs hS h => ?_)
  refine lv_iconst (v := 0) hx hb dX5_gatherBars_5 (by decide) ?_
  refine lv_istore_n (lv' := [(2, .int 0), (0, .ref (B + h0)), (1, .int x1)]) hx hb dX5_gatherBars_6 rfl hl (by decide) rfl (fun ls hl => ?_)
  exact E_7  σ h0 x1 (0 : Int32) _ _ _ hS h (lv_sub hl [1, 2, 0] rfl)
set_option maxHeartbeats 4000000 in
set_option maxRecDepth 100000 in
theorem c_X5_isBarred {l : Launch} {X : ez_X} {B : Nat} {σ : ez_H} {h0 : Nat} {x1 : Int32} {z : Int32} (h : z_X5_isBarred σ h0 x1 = some z) : ez_M l X B σ yX5_isBarred cX5_isBarred 3 (some .boolean) 1 [.ref (B + h0), .int x1] (some (.int z)) σ := by
  refine ez_startip (z := z) (by decide) (Nat.le_of_ble_eq_true rfl) (fun p e R s m args below meth c Q hC hret hS ls hl => ?_)
  have hC : ez_C p R s m args c X B RX5 cX5_isBarred 3 1 := hC
  have hx := hC.1.1
  have hb := hC.1.2.1
  have hown := hC.1.2.2.2.1
  have hts := hC.1.2.2.2.2
  have hl : lv_has ls 3 [(0, .ref (B + h0)), (1, .int x1)] := hl
  obtain ⟨n0, e0⟩ : ∃ n0 : Nat, n0 = σ.length := ⟨_, rfl⟩
  rw [← e0] at hret hS
  obtain ⟨-, h⟩ := ez_in h
  have K_37 : ∀ (H : Heap) (locs : List Loc) (ls : Array Slot), ez_S X B s.heap (n0) σ H locs → z_X5_isBarred_37 σ = some z → lv_has ls 3 [] → W p l e R s m args below meth c H locs 0 0 Q (F0 m 37 ls []) := by
    intro  H locs ls hS h hl
    refine lv_iconst (v := 0) hx hb dX5_isBarred_37 (by decide) ?_
    have hn : narrow .boolean (.int 0) = .int 0 := by decide
    exact hret _ _ _ _ _ (Option.some.inj h) hn hS dX5_isBarred_38
  have K_2 : ∀ (k_2 : Nat → Int32 → Int32 → Option (Int32)) (hk_2 : ∀ (h0 : Nat) (x1 : Int32) (x2 : Int32) (H : Heap) (locs : List Loc) (ls : Array Slot), ez_S X B s.heap (n0) σ H locs → k_2 h0 x1 x2 = some z → lv_has ls 3 [(0, .ref (B + h0)), (1, .int x1), (2, .int x2)] → W p l e R s m args below meth c H locs 0 0 Q (F0 m 2 ls [])), ∀ (h0 : Nat) (x1 : Int32) (x2 : Int32) (H : Heap) (locs : List Loc) (ls : Array Slot), ez_S X B s.heap (n0) σ H locs → z_X5_isBarred_2 σ k_2 h0 x1 x2 = some z → lv_has ls 3 [(0, .ref (B + h0)), (1, .int x1), (2, .int x2)] → W p l e R s m args below meth c H locs 0 0 Q (F0 m 2 ls []) := by
    intro k_2 hk_2 h0 x1 x2 H locs ls hS h hl
    refine lv_iload_n hx hb dX5_isBarred_2 rfl (lv_at hl 2 rfl) ?_
    refine lv_aload_n hx hb dX5_isBarred_3 rfl (lv_at hl 0 rfl) ?_
    refine eg_RX5_30 hC hS h dX5_isBarred_4 (fun t_4 h => ?_)
    refine lv_icmp_ge (tgt := 37) hx hb dX5_isBarred_7 (by decide) (fun c_7 => ?_) (fun c_7 => ?_)
    · replace h := ez_ifp h c_7
      exact K_37   _ _ _ hS h (lv_sub hl [] rfl)
    · replace h := ez_ifn h c_7
      refine lv_iload_n hx hb dX5_isBarred_10 rfl (lv_at hl 2 rfl) ?_
      refine lv_bipush (v := 48) hx hb dX5_isBarred_11 (by decide) ?_
      refine lv_icmp_ge (tgt := 37) hx hb dX5_isBarred_13 (by decide) (fun c_13 => ?_) (fun c_13 => ?_)
      · replace h := ez_ifp h c_13
        exact K_37   _ _ _ hS h (lv_sub hl [] rfl)
      · replace h := ez_ifn h c_13
        refine lv_iload_n hx hb dX5_isBarred_16 rfl (lv_at hl 1 rfl) ?_
        refine lv_aload_n hx hb dX5_isBarred_17 rfl (lv_at hl 0 rfl) ?_
        refine eg_RX5_26 hC hS h dX5_isBarred_18 (fun t_18 h => ?_)
        refine lv_iload_n hx hb dX5_isBarred_21 rfl (lv_at hl 2 rfl) ?_
        refine ez_ial hC hS h dX5_isBarred_22 (fun t_22 h => ?_)
        refine ez_cSpi (As := [.int x1, .int t_22]) (rest := []) h (fun _ q => c_X6_fitsIn q) hC k_X6_fitsIn ql_RX5_46 rfl (by decide) hS hl.1 rfl (Nat.le_of_ble_eq_true rfl) ⟨Nat.zero_le _, Nat.zero_le _⟩ dX5_isBarred_23 (fun t_23 H locs hS h => ?_)
        refine lv_if_eq (tgt := 31) hx hb dX5_isBarred_26 (by decide) (fun c_26 => ?_) (fun c_26 => ?_)
        · replace h := ez_ifp h c_26
          obtain ⟨t_31, e_31, h⟩ := ez_let_sp h
          refine lv_iinc (v := t_31) (lv' := [(2, .int t_31), (0, .ref (B + h0)), (1, .int x1)]) hx hb dX5_isBarred_31 hl (k := 2) rfl (by rw [e_31]; rfl) (by decide) rfl (fun ls hl => ?_)
          refine lv_goto (tgt := 2) hx hb dX5_isBarred_34 (by decide) ?_
          exact hk_2 h0 x1 t_31 _ _ _ hS h (lv_sub hl [1, 2, 0] rfl)
        · replace h := ez_ifn h c_26
          refine lv_iconst (v := 1) hx hb dX5_isBarred_29 (by decide) ?_
          have hn : narrow .boolean (.int 1) = .int 1 := by decide
          exact hret _ _ _ _ _ (Option.some.inj h) hn hS dX5_isBarred_30
  have E_2 : ∀ (h0 : Nat) (x1 : Int32) (x2 : Int32) (H : Heap) (locs : List Loc) (ls : Array Slot), ez_S X B s.heap (n0) σ H locs → (ez_fix (fun _ _ _ => none) (z_X5_isBarred_2 σ) ez_N) h0 x1 x2 = some z → lv_has ls 3 [(0, .ref (B + h0)), (1, .int x1), (2, .int x2)] → W p l e R s m args below meth c H locs 0 0 Q (F0 m 2 ls []) := ez_fix_ind (fun k_2 : Nat → Int32 → Int32 → Option (Int32) => ∀ (h0 : Nat) (x1 : Int32) (x2 : Int32) (H : Heap) (locs : List Loc) (ls : Array Slot), ez_S X B s.heap (n0) σ H locs → k_2 h0 x1 x2 = some z → lv_has ls 3 [(0, .ref (B + h0)), (1, .int x1), (2, .int x2)] → W p l e R s m args below meth c H locs 0 0 Q (F0 m 2 ls [])) (fun _ _ _ _ _ _ _ h _ => by cases h) (fun k_2 hk_2 => K_2 k_2 hk_2) ez_N
  refine lv_iconst (v := 0) hx hb dX5_isBarred_0 (by decide) ?_
  refine lv_istore_n (lv' := [(2, .int 0), (0, .ref (B + h0)), (1, .int x1)]) hx hb dX5_isBarred_1 rfl hl (by decide) rfl (fun ls hl => ?_)
  exact E_2  h0 x1 (0 : Int32) _ _ _ hS h (lv_sub hl [1, 2, 0] rfl)
set_option maxHeartbeats 4000000 in
set_option maxRecDepth 100000 in
theorem c_X5_keepingCut {l : Launch} {X : ez_X} {B : Nat} {σ : ez_H} {h0 : Nat} {x1 : Int32} {z : Int32 × ez_H} (h : z_X5_keepingCut σ h0 x1 = some z) : ez_M l X B σ yX5_keepingCut cX5_keepingCut 4 (some .int) 6 [.ref (B + h0), .int x1] (some (.int z.1)) z.2 := by
  refine ez_starti (z := z) (by decide) (Nat.le_of_ble_eq_true rfl) (fun p e R s m args below meth c Q hC hret hS ls hl => ?_)
  have hC : ez_C p R s m args c X B RX5 cX5_keepingCut 4 6 := hC
  have hx := hC.1.1
  have hb := hC.1.2.1
  have hown := hC.1.2.2.2.1
  have hts := hC.1.2.2.2.2
  have hl : lv_has ls 4 [(0, .ref (B + h0)), (1, .int x1)] := hl
  obtain ⟨σ0, eσ⟩ : ∃ σ0 : ez_H, σ0 = σ := ⟨_, rfl⟩
  rw [← eσ] at hret
  have hS : ez_S X B s.heap σ0.length σ s.heap [] := eσ ▸ hS
  obtain ⟨-, h⟩ := ez_in h
  have K_51 : ∀ (σ : ez_H) (H : Heap) (locs : List Loc) (ls : Array Slot), ez_S X B s.heap (σ0.length) σ H locs → z_X5_keepingCut_51 σ = some z → lv_has ls 4 [] → W p l e R s m args below meth c H locs 0 0 Q (F0 m 51 ls []) := by
    intro σ H locs ls hS h hl
    refine lv_iconst (v := 0) hx hb dX5_keepingCut_51 (by decide) ?_
    exact hret _ _ _ _ _ _ (Option.some.inj h) rfl hS dX5_keepingCut_52
  have K_15 : ∀ (k_15 : ez_H → Nat → Int32 → Int32 → Option (Int32 × ez_H)) (hk_15 : ∀ (σ : ez_H) (h0 : Nat) (x2 : Int32) (x3 : Int32) (H : Heap) (locs : List Loc) (ls : Array Slot), ez_S X B s.heap (σ0.length) σ H locs → k_15 σ h0 x2 x3 = some z → lv_has ls 4 [(0, .ref (B + h0)), (2, .int x2), (3, .int x3)] → W p l e R s m args below meth c H locs 0 0 Q (F0 m 15 ls [])), ∀ (σ : ez_H) (h0 : Nat) (x2 : Int32) (x3 : Int32) (H : Heap) (locs : List Loc) (ls : Array Slot), ez_S X B s.heap (σ0.length) σ H locs → z_X5_keepingCut_15 k_15 σ h0 x2 x3 = some z → lv_has ls 4 [(0, .ref (B + h0)), (2, .int x2), (3, .int x3)] → W p l e R s m args below meth c H locs 0 0 Q (F0 m 15 ls []) := by
    intro k_15 hk_15 σ h0 x2 x3 H locs ls hS h hl
    refine lv_iload_n hx hb dX5_keepingCut_15 rfl (lv_at hl 2 rfl) ?_
    refine lv_sipush (v := 7776) hx hb dX5_keepingCut_16 (by decide) ?_
    refine lv_icmp_ge (tgt := 51) hx hb dX5_keepingCut_19 (by decide) (fun c_19 => ?_) (fun c_19 => ?_)
    · replace h := ez_ifp h c_19
      exact K_51  σ _ _ _ hS h (lv_sub hl [] rfl)
    · replace h := ez_ifn h c_19
      refine lv_iload_n hx hb dX5_keepingCut_22 rfl (lv_at hl 1 rfl) ?_
      refine lv_if_eq (tgt := 51) hx hb dX5_keepingCut_23 (by decide) (fun c_23 => ?_) (fun c_23 => ?_)
      · replace h := ez_ifp h c_23
        exact K_51  σ _ _ _ hS h (lv_sub hl [] rfl)
      · replace h := ez_ifn h c_23
        refine lv_aload_n hx hb dX5_keepingCut_26 rfl (lv_at hl 0 rfl) ?_
        refine lv_iload_n hx hb dX5_keepingCut_27 rfl (lv_at hl 1 rfl) ?_
        refine ez_cVpi (As := [.int x2]) (rest := []) h (fun _ q => c_X5_isBarred q) hC k_X5_isBarred ql_RX5_81 rfl (by decide) hS (fun _ q => ez_rcv q) rfl hl.1 rfl (Nat.le_of_ble_eq_true rfl) ⟨Nat.zero_le _, Nat.zero_le _⟩ dX5_keepingCut_28 (fun t_28 H locs hS h => ?_)
        refine lv_if_ne (tgt := 36) hx hb dX5_keepingCut_31 (by decide) (fun c_31 => ?_) (fun c_31 => ?_)
        · replace h := ez_ifn h c_31
          refine lv_aload_n hx hb dX5_keepingCut_36 rfl (lv_at hl 0 rfl) ?_
          refine eg_RX5_25 hC hS h dX5_keepingCut_37 (fun t_37 h => ?_)
          refine lv_iload_n hx hb dX5_keepingCut_40 rfl (lv_at hl 1 rfl) ?_
          refine ez_cVpi (As := [.int x2]) (rest := []) h (fun _ q => c_X6_after q) hC k_X6_after ql_RX5_85 rfl (by decide) hS (fun _ q => ez_rcv q) rfl hl.1 rfl (Nat.le_of_ble_eq_true rfl) ⟨Nat.zero_le _, Nat.zero_le _⟩ dX5_keepingCut_41 (fun t_41 H locs hS h => ?_)
          refine lv_istore_n (lv' := [(2, .int t_41), (0, .ref (B + h0)), (3, .int x3)]) hx hb dX5_keepingCut_44 rfl hl (by decide) rfl (fun ls hl => ?_)
          obtain ⟨t_45, e_45, h⟩ := ez_let_sp h
          refine lv_iinc (v := t_45) (lv' := [(3, .int t_45), (2, .int t_41), (0, .ref (B + h0))]) hx hb dX5_keepingCut_45 hl (k := 2) rfl (by rw [e_45]; rfl) (by decide) rfl (fun ls hl => ?_)
          refine lv_goto (tgt := 15) hx hb dX5_keepingCut_48 (by decide) ?_
          exact hk_15 σ h0 t_41 t_45 _ _ _ hS h (lv_sub hl [2, 1, 0] rfl)
        · replace h := ez_ifp h c_31
          refine lv_iload_n hx hb dX5_keepingCut_34 rfl (lv_at hl 1 rfl) ?_
          exact hret _ _ _ _ _ _ (Option.some.inj h) rfl hS dX5_keepingCut_35
  have E_15 : ∀ (σ : ez_H) (h0 : Nat) (x2 : Int32) (x3 : Int32) (H : Heap) (locs : List Loc) (ls : Array Slot), ez_S X B s.heap (σ0.length) σ H locs → (ez_fix (fun _ _ _ _ => none) (z_X5_keepingCut_15) ez_N) σ h0 x2 x3 = some z → lv_has ls 4 [(0, .ref (B + h0)), (2, .int x2), (3, .int x3)] → W p l e R s m args below meth c H locs 0 0 Q (F0 m 15 ls []) := ez_fix_ind (fun k_15 : ez_H → Nat → Int32 → Int32 → Option (Int32 × ez_H) => ∀ (σ : ez_H) (h0 : Nat) (x2 : Int32) (x3 : Int32) (H : Heap) (locs : List Loc) (ls : Array Slot), ez_S X B s.heap (σ0.length) σ H locs → k_15 σ h0 x2 x3 = some z → lv_has ls 4 [(0, .ref (B + h0)), (2, .int x2), (3, .int x3)] → W p l e R s m args below meth c H locs 0 0 Q (F0 m 15 ls [])) (fun _ _ _ _ _ _ _ _ h _ => by cases h) (fun k_15 hk_15 => K_15 k_15 hk_15) ez_N
  refine lv_aload_n hx hb dX5_keepingCut_0 rfl (lv_at hl 0 rfl) ?_
  refine lv_iload_n hx hb dX5_keepingCut_1 rfl (lv_at hl 1 rfl) ?_
  refine ez_cVv (As := [.int x1]) (rest := []) h (fun _ q => c_X5_gatherBars q) hC k_X5_gatherBars ql_RX5_73 rfl (by decide) hS (fun _ q => ez_rcv q) rfl hl.1 rfl (Nat.le_of_ble_eq_true rfl) ⟨Nat.zero_le _, Nat.zero_le _⟩ dX5_keepingCut_2 (fun _ σ H locs hS h => ?_)
  refine lv_aload_n hx hb dX5_keepingCut_5 rfl (lv_at hl 0 rfl) ?_
  refine eg_RX5_25 hC hS h dX5_keepingCut_6 (fun t_6 h => ?_)
  refine ez_cVpi (As := []) (rest := []) h (fun _ q => c_X6_least q) hC k_X6_least ql_RX5_77 rfl (by decide) hS (fun _ q => ez_rcv q) rfl hl.1 rfl (Nat.le_of_ble_eq_true rfl) ⟨Nat.zero_le _, Nat.zero_le _⟩ dX5_keepingCut_9 (fun t_9 H locs hS h => ?_)
  refine lv_istore_n (lv' := [(2, .int t_9), (0, .ref (B + h0)), (1, .int x1)]) hx hb dX5_keepingCut_12 rfl hl (by decide) rfl (fun ls hl => ?_)
  refine lv_iconst (v := 0) hx hb dX5_keepingCut_13 (by decide) ?_
  refine lv_istore_n (lv' := [(3, .int 0), (2, .int t_9), (0, .ref (B + h0)), (1, .int x1)]) hx hb dX5_keepingCut_14 rfl hl (by decide) rfl (fun ls hl => ?_)
  exact E_15  σ h0 t_9 (0 : Int32) _ _ _ hS h (lv_sub hl [2, 1, 0] rfl)
set_option maxHeartbeats 4000000 in
set_option maxRecDepth 100000 in
theorem c_X11_keeps {l : Launch} {X : ez_X} {B : Nat} {σ : ez_H} {h0 : Nat} {x1 : Int32} {z : Int32 × ez_H} (h : z_X11_keeps σ h0 x1 = some z) : ez_M l X B σ yX11_keeps cX11_keeps 2 (some .int) 7 [.ref (B + h0), .int x1] (some (.int z.1)) z.2 := by
  refine ez_starti (z := z) (by decide) (Nat.le_of_ble_eq_true rfl) (fun p e R s m args below meth c Q hC hret hS ls hl => ?_)
  have hC : ez_C p R s m args c X B RX11 cX11_keeps 2 7 := hC
  have hx := hC.1.1
  have hb := hC.1.2.1
  have hown := hC.1.2.2.2.1
  have hts := hC.1.2.2.2.2
  have hl : lv_has ls 2 [(0, .ref (B + h0)), (1, .int x1)] := hl
  obtain ⟨σ0, eσ⟩ : ∃ σ0 : ez_H, σ0 = σ := ⟨_, rfl⟩
  rw [← eσ] at hret
  have hS : ez_S X B s.heap σ0.length σ s.heap [] := eσ ▸ hS
  obtain ⟨-, h⟩ := ez_in h
  have K_30 : ∀ (σ : ez_H) (y0 : Int32) (H : Heap) (locs : List Loc) (ls : Array Slot), ez_S X B s.heap (σ0.length) σ H locs → z_X11_keeps_30 σ y0 = some z → lv_has ls 2 [] → W p l e R s m args below meth c H locs 0 0 Q (F0 m 30 ls [.int y0]) := by
    intro σ y0 H locs ls hS h hl
    exact hret _ _ _ _ _ _ (Option.some.inj h) rfl hS dX11_keeps_30
  refine lv_aload_n hx hb dX11_keeps_0 rfl (lv_at hl 0 rfl) ?_
  refine eg_RX11_29 hC hS h dX11_keeps_1 (fun t_1 h => ?_)
  refine lv_iload_n hx hb dX11_keeps_4 rfl (lv_at hl 1 rfl) ?_
  refine ez_cVpi (As := [.int x1]) (rest := []) h (fun _ q => c_X3_hasKey q) hC k_X3_hasKey ql_RX11_137 rfl (by decide) hS (fun _ q => ez_rcv q) rfl hl.1 rfl (Nat.le_of_ble_eq_true rfl) ⟨Nat.zero_le _, Nat.zero_le _⟩ dX11_keeps_5 (fun t_5 H locs hS h => ?_)
  refine lv_if_eq (tgt := 29) hx hb dX11_keeps_8 (by decide) (fun c_8 => ?_) (fun c_8 => ?_)
  · replace h := ez_ifp h c_8
    refine lv_iconst (v := -1) hx hb dX11_keeps_29 (by decide) ?_
    exact K_30  σ (-1 : Int32) _ _ _ hS h (lv_sub hl [] rfl)
  · replace h := ez_ifn h c_8
    refine lv_aload_n hx hb dX11_keeps_11 rfl (lv_at hl 0 rfl) ?_
    refine eg_RX11_37 hC hS h dX11_keeps_12 (fun t_12 h => ?_)
    refine lv_aload_n hx hb dX11_keeps_15 rfl (lv_at hl 0 rfl) ?_
    refine eg_RX11_86 hC hS h dX11_keeps_16 (fun t_16 h => ?_)
    refine lv_iload_n hx hb dX11_keeps_19 rfl (lv_at hl 1 rfl) ?_
    refine ez_cVi (As := [.int x1]) (rest := [.ref (B + t_12)]) h (fun _ q => c_X5_keepingCut q) hC k_X5_keepingCut ql_RX11_350 rfl (by decide) hS (fun _ q => ez_rcv q) rfl hl.1 rfl (Nat.le_of_ble_eq_true rfl) ⟨Nat.zero_le _, Nat.zero_le _⟩ dX11_keeps_20 (fun t_20 σ H locs hS h => ?_)
    refine ez_cVpi (As := [.int t_20]) (rest := []) h (fun _ q => c_X6_numberOf q) hC k_X6_numberOf ql_RX11_144 rfl (by decide) hS (fun _ q => ez_rcv q) rfl hl.1 rfl (Nat.le_of_ble_eq_true rfl) ⟨Nat.zero_le _, Nat.zero_le _⟩ dX11_keeps_23 (fun t_23 H locs hS h => ?_)
    refine lv_goto (tgt := 30) hx hb dX11_keeps_26 (by decide) ?_
    exact K_30  σ t_23 _ _ _ hS h (lv_sub hl [] rfl)
