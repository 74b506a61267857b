set_option maxHeartbeats 4000000 in
set_option maxRecDepth 100000 in
theorem c_X4_readHeld {l : Launch} {X : ez_X} {B : Nat} {σ : ez_H} {h0 : Nat} {z : Int32 × ez_H} (h : z_X4_readHeld σ h0 = some z) : ez_M l X B σ yX4_readHeld cX4_readHeld 3 (some .boolean) 5 [.ref (B + h0)] (some (.int z.1)) z.2 := by
  refine ez_starti (z := z) (by decide) (Nat.le_of_ble_eq_true rfl) (fun p e R s m args below meth c Q hC hret hS ls hl => ?_)
  have hC : ez_C p R s m args c X B RX4 cX4_readHeld 3 5 := hC
  have hx := hC.1.1
  have hb := hC.1.2.1
  have hown := hC.1.2.2.2.1
  have hts := hC.1.2.2.2.2
  have hl : lv_has ls 3 [(0, .ref (B + h0))] := hl
  obtain ⟨σ0, eσ⟩ : ∃ σ0 : ez_H, σ0 = σ := ⟨_, rfl⟩
  rw [← eσ] at hret
  have hS : ez_S X B s.heap σ0.length σ s.heap [] := eσ ▸ hS
  obtain ⟨-, h⟩ := ez_in h
  have K_9 : ∀ (k_9 : ez_H → Nat → Int32 → Option (Int32 × ez_H)) (hk_9 : ∀ (σ : ez_H) (h0 : Nat) (x1 : Int32) (H : Heap) (locs : List Loc) (ls : Array Slot), ez_S X B s.heap (σ0.length) σ H locs → k_9 σ h0 x1 = some z → lv_has ls 3 [(0, .ref (B + h0)), (1, .int x1)] → W p l e R s m args below meth c H locs 0 0 Q (F0 m 9 ls [])), ∀ (σ : ez_H) (h0 : Nat) (x1 : Int32) (H : Heap) (locs : List Loc) (ls : Array Slot), ez_S X B s.heap (σ0.length) σ H locs → z_X4_readHeld_9 k_9 σ h0 x1 = some z → lv_has ls 3 [(0, .ref (B + h0)), (1, .int x1)] → W p l e R s m args below meth c H locs 0 0 Q (F0 m 9 ls []) := by
    intro k_9 hk_9 σ h0 x1 H locs ls hS h hl
    refine lv_iload_n hx hb dX4_readHeld_9 rfl (lv_at hl 1 rfl) ?_
    refine lv_bipush (v := 8) hx hb dX4_readHeld_10 (by decide) ?_
    refine lv_icmp_gt (tgt := 101) hx hb dX4_readHeld_12 (by decide) (fun c_12 => ?_) (fun c_12 => ?_)
    · replace h := ez_ifp h c_12
      refine lv_aload_n hx hb dX4_readHeld_101 rfl (lv_at hl 0 rfl) ?_
      refine ez_cVi (As := []) (rest := []) h (fun _ q => c_X4_refuse q) hC k_X4_refuse ql_RX4_63 rfl (by decide) hS (fun _ q => ez_rcv q) rfl hl.1 rfl (Nat.le_of_ble_eq_true rfl) ⟨Nat.zero_le _, Nat.zero_le _⟩ dX4_readHeld_102 (fun t_102 σ H locs hS h => ?_)
      obtain ⟨hn, h⟩ := ez_nr_sp rfl h
      exact hret _ _ _ _ _ _ (Option.some.inj h) hn hS dX4_readHeld_105
    · replace h := ez_ifn h c_12
      refine lv_aload_n hx hb dX4_readHeld_15 rfl (lv_at hl 0 rfl) ?_
      refine lv_iconst (v := 0) hx hb dX4_readHeld_16 (by decide) ?_
      refine lv_aload_n hx hb dX4_readHeld_17 rfl (lv_at hl 0 rfl) ?_
      refine eg_RX4_12 hC hS h dX4_readHeld_18 (fun t_18 h => ?_)
      refine eg_RX4_100 hC hS h dX4_readHeld_21 (fun t_21 h => ?_)
      refine ez_cVi (As := [.int 0, .int t_21]) (rest := []) h (fun _ q => c_X4_knownName q) hC k_X4_knownName ql_RX4_180 rfl (by decide) hS (fun _ q => ez_rcv q) rfl hl.1 rfl (Nat.le_of_ble_eq_true rfl) ⟨Nat.zero_le _, Nat.zero_le _⟩ dX4_readHeld_24 (fun t_24 σ H locs hS h => ?_)
      refine lv_istore_n (lv' := [(2, .int t_24), (0, .ref (B + h0)), (1, .int x1)]) hx hb dX4_readHeld_27 rfl hl (by decide) rfl (fun ls hl => ?_)
      refine lv_iload_n hx hb dX4_readHeld_28 rfl (lv_at hl 0 rfl) ?_
      refine lv_iconst (v := -1) hx hb dX4_readHeld_29 (by decide) ?_
      refine lv_icmp_ne (tgt := 35) hx hb dX4_readHeld_30 (by decide) (fun c_30 => ?_) (fun c_30 => ?_)
      · replace h := ez_ifn h c_30
        refine lv_aload_n hx hb dX4_readHeld_35 rfl (lv_at hl 1 rfl) ?_
        refine eg_RX4_12 hC hS h dX4_readHeld_36 (fun t_36 h => ?_)
        refine eg_RX4_124 hC hS h dX4_readHeld_39 (fun t_39 h => ?_)
        refine lv_iload_n hx hb dX4_readHeld_42 rfl (lv_at hl 0 rfl) ?_
        refine ez_cVpi (As := [.int t_24]) (rest := []) h (fun _ q => c_X7_holder q) hC k_X7_holder ql_RX4_196 rfl (by decide) hS (fun _ q => ez_rcv q) rfl hl.1 rfl (Nat.le_of_ble_eq_true rfl) ⟨Nat.zero_le _, Nat.zero_le _⟩ dX4_readHeld_43 (fun t_43 H locs hS h => ?_)
        refine lv_iconst (v := -1) hx hb dX4_readHeld_46 (by decide) ?_
        refine lv_icmp_eq (tgt := 56) hx hb dX4_readHeld_47 (by decide) (fun c_47 => ?_) (fun c_47 => ?_)
        · replace h := ez_ifp h c_47
          refine lv_aload_n hx hb dX4_readHeld_56 rfl (lv_at hl 1 rfl) ?_
          refine eg_RX4_12 hC hS h dX4_readHeld_57 (fun t_57 h => ?_)
          refine eg_RX4_124 hC hS h dX4_readHeld_60 (fun t_60 h => ?_)
          refine lv_iload_n hx hb dX4_readHeld_63 rfl (lv_at hl 0 rfl) ?_
          refine lv_aload_n hx hb dX4_readHeld_64 rfl (lv_at hl 1 rfl) ?_
          refine eg_RX4_12 hC hS h dX4_readHeld_65 (fun t_65 h => ?_)
          refine eg_RX4_187 hC hS h dX4_readHeld_68 (fun t_68 h => ?_)
          refine ez_cVv (As := [.int t_24, .int t_68]) (rest := []) h (fun _ q => c_X7_putHolder q) hC k_X7_putHolder ql_RX4_165 rfl (by decide) hS (fun _ q => ez_rcv q) rfl hl.1 rfl (Nat.le_of_ble_eq_true rfl) ⟨Nat.zero_le _, Nat.zero_le _⟩ dX4_readHeld_71 (fun _ σ H locs hS h => ?_)
          refine lv_aload_n hx hb dX4_readHeld_74 rfl (lv_at hl 1 rfl) ?_
          refine eg_RX4_30 hC hS h dX4_readHeld_75 (fun t_75 h => ?_)
          refine ez_cVv (As := []) (rest := []) h (fun _ q => c_X9_advance q) hC k_X9_advance ql_RX4_66 rfl (by decide) hS (fun _ q => ez_rcv q) rfl hl.1 rfl (Nat.le_of_ble_eq_true rfl) ⟨Nat.zero_le _, Nat.zero_le _⟩ dX4_readHeld_78 (fun _ σ H locs hS h => ?_)
          refine lv_aload_n hx hb dX4_readHeld_81 rfl (lv_at hl 1 rfl) ?_
          refine eg_RX4_30 hC hS h dX4_readHeld_82 (fun t_82 h => ?_)
          refine eg_RX4_49 hC hS h dX4_readHeld_85 (fun t_85 h => ?_)
          refine lv_bipush (v := 23) hx hb dX4_readHeld_88 (by decide) ?_
          refine lv_icmp_eq (tgt := 95) hx hb dX4_readHeld_90 (by decide) (fun c_90 => ?_) (fun c_90 => ?_)
          · replace h := ez_ifp h c_90
            obtain ⟨t_95, e_95, h⟩ := ez_let_sp h
            refine lv_iinc (v := t_95) (lv' := [(1, .int t_95), (2, .int t_24), (0, .ref (B + h0))]) hx hb dX4_readHeld_95 hl (k := 2) rfl (by rw [e_95]; rfl) (by decide) rfl (fun ls hl => ?_)
            refine lv_goto (tgt := 9) hx hb dX4_readHeld_98 (by decide) ?_
            exact hk_9 σ h0 t_95 _ _ _ hS h (lv_sub hl [2, 0] rfl)
          · replace h := ez_ifn h c_90
            refine lv_iconst (v := 1) hx hb dX4_readHeld_93 (by decide) ?_
            have hn : narrow .boolean (.int 1) = .int 1 := by decide
            exact hret _ _ _ _ _ _ (Option.some.inj h) hn hS dX4_readHeld_94
        · replace h := ez_ifn h c_47
          refine lv_aload_n hx hb dX4_readHeld_50 rfl (lv_at hl 1 rfl) ?_
          refine lv_iconst (v := 3) hx hb dX4_readHeld_51 (by decide) ?_
          refine ez_cVi (As := [.int 3]) (rest := []) h (fun _ q => c_X4_blame q) hC k_X4_blame ql_RX4_59 rfl (by decide) hS (fun _ q => ez_rcv q) rfl hl.1 rfl (Nat.le_of_ble_eq_true rfl) ⟨Nat.zero_le _, Nat.zero_le _⟩ dX4_readHeld_52 (fun t_52 σ H locs hS h => ?_)
          obtain ⟨hn, h⟩ := ez_nr_sp rfl h
          exact hret _ _ _ _ _ _ (Option.some.inj h) hn hS dX4_readHeld_55
      · replace h := ez_ifp h c_30
        refine lv_iconst (v := 0) hx hb dX4_readHeld_33 (by decide) ?_
        have hn : narrow .boolean (.int 0) = .int 0 := by decide
        exact hret _ _ _ _ _ _ (Option.some.inj h) hn hS dX4_readHeld_34
  have E_9 : ∀ (σ : ez_H) (h0 : Nat) (x1 : Int32) (H : Heap) (locs : List Loc) (ls : Array Slot), ez_S X B s.heap (σ0.length) σ H locs → (ez_fix (fun _ _ _ => none) (z_X4_readHeld_9) ez_N) σ h0 x1 = some z → lv_has ls 3 [(0, .ref (B + h0)), (1, .int x1)] → W p l e R s m args below meth c H locs 0 0 Q (F0 m 9 ls []) := ez_fix_ind (fun k_9 : ez_H → Nat → Int32 → Option (Int32 × ez_H) => ∀ (σ : ez_H) (h0 : Nat) (x1 : Int32) (H : Heap) (locs : List Loc) (ls : Array Slot), ez_S X B s.heap (σ0.length) σ H locs → k_9 σ h0 x1 = some z → lv_has ls 3 [(0, .ref (B + h0)), (1, .int x1)] → W p l e R s m args below meth c H locs 0 0 Q (F0 m 9 ls [])) (fun _ _ _ _ _ _ _ h _ => by cases h) (fun k_9 hk_9 => K_9 k_9 hk_9) ez_N
  refine lv_aload_n hx hb dX4_readHeld_0 rfl (lv_at hl 0 rfl) ?_
  refine eg_RX4_30 hC hS h dX4_readHeld_1 (fun t_1 h => ?_)
  refine ez_cVv (As := []) (rest := []) h (fun _ q => c_X9_advance q) hC k_X9_advance ql_RX4_66 rfl (by decide) hS (fun _ q => ez_rcv q) rfl hl.1 rfl (Nat.le_of_ble_eq_true rfl) ⟨Nat.zero_le _, Nat.zero_le _⟩ dX4_readHeld_4 (fun _ σ H locs hS h => ?_)
  refine lv_iconst (v := 0) hx hb dX4_readHeld_7 (by decide) ?_
  refine lv_istore_n (lv' := [(1, .int 0), (0, .ref (B + h0))]) hx hb dX4_readHeld_8 rfl hl (by decide) rfl (fun ls hl => ?_)
  exact E_9  σ h0 (0 : Int32) _ _ _ hS h (lv_sub hl [1, 0] rfl)
set_option maxHeartbeats 4000000 in
set_option maxRecDepth 100000 in
theorem c_X7_putRoom {l : Launch} {X : ez_X} {B : Nat} {σ : ez_H} {h0 : Nat} {x1 : Int32} {x2 : Int32} {z : Unit × ez_H} (h : z_X7_putRoom σ h0 x1 x2 = some z) : ez_M l X B σ yX7_putRoom cX7_putRoom 3 (none) 1 [.ref (B + h0), .int x1, .int x2] (none) z.2 := by
  refine ez_startv (z := z) (by decide) (Nat.le_of_ble_eq_true rfl) (fun p e R s m args below meth c Q hC hret hS ls hl => ?_)
  have hC : ez_C p R s m args c X B RX7 cX7_putRoom 3 1 := hC
  have hx := hC.1.1
  have hb := hC.1.2.1
  have hown := hC.1.2.2.2.1
  have hts := hC.1.2.2.2.2
  have hl : lv_has ls 3 [(0, .ref (B + h0)), (1, .int x1), (2, .int x2)] := hl
  obtain ⟨σ0, eσ⟩ : ∃ σ0 : ez_H, σ0 = σ := ⟨_, rfl⟩
  rw [← eσ] at hret
  have hS : ez_S X B s.heap σ0.length σ s.heap [] := eσ ▸ hS
  obtain ⟨-, h⟩ := ez_in h
  refine lv_aload_n hx hb dX7_putRoom_0 rfl (lv_at hl 0 rfl) ?_
  refine lv_bipush (v := 30) hx hb dX7_putRoom_1 (by decide) ?_
  refine lv_iload_n hx hb dX7_putRoom_3 rfl (lv_at hl 1 rfl) ?_
  refine lv_iadd hx hb dX7_putRoom_4 ?_
  refine ez_top h (fun t_4 h => ?_)
  refine lv_iload_n hx hb dX7_putRoom_5 rfl (lv_at hl 2 rfl) ?_
  refine ez_cVv (As := [.int t_4, .int x2]) (rest := []) h (fun _ q => c_X7_put q) hC k_X7_put ql_RX7_31 rfl (by decide) hS (fun _ q => ez_rcv q) rfl hl.1 rfl (Nat.le_of_ble_eq_true rfl) ⟨Nat.zero_le _, Nat.zero_le _⟩ dX7_putRoom_6 (fun _ σ H locs hS h => ?_)
  exact hret _ _ _ _ _ _ (Option.some.inj h) hS dX7_putRoom_9
set_option maxHeartbeats 4000000 in
set_option maxRecDepth 100000 in
theorem c_X4_readPerson {l : Launch} {X : ez_X} {B : Nat} {σ : ez_H} {h0 : Nat} {z : Int32 × ez_H} (h : z_X4_readPerson σ h0 = some z) : ez_M l X B σ yX4_readPerson cX4_readPerson 2 (some .boolean) 6 [.ref (B + h0)] (some (.int z.1)) z.2 := by
  refine ez_starti (z := z) (by decide) (Nat.le_of_ble_eq_true rfl) (fun p e R s m args below meth c Q hC hret hS ls hl => ?_)
  have hC : ez_C p R s m args c X B RX4 cX4_readPerson 2 6 := hC
  have hx := hC.1.1
  have hb := hC.1.2.1
  have hown := hC.1.2.2.2.1
  have hts := hC.1.2.2.2.2
  have hl : lv_has ls 2 [(0, .ref (B + h0))] := hl
  obtain ⟨σ0, eσ⟩ : ∃ σ0 : ez_H, σ0 = σ := ⟨_, rfl⟩
  rw [← eσ] at hret
  have hS : ez_S X B s.heap σ0.length σ s.heap [] := eσ ▸ hS
  obtain ⟨-, h⟩ := ez_in h
  have K_25 : ∀ (σ : ez_H) (H : Heap) (locs : List Loc) (ls : Array Slot), ez_S X B s.heap (σ0.length) σ H locs → z_X4_readPerson_25 σ = some z → lv_has ls 2 [] → W p l e R s m args below meth c H locs 0 0 Q (F0 m 25 ls []) := by
    intro σ H locs ls hS h hl
    refine lv_iconst (v := 0) hx hb dX4_readPerson_25 (by decide) ?_
    have hn : narrow .boolean (.int 0) = .int 0 := by decide
    exact hret _ _ _ _ _ _ (Option.some.inj h) hn hS dX4_readPerson_26
  have K_75 : ∀ (σ : ez_H) (h0 : Nat) (x1 : Int32) (H : Heap) (locs : List Loc) (ls : Array Slot), ez_S X B s.heap (σ0.length) σ H locs → z_X4_readPerson_75 σ h0 x1 = some z → lv_has ls 2 [(0, .ref (B + h0)), (1, .int x1)] → W p l e R s m args below meth c H locs 0 0 Q (F0 m 75 ls []) := by
    intro σ h0 x1 H locs ls hS h hl
    refine lv_aload_n hx hb dX4_readPerson_75 rfl (lv_at hl 0 rfl) ?_
    refine eg_RX4_12 hC hS h dX4_readPerson_76 (fun t_76 h => ?_)
    refine eg_RX4_124 hC hS h dX4_readPerson_79 (fun t_79 h => ?_)
    refine lv_aload_n hx hb dX4_readPerson_82 rfl (lv_at hl 0 rfl) ?_
    refine eg_RX4_12 hC hS h dX4_readPerson_83 (fun t_83 h => ?_)
    refine eg_RX4_187 hC hS h dX4_readPerson_86 (fun t_86 h => ?_)
    refine lv_iload_n hx hb dX4_readPerson_89 rfl (lv_at hl 1 rfl) ?_
    refine ez_cVv (As := [.int t_86, .int x1]) (rest := []) h (fun _ q => c_X7_putRoom q) hC k_X7_putRoom ql_RX4_193 rfl (by decide) hS (fun _ q => ez_rcv q) rfl hl.1 rfl (Nat.le_of_ble_eq_true rfl) ⟨Nat.zero_le _, Nat.zero_le _⟩ dX4_readPerson_90 (fun _ σ H locs hS h => ?_)
    refine lv_aload_n hx hb dX4_readPerson_93 rfl (lv_at hl 0 rfl) ?_
    refine eg_RX4_12 hC hS h dX4_readPerson_94 (fun t_94 h => ?_)
    refine lv_dup hx hb dX4_readPerson_97 rfl ?_
    refine eg_RX4_187 hC hS h dX4_readPerson_98 (fun t_98 h => ?_)
    refine lv_iconst (v := 1) hx hb dX4_readPerson_101 (by decide) ?_
    refine lv_iadd hx hb dX4_readPerson_102 ?_
    refine ez_top h (fun t_102 h => ?_)
    refine ep_RX4_187 hC hS h dX4_readPerson_103 (fun σ H locs hS h => ?_)
    refine lv_aload_n hx hb dX4_readPerson_106 rfl (lv_at hl 0 rfl) ?_
    refine lv_bipush (v := 59) hx hb dX4_readPerson_107 (by decide) ?_
    refine ez_cVi (As := [.int 59]) (rest := []) h (fun _ q => c_X4_expect q) hC k_X4_expect ql_RX4_97 rfl (by decide) hS (fun _ q => ez_rcv q) rfl hl.1 rfl (Nat.le_of_ble_eq_true rfl) ⟨Nat.zero_le _, Nat.zero_le _⟩ dX4_readPerson_109 (fun t_109 σ H locs hS h => ?_)
    obtain ⟨hn, h⟩ := ez_nr_sp rfl h
    exact hret _ _ _ _ _ _ (Option.some.inj h) hn hS dX4_readPerson_112
  refine lv_aload_n hx hb dX4_readPerson_0 rfl (lv_at hl 0 rfl) ?_
  refine lv_iconst (v := 4) hx hb dX4_readPerson_1 (by decide) ?_
  refine lv_aload_n hx hb dX4_readPerson_2 rfl (lv_at hl 0 rfl) ?_
  refine eg_RX4_12 hC hS h dX4_readPerson_3 (fun t_3 h => ?_)
  refine eg_RX4_187 hC hS h dX4_readPerson_6 (fun t_6 h => ?_)
  refine lv_iconst (v := 4) hx hb dX4_readPerson_9 (by decide) ?_
  refine ez_cVi (As := [.int 4, .int t_6, .int 4]) (rest := []) h (fun _ q => c_X4_readNewName q) hC k_X4_readNewName ql_RX4_144 rfl (by decide) hS (fun _ q => ez_rcv q) rfl hl.1 rfl (Nat.le_of_ble_eq_true rfl) ⟨Nat.zero_le _, Nat.zero_le _⟩ dX4_readPerson_10 (fun t_10 σ H locs hS h => ?_)
  refine lv_if_eq (tgt := 25) hx hb dX4_readPerson_13 (by decide) (fun c_13 => ?_) (fun c_13 => ?_)
  · replace h := ez_ifp h c_13
    exact K_25  σ _ _ _ hS h (lv_sub hl [] rfl)
  · replace h := ez_ifn h c_13
    refine lv_aload_n hx hb dX4_readPerson_16 rfl (lv_at hl 0 rfl) ?_
    refine lv_bipush (v := 14) hx hb dX4_readPerson_17 (by decide) ?_
    refine ez_cVi (As := [.int 14]) (rest := []) h (fun _ q => c_X4_expect q) hC k_X4_expect ql_RX4_97 rfl (by decide) hS (fun _ q => ez_rcv q) rfl hl.1 rfl (Nat.le_of_ble_eq_true rfl) ⟨Nat.zero_le _, Nat.zero_le _⟩ dX4_readPerson_19 (fun t_19 σ H locs hS h => ?_)
    refine lv_if_ne (tgt := 27) hx hb dX4_readPerson_22 (by decide) (fun c_22 => ?_) (fun c_22 => ?_)
    · replace h := ez_ifn h c_22
      refine lv_aload_n hx hb dX4_readPerson_27 rfl (lv_at hl 0 rfl) ?_
      refine lv_iconst (v := 2) hx hb dX4_readPerson_28 (by decide) ?_
      refine lv_aload_n hx hb dX4_readPerson_29 rfl (lv_at hl 0 rfl) ?_
      refine eg_RX4_12 hC hS h dX4_readPerson_30 (fun t_30 h => ?_)
      refine eg_RX4_174 hC hS h dX4_readPerson_33 (fun t_33 h => ?_)
      refine ez_cVi (As := [.int 2, .int t_33]) (rest := []) h (fun _ q => c_X4_knownName q) hC k_X4_knownName ql_RX4_180 rfl (by decide) hS (fun _ q => ez_rcv q) rfl hl.1 rfl (Nat.le_of_ble_eq_true rfl) ⟨Nat.zero_le _, Nat.zero_le _⟩ dX4_readPerson_36 (fun t_36 σ H locs hS h => ?_)
      refine lv_istore_n (lv' := [(1, .int t_36), (0, .ref (B + h0))]) hx hb dX4_readPerson_39 rfl hl (by decide) rfl (fun ls hl => ?_)
      refine lv_iload_n hx hb dX4_readPerson_40 rfl (lv_at hl 0 rfl) ?_
      refine lv_iconst (v := -1) hx hb dX4_readPerson_41 (by decide) ?_
      refine lv_icmp_ne (tgt := 47) hx hb dX4_readPerson_42 (by decide) (fun c_42 => ?_) (fun c_42 => ?_)
      · replace h := ez_ifn h c_42
        refine lv_aload_n hx hb dX4_readPerson_47 rfl (lv_at hl 1 rfl) ?_
        refine eg_RX4_30 hC hS h dX4_readPerson_48 (fun t_48 h => ?_)
        refine ez_cVv (As := []) (rest := []) h (fun _ q => c_X9_advance q) hC k_X9_advance ql_RX4_66 rfl (by decide) hS (fun _ q => ez_rcv q) rfl hl.1 rfl (Nat.le_of_ble_eq_true rfl) ⟨Nat.zero_le _, Nat.zero_le _⟩ dX4_readPerson_51 (fun _ σ H locs hS h => ?_)
        refine lv_aload_n hx hb dX4_readPerson_54 rfl (lv_at hl 1 rfl) ?_
        refine eg_RX4_30 hC hS h dX4_readPerson_55 (fun t_55 h => ?_)
        refine eg_RX4_49 hC hS h dX4_readPerson_58 (fun t_58 h => ?_)
        refine lv_bipush (v := 15) hx hb dX4_readPerson_61 (by decide) ?_
        refine lv_icmp_ne (tgt := 75) hx hb dX4_readPerson_63 (by decide) (fun c_63 => ?_) (fun c_63 => ?_)
        · replace h := ez_ifn h c_63
          exact K_75  σ h0 t_36 _ _ _ hS h (lv_sub hl [1, 0] rfl)
        · replace h := ez_ifp h c_63
          refine lv_aload_n hx hb dX4_readPerson_66 rfl (lv_at hl 1 rfl) ?_
          refine ez_cVi (As := []) (rest := []) h (fun _ q => c_X4_readHeld q) hC k_X4_readHeld ql_RX4_190 rfl (by decide) hS (fun _ q => ez_rcv q) rfl hl.1 rfl (Nat.le_of_ble_eq_true rfl) ⟨Nat.zero_le _, Nat.zero_le _⟩ dX4_readPerson_67 (fun t_67 σ H locs hS h => ?_)
          refine lv_if_ne (tgt := 75) hx hb dX4_readPerson_70 (by decide) (fun c_70 => ?_) (fun c_70 => ?_)
          · replace h := ez_ifn h c_70
            exact K_75  σ h0 t_36 _ _ _ hS h (lv_sub hl [1, 0] rfl)
          · replace h := ez_ifp h c_70
            refine lv_iconst (v := 0) hx hb dX4_readPerson_73 (by decide) ?_
            have hn : narrow .boolean (.int 0) = .int 0 := by decide
            exact hret _ _ _ _ _ _ (Option.some.inj h) hn hS dX4_readPerson_74
      · replace h := ez_ifp h c_42
        refine lv_iconst (v := 0) hx hb dX4_readPerson_45 (by decide) ?_
        have hn : narrow .boolean (.int 0) = .int 0 := by decide
        exact hret _ _ _ _ _ _ (Option.some.inj h) hn hS dX4_readPerson_46
    · replace h := ez_ifp h c_22
      exact K_25  σ _ _ _ hS h (lv_sub hl [] rfl)
set_option maxHeartbeats 4000000 in
set_option maxRecDepth 100000 in
theorem c_X3_addDoor {l : Launch} {X : ez_X} {B : Nat} {σ : ez_H} {h0 : Nat} {x1 : Int32} {x2 : Int32} {x3 : Int32} {z : Unit × ez_H} (h : z_X3_addDoor σ h0 x1 x2 x3 = some z) : ez_M l X B σ yX3_addDoor cX3_addDoor 4 (none) 0 [.ref (B + h0), .int x1, .int x2, .int x3] (none) z.2 := by
  refine ez_startv (z := z) (by decide) (Nat.le_of_ble_eq_true rfl) (fun p e R s m args below meth c Q hC hret hS ls hl => ?_)
  have hC : ez_C p R s m args c X B RX3 cX3_addDoor 4 0 := hC
  have hx := hC.1.1
  have hb := hC.1.2.1
  have hown := hC.1.2.2.2.1
  have hts := hC.1.2.2.2.2
  have hl : lv_has ls 4 [(0, .ref (B + h0)), (1, .int x1), (2, .int x2), (3, .int x3)] := hl
  obtain ⟨σ0, eσ⟩ : ∃ σ0 : ez_H, σ0 = σ := ⟨_, rfl⟩
  rw [← eσ] at hret
  have hS : ez_S X B s.heap σ0.length σ s.heap [] := eσ ▸ hS
  obtain ⟨-, h⟩ := ez_in h
  have K_56 : ∀ (σ : ez_H) (H : Heap) (locs : List Loc) (ls : Array Slot), ez_S X B s.heap (σ0.length) σ H locs → z_X3_addDoor_56 σ = some z → lv_has ls 4 [] → W p l e R s m args below meth c H locs 0 0 Q (F0 m 56 ls []) := by
    intro σ H locs ls hS h hl
    exact hret _ _ _ _ _ _ (Option.some.inj h) hS dX3_addDoor_56
  refine lv_aload_n hx hb dX3_addDoor_0 rfl (lv_at hl 0 rfl) ?_
  refine eg_RX3_65 hC hS h dX3_addDoor_1 (fun t_1 h => ?_)
  refine lv_if_lt (tgt := 56) hx hb dX3_addDoor_4 (by decide) (fun c_4 => ?_) (fun c_4 => ?_)
  · replace h := ez_ifp h c_4
    exact K_56  σ _ _ _ hS h (lv_sub hl [] rfl)
  · replace h := ez_ifn h c_4
    refine lv_aload_n hx hb dX3_addDoor_7 rfl (lv_at hl 0 rfl) ?_
    refine eg_RX3_65 hC hS h dX3_addDoor_8 (fun t_8 h => ?_)
    refine lv_bipush (v := 8) hx hb dX3_addDoor_11 (by decide) ?_
    refine lv_icmp_ge (tgt := 56) hx hb dX3_addDoor_13 (by decide) (fun c_13 => ?_) (fun c_13 => ?_)
    · replace h := ez_ifp h c_13
      exact K_56  σ _ _ _ hS h (lv_sub hl [] rfl)
    · replace h := ez_ifn h c_13
      refine lv_aload_n hx hb dX3_addDoor_16 rfl (lv_at hl 0 rfl) ?_
      refine eg_RX3_32 hC hS h dX3_addDoor_17 (fun t_17 h => ?_)
      refine lv_aload_n hx hb dX3_addDoor_20 rfl (lv_at hl 0 rfl) ?_
      refine eg_RX3_65 hC hS h dX3_addDoor_21 (fun t_21 h => ?_)
      refine lv_iload_n hx hb dX3_addDoor_24 rfl (lv_at hl 1 rfl) ?_
      refine ez_ias hC hS h dX3_addDoor_25 (fun σ H locs hS h => ?_)
      refine lv_aload_n hx hb dX3_addDoor_26 rfl (lv_at hl 0 rfl) ?_
      refine eg_RX3_36 hC hS h dX3_addDoor_27 (fun t_27 h => ?_)
      refine lv_aload_n hx hb dX3_addDoor_30 rfl (lv_at hl 0 rfl) ?_
      refine eg_RX3_65 hC hS h dX3_addDoor_31 (fun t_31 h => ?_)
      refine lv_iload_n hx hb dX3_addDoor_34 rfl (lv_at hl 2 rfl) ?_
      refine ez_ias hC hS h dX3_addDoor_35 (fun σ H locs hS h => ?_)
      refine lv_aload_n hx hb dX3_addDoor_36 rfl (lv_at hl 0 rfl) ?_
      refine eg_RX3_39 hC hS h dX3_addDoor_37 (fun t_37 h => ?_)
      refine lv_aload_n hx hb dX3_addDoor_40 rfl (lv_at hl 0 rfl) ?_
      refine eg_RX3_65 hC hS h dX3_addDoor_41 (fun t_41 h => ?_)
      refine lv_iload_n hx hb dX3_addDoor_44 rfl (lv_at hl 3 rfl) ?_
      refine ez_ias hC hS h dX3_addDoor_45 (fun σ H locs hS h => ?_)
      refine lv_aload_n hx hb dX3_addDoor_46 rfl (lv_at hl 0 rfl) ?_
      refine lv_dup hx hb dX3_addDoor_47 rfl ?_
      refine eg_RX3_65 hC hS h dX3_addDoor_48 (fun t_48 h => ?_)
      refine lv_iconst (v := 1) hx hb dX3_addDoor_51 (by decide) ?_
      refine lv_iadd hx hb dX3_addDoor_52 ?_
      refine ez_top h (fun t_52 h => ?_)
      refine ep_RX3_65 hC hS h dX3_addDoor_53 (fun σ H locs hS h => ?_)
      exact K_56  σ _ _ _ hS h (lv_sub hl [] rfl)
set_option maxHeartbeats 4000000 in
set_option maxRecDepth 100000 in
theorem c_X4_readDoor {l : Launch} {X : ez_X} {B : Nat} {σ : ez_H} {h0 : Nat} {z : Int32 × ez_H} (h : z_X4_readDoor σ h0 = some z) : ez_M l X B σ yX4_readDoor cX4_readDoor 4 (some .boolean) 6 [.ref (B + h0)] (some (.int z.1)) z.2 := by
  refine ez_starti (z := z) (by decide) (Nat.le_of_ble_eq_true rfl) (fun p e R s m args below meth c Q hC hret hS ls hl => ?_)
  have hC : ez_C p R s m args c X B RX4 cX4_readDoor 4 6 := hC
  have hx := hC.1.1
  have hb := hC.1.2.1
  have hown := hC.1.2.2.2.1
  have hts := hC.1.2.2.2.2
  have hl : lv_has ls 4 [(0, .ref (B + h0))] := hl
  obtain ⟨σ0, eσ⟩ : ∃ σ0 : ez_H, σ0 = σ := ⟨_, rfl⟩
  rw [← eσ] at hret
  have hS : ez_S X B s.heap σ0.length σ s.heap [] := eσ ▸ hS
  obtain ⟨-, h⟩ := ez_in h
  have K_26 : ∀ (σ : ez_H) (H : Heap) (locs : List Loc) (ls : Array Slot), ez_S X B s.heap (σ0.length) σ H locs → z_X4_readDoor_26 σ = some z → lv_has ls 4 [] → W p l e R s m args below meth c H locs 0 0 Q (F0 m 26 ls []) := by
    intro σ H locs ls hS h hl
    refine lv_iconst (v := 0) hx hb dX4_readDoor_26 (by decide) ?_
    have hn : narrow .boolean (.int 0) = .int 0 := by decide
    exact hret _ _ _ _ _ _ (Option.some.inj h) hn hS dX4_readDoor_27
  refine lv_aload_n hx hb dX4_readDoor_0 rfl (lv_at hl 0 rfl) ?_
  refine lv_iconst (v := 3) hx hb dX4_readDoor_1 (by decide) ?_
  refine lv_aload_n hx hb dX4_readDoor_2 rfl (lv_at hl 0 rfl) ?_
  refine eg_RX4_12 hC hS h dX4_readDoor_3 (fun t_3 h => ?_)
  refine eg_RX4_177 hC hS h dX4_readDoor_6 (fun t_6 h => ?_)
  refine lv_bipush (v := 8) hx hb dX4_readDoor_9 (by decide) ?_
  refine ez_cVi (As := [.int 3, .int t_6, .int 8]) (rest := []) h (fun _ q => c_X4_readNewName q) hC k_X4_readNewName ql_RX4_144 rfl (by decide) hS (fun _ q => ez_rcv q) rfl hl.1 rfl (Nat.le_of_ble_eq_true rfl) ⟨Nat.zero_le _, Nat.zero_le _⟩ dX4_readDoor_11 (fun t_11 σ H locs hS h => ?_)
  refine lv_if_eq (tgt := 26) hx hb dX4_readDoor_14 (by decide) (fun c_14 => ?_) (fun c_14 => ?_)
  · replace h := ez_ifp h c_14
    exact K_26  σ _ _ _ hS h (lv_sub hl [] rfl)
  · replace h := ez_ifn h c_14
    refine lv_aload_n hx hb dX4_readDoor_17 rfl (lv_at hl 0 rfl) ?_
    refine lv_bipush (v := 12) hx hb dX4_readDoor_18 (by decide) ?_
    refine ez_cVi (As := [.int 12]) (rest := []) h (fun _ q => c_X4_expect q) hC k_X4_expect ql_RX4_97 rfl (by decide) hS (fun _ q => ez_rcv q) rfl hl.1 rfl (Nat.le_of_ble_eq_true rfl) ⟨Nat.zero_le _, Nat.zero_le _⟩ dX4_readDoor_20 (fun t_20 σ H locs hS h => ?_)
    refine lv_if_ne (tgt := 28) hx hb dX4_readDoor_23 (by decide) (fun c_23 => ?_) (fun c_23 => ?_)
    · replace h := ez_ifn h c_23
      refine lv_aload_n hx hb dX4_readDoor_28 rfl (lv_at hl 0 rfl) ?_
      refine lv_iconst (v := 2) hx hb dX4_readDoor_29 (by decide) ?_
      refine lv_aload_n hx hb dX4_readDoor_30 rfl (lv_at hl 0 rfl) ?_
      refine eg_RX4_12 hC hS h dX4_readDoor_31 (fun t_31 h => ?_)
      refine eg_RX4_174 hC hS h dX4_readDoor_34 (fun t_34 h => ?_)
      refine ez_cVi (As := [.int 2, .int t_34]) (rest := []) h (fun _ q => c_X4_knownName q) hC k_X4_knownName ql_RX4_180 rfl (by decide) hS (fun _ q => ez_rcv q) rfl hl.1 rfl (Nat.le_of_ble_eq_true rfl) ⟨Nat.zero_le _, Nat.zero_le _⟩ dX4_readDoor_37 (fun t_37 σ H locs hS h => ?_)
      refine lv_istore_n (lv' := [(1, .int t_37), (0, .ref (B + h0))]) hx hb dX4_readDoor_40 rfl hl (by decide) rfl (fun ls hl => ?_)
      refine lv_iload_n hx hb dX4_readDoor_41 rfl (lv_at hl 0 rfl) ?_
      refine lv_iconst (v := -1) hx hb dX4_readDoor_42 (by decide) ?_
      refine lv_icmp_ne (tgt := 48) hx hb dX4_readDoor_43 (by decide) (fun c_43 => ?_) (fun c_43 => ?_)
      · replace h := ez_ifn h c_43
        refine lv_aload_n hx hb dX4_readDoor_48 rfl (lv_at hl 1 rfl) ?_
        refine eg_RX4_30 hC hS h dX4_readDoor_49 (fun t_49 h => ?_)
        refine ez_cVv (As := []) (rest := []) h (fun _ q => c_X9_advance q) hC k_X9_advance ql_RX4_66 rfl (by decide) hS (fun _ q => ez_rcv q) rfl hl.1 rfl (Nat.le_of_ble_eq_true rfl) ⟨Nat.zero_le _, Nat.zero_le _⟩ dX4_readDoor_52 (fun _ σ H locs hS h => ?_)
        refine lv_aload_n hx hb dX4_readDoor_55 rfl (lv_at hl 1 rfl) ?_
        refine lv_bipush (v := 13) hx hb dX4_readDoor_56 (by decide) ?_
        refine ez_cVi (As := [.int 13]) (rest := []) h (fun _ q => c_X4_expect q) hC k_X4_expect ql_RX4_97 rfl (by decide) hS (fun _ q => ez_rcv q) rfl hl.1 rfl (Nat.le_of_ble_eq_true rfl) ⟨Nat.zero_le _, Nat.zero_le _⟩ dX4_readDoor_58 (fun t_58 σ H locs hS h => ?_)
        refine lv_if_ne (tgt := 66) hx hb dX4_readDoor_61 (by decide) (fun c_61 => ?_) (fun c_61 => ?_)
        · replace h := ez_ifn h c_61
          refine lv_aload_n hx hb dX4_readDoor_66 rfl (lv_at hl 1 rfl) ?_
          refine lv_iconst (v := 2) hx hb dX4_readDoor_67 (by decide) ?_
          refine lv_aload_n hx hb dX4_readDoor_68 rfl (lv_at hl 1 rfl) ?_
          refine eg_RX4_12 hC hS h dX4_readDoor_69 (fun t_69 h => ?_)
          refine eg_RX4_174 hC hS h dX4_readDoor_72 (fun t_72 h => ?_)
          refine ez_cVi (As := [.int 2, .int t_72]) (rest := []) h (fun _ q => c_X4_knownName q) hC k_X4_knownName ql_RX4_180 rfl (by decide) hS (fun _ q => ez_rcv q) rfl hl.1 rfl (Nat.le_of_ble_eq_true rfl) ⟨Nat.zero_le _, Nat.zero_le _⟩ dX4_readDoor_75 (fun t_75 σ H locs hS h => ?_)
          refine lv_istore_n (lv' := [(2, .int t_75), (1, .int t_37), (0, .ref (B + h0))]) hx hb dX4_readDoor_78 rfl hl (by decide) rfl (fun ls hl => ?_)
          refine lv_iload_n hx hb dX4_readDoor_79 rfl (lv_at hl 0 rfl) ?_
          refine lv_iconst (v := -1) hx hb dX4_readDoor_80 (by decide) ?_
          refine lv_icmp_ne (tgt := 86) hx hb dX4_readDoor_81 (by decide) (fun c_81 => ?_) (fun c_81 => ?_)
          · replace h := ez_ifn h c_81
            refine lv_iload_n hx hb dX4_readDoor_86 rfl (lv_at hl 0 rfl) ?_
            refine lv_iload_n hx hb dX4_readDoor_87 rfl (lv_at hl 1 rfl) ?_
            refine lv_icmp_ne (tgt := 97) hx hb dX4_readDoor_88 (by decide) (fun c_88 => ?_) (fun c_88 => ?_)
            · replace h := ez_ifn h c_88
              refine lv_aload_n hx hb dX4_readDoor_97 rfl (lv_at hl 2 rfl) ?_
              refine eg_RX4_30 hC hS h dX4_readDoor_98 (fun t_98 h => ?_)
              refine ez_cVv (As := []) (rest := []) h (fun _ q => c_X9_advance q) hC k_X9_advance ql_RX4_66 rfl (by decide) hS (fun _ q => ez_rcv q) rfl hl.1 rfl (Nat.le_of_ble_eq_true rfl) ⟨Nat.zero_le _, Nat.zero_le _⟩ dX4_readDoor_101 (fun _ σ H locs hS h => ?_)
              refine lv_aload_n hx hb dX4_readDoor_104 rfl (lv_at hl 2 rfl) ?_
              refine lv_iconst (v := 4) hx hb dX4_readDoor_105 (by decide) ?_
              refine ez_cVi (As := [.int 4]) (rest := []) h (fun _ q => c_X4_expect q) hC k_X4_expect ql_RX4_97 rfl (by decide) hS (fun _ q => ez_rcv q) rfl hl.1 rfl (Nat.le_of_ble_eq_true rfl) ⟨Nat.zero_le _, Nat.zero_le _⟩ dX4_readDoor_106 (fun t_106 σ H locs hS h => ?_)
              refine lv_if_ne (tgt := 114) hx hb dX4_readDoor_109 (by decide) (fun c_109 => ?_) (fun c_109 => ?_)
              · replace h := ez_ifn h c_109
                refine lv_aload_n hx hb dX4_readDoor_114 rfl (lv_at hl 2 rfl) ?_
                refine lv_iconst (v := 1) hx hb dX4_readDoor_115 (by decide) ?_
                refine lv_aload_n hx hb dX4_readDoor_116 rfl (lv_at hl 2 rfl) ?_
                refine eg_RX4_12 hC hS h dX4_readDoor_117 (fun t_117 h => ?_)
                refine eg_RX4_103 hC hS h dX4_readDoor_120 (fun t_120 h => ?_)
                refine ez_cVi (As := [.int 1, .int t_120]) (rest := []) h (fun _ q => c_X4_knownName q) hC k_X4_knownName ql_RX4_180 rfl (by decide) hS (fun _ q => ez_rcv q) rfl hl.1 rfl (Nat.le_of_ble_eq_true rfl) ⟨Nat.zero_le _, Nat.zero_le _⟩ dX4_readDoor_123 (fun t_123 σ H locs hS h => ?_)
                refine lv_istore_n (lv' := [(3, .int t_123), (2, .int t_75), (1, .int t_37), (0, .ref (B + h0))]) hx hb dX4_readDoor_126 rfl hl (by decide) rfl (fun ls hl => ?_)
                refine lv_iload_n hx hb dX4_readDoor_127 rfl (lv_at hl 0 rfl) ?_
                refine lv_iconst (v := -1) hx hb dX4_readDoor_128 (by decide) ?_
                refine lv_icmp_ne (tgt := 134) hx hb dX4_readDoor_129 (by decide) (fun c_129 => ?_) (fun c_129 => ?_)
                · replace h := ez_ifn h c_129
                  refine lv_aload_n hx hb dX4_readDoor_134 rfl (lv_at hl 3 rfl) ?_
                  refine eg_RX4_30 hC hS h dX4_readDoor_135 (fun t_135 h => ?_)
                  refine ez_cVv (As := []) (rest := []) h (fun _ q => c_X9_advance q) hC k_X9_advance ql_RX4_66 rfl (by decide) hS (fun _ q => ez_rcv q) rfl hl.1 rfl (Nat.le_of_ble_eq_true rfl) ⟨Nat.zero_le _, Nat.zero_le _⟩ dX4_readDoor_138 (fun _ σ H locs hS h => ?_)
                  refine lv_aload_n hx hb dX4_readDoor_141 rfl (lv_at hl 3 rfl) ?_
                  refine eg_RX4_12 hC hS h dX4_readDoor_142 (fun t_142 h => ?_)
                  refine lv_iload_n hx hb dX4_readDoor_145 rfl (lv_at hl 2 rfl) ?_
                  refine lv_iload_n hx hb dX4_readDoor_146 rfl (lv_at hl 1 rfl) ?_
                  refine lv_iload_n hx hb dX4_readDoor_147 rfl (lv_at hl 0 rfl) ?_
                  refine ez_cVv (As := [.int t_37, .int t_75, .int t_123]) (rest := []) h (fun _ q => c_X3_addDoor q) hC k_X3_addDoor ql_RX4_183 rfl (by decide) hS (fun _ q => ez_rcv q) rfl hl.1 rfl (Nat.le_of_ble_eq_true rfl) ⟨Nat.zero_le _, Nat.zero_le _⟩ dX4_readDoor_148 (fun _ σ H locs hS h => ?_)
                  refine lv_aload_n hx hb dX4_readDoor_151 rfl (lv_at hl 3 rfl) ?_
                  refine lv_bipush (v := 59) hx hb dX4_readDoor_152 (by decide) ?_
                  refine ez_cVi (As := [.int 59]) (rest := []) h (fun _ q => c_X4_expect q) hC k_X4_expect ql_RX4_97 rfl (by decide) hS (fun _ q => ez_rcv q) rfl hl.1 rfl (Nat.le_of_ble_eq_true rfl) ⟨Nat.zero_le _, Nat.zero_le _⟩ dX4_readDoor_154 (fun t_154 σ H locs hS h => ?_)
                  obtain ⟨hn, h⟩ := ez_nr_sp rfl h
                  exact hret _ _ _ _ _ _ (Option.some.inj h) hn hS dX4_readDoor_157
                · replace h := ez_ifp h c_129
                  refine lv_iconst (v := 0) hx hb dX4_readDoor_132 (by decide) ?_
                  have hn : narrow .boolean (.int 0) = .int 0 := by decide
                  exact hret _ _ _ _ _ _ (Option.some.inj h) hn hS dX4_readDoor_133
              · replace h := ez_ifp h c_109
                refine lv_iconst (v := 0) hx hb dX4_readDoor_112 (by decide) ?_
                have hn : narrow .boolean (.int 0) = .int 0 := by decide
                exact hret _ _ _ _ _ _ (Option.some.inj h) hn hS dX4_readDoor_113
            · replace h := ez_ifp h c_88
              refine lv_aload_n hx hb dX4_readDoor_91 rfl (lv_at hl 2 rfl) ?_
              refine lv_iconst (v := 3) hx hb dX4_readDoor_92 (by decide) ?_
              refine ez_cVi (As := [.int 3]) (rest := []) h (fun _ q => c_X4_blame q) hC k_X4_blame ql_RX4_59 rfl (by decide) hS (fun _ q => ez_rcv q) rfl hl.1 rfl (Nat.le_of_ble_eq_true rfl) ⟨Nat.zero_le _, Nat.zero_le _⟩ dX4_readDoor_93 (fun t_93 σ H locs hS h => ?_)
              obtain ⟨hn, h⟩ := ez_nr_sp rfl h
              exact hret _ _ _ _ _ _ (Option.some.inj h) hn hS dX4_readDoor_96
          · replace h := ez_ifp h c_81
            refine lv_iconst (v := 0) hx hb dX4_readDoor_84 (by decide) ?_
            have hn : narrow .boolean (.int 0) = .int 0 := by decide
            exact hret _ _ _ _ _ _ (Option.some.inj h) hn hS dX4_readDoor_85
        · replace h := ez_ifp h c_61
          refine lv_iconst (v := 0) hx hb dX4_readDoor_64 (by decide) ?_
          have hn : narrow .boolean (.int 0) = .int 0 := by decide
          exact hret _ _ _ _ _ _ (Option.some.inj h) hn hS dX4_readDoor_65
      · replace h := ez_ifp h c_43
        refine lv_iconst (v := 0) hx hb dX4_readDoor_46 (by decide) ?_
        have hn : narrow .boolean (.int 0) = .int 0 := by decide
        exact hret _ _ _ _ _ _ (Option.some.inj h) hn hS dX4_readDoor_47
    · replace h := ez_ifp h c_23
      exact K_26  σ _ _ _ hS h (lv_sub hl [] rfl)
set_option maxHeartbeats 4000000 in
set_option maxRecDepth 100000 in
theorem c_X4_readRoom {l : Launch} {X : ez_X} {B : Nat} {σ : ez_H} {h0 : Nat} {z : Int32 × ez_H} (h : z_X4_readRoom σ h0 = some z) : ez_M l X B σ yX4_readRoom cX4_readRoom 1 (some .boolean) 6 [.ref (B + h0)] (some (.int z.1)) z.2 := by
  refine ez_starti (z := z) (by decide) (Nat.le_of_ble_eq_true rfl) (fun p e R s m args below meth c Q hC hret hS ls hl => ?_)
  have hC : ez_C p R s m args c X B RX4 cX4_readRoom 1 6 := hC
  have hx := hC.1.1
  have hb := hC.1.2.1
  have hown := hC.1.2.2.2.1
  have hts := hC.1.2.2.2.2
  have hl : lv_has ls 1 [(0, .ref (B + h0))] := hl
  obtain ⟨σ0, eσ⟩ : ∃ σ0 : ez_H, σ0 = σ := ⟨_, rfl⟩
  rw [← eσ] at hret
  have hS : ez_S X B s.heap σ0.length σ s.heap [] := eσ ▸ hS
  obtain ⟨-, h⟩ := ez_in h
  refine lv_aload_n hx hb dX4_readRoom_0 rfl (lv_at hl 0 rfl) ?_
  refine lv_iconst (v := 2) hx hb dX4_readRoom_1 (by decide) ?_
  refine lv_aload_n hx hb dX4_readRoom_2 rfl (lv_at hl 0 rfl) ?_
  refine eg_RX4_12 hC hS h dX4_readRoom_3 (fun t_3 h => ?_)
  refine eg_RX4_174 hC hS h dX4_readRoom_6 (fun t_6 h => ?_)
  refine lv_bipush (v := 6) hx hb dX4_readRoom_9 (by decide) ?_
  refine ez_cVi (As := [.int 2, .int t_6, .int 6]) (rest := []) h (fun _ q => c_X4_readNewName q) hC k_X4_readNewName ql_RX4_144 rfl (by decide) hS (fun _ q => ez_rcv q) rfl hl.1 rfl (Nat.le_of_ble_eq_true rfl) ⟨Nat.zero_le _, Nat.zero_le _⟩ dX4_readRoom_11 (fun t_11 σ H locs hS h => ?_)
  refine lv_if_ne (tgt := 19) hx hb dX4_readRoom_14 (by decide) (fun c_14 => ?_) (fun c_14 => ?_)
  · replace h := ez_ifn h c_14
    refine lv_aload_n hx hb dX4_readRoom_19 rfl (lv_at hl 0 rfl) ?_
    refine eg_RX4_12 hC hS h dX4_readRoom_20 (fun t_20 h => ?_)
    refine lv_dup hx hb dX4_readRoom_23 rfl ?_
    refine eg_RX4_174 hC hS h dX4_readRoom_24 (fun t_24 h => ?_)
    refine lv_iconst (v := 1) hx hb dX4_readRoom_27 (by decide) ?_
    refine lv_iadd hx hb dX4_readRoom_28 ?_
    refine ez_top h (fun t_28 h => ?_)
    refine ep_RX4_174 hC hS h dX4_readRoom_29 (fun σ H locs hS h => ?_)
    refine lv_aload_n hx hb dX4_readRoom_32 rfl (lv_at hl 0 rfl) ?_
    refine lv_bipush (v := 59) hx hb dX4_readRoom_33 (by decide) ?_
    refine ez_cVi (As := [.int 59]) (rest := []) h (fun _ q => c_X4_expect q) hC k_X4_expect ql_RX4_97 rfl (by decide) hS (fun _ q => ez_rcv q) rfl hl.1 rfl (Nat.le_of_ble_eq_true rfl) ⟨Nat.zero_le _, Nat.zero_le _⟩ dX4_readRoom_35 (fun t_35 σ H locs hS h => ?_)
    obtain ⟨hn, h⟩ := ez_nr_sp rfl h
    exact hret _ _ _ _ _ _ (Option.some.inj h) hn hS dX4_readRoom_38
  · replace h := ez_ifp h c_14
    refine lv_iconst (v := 0) hx hb dX4_readRoom_17 (by decide) ?_
    have hn : narrow .boolean (.int 0) = .int 0 := by decide
    exact hret _ _ _ _ _ _ (Option.some.inj h) hn hS dX4_readRoom_18
set_option maxHeartbeats 4000000 in
set_option maxRecDepth 100000 in
theorem c_X4_depthHere {l : Launch} {X : ez_X} {B : Nat} {σ : ez_H} {h0 : Nat} {z : Int32 × ez_H} (h : z_X4_depthHere σ h0 = some z) : ez_M l X B σ yX4_depthHere cX4_depthHere 1 (some .int) 2 [.ref (B + h0)] (some (.int z.1)) z.2 := by
  refine ez_starti (z := z) (by decide) (Nat.le_of_ble_eq_true rfl) (fun p e R s m args below meth c Q hC hret hS ls hl => ?_)
  have hC : ez_C p R s m args c X B RX4 cX4_depthHere 1 2 := hC
  have hx := hC.1.1
  have hb := hC.1.2.1
  have hown := hC.1.2.2.2.1
  have hts := hC.1.2.2.2.2
  have hl : lv_has ls 1 [(0, .ref (B + h0))] := hl
  obtain ⟨σ0, eσ⟩ : ∃ σ0 : ez_H, σ0 = σ := ⟨_, rfl⟩
  rw [← eσ] at hret
  have hS : ez_S X B s.heap σ0.length σ s.heap [] := eσ ▸ hS
  obtain ⟨-, h⟩ := ez_in h
  refine lv_aload_n hx hb dX4_depthHere_0 rfl (lv_at hl 0 rfl) ?_
  refine eg_RX4_30 hC hS h dX4_depthHere_1 (fun t_1 h => ?_)
  refine eg_RX4_49 hC hS h dX4_depthHere_4 (fun t_4 h => ?_)
  refine lv_bipush (v := 24) hx hb dX4_depthHere_7 (by decide) ?_
  refine lv_icmp_eq (tgt := 19) hx hb dX4_depthHere_9 (by decide) (fun c_9 => ?_) (fun c_9 => ?_)
  · replace h := ez_ifp h c_9
    refine lv_aload_n hx hb dX4_depthHere_19 rfl (lv_at hl 0 rfl) ?_
    refine eg_RX4_12 hC hS h dX4_depthHere_20 (fun t_20 h => ?_)
    refine eg_RX4_109 hC hS h dX4_depthHere_23 (fun t_23 h => ?_)
    refine lv_aload_n hx hb dX4_depthHere_26 rfl (lv_at hl 0 rfl) ?_
    refine eg_RX4_30 hC hS h dX4_depthHere_27 (fun t_27 h => ?_)
    refine eg_RX4_106 hC hS h dX4_depthHere_30 (fun t_30 h => ?_)
    refine ez_cVpi (As := [.int t_30]) (rest := []) h (fun _ q => c_X6_hasDepth q) hC k_X6_hasDepth ql_RX4_141 rfl (by decide) hS (fun _ q => ez_rcv q) rfl hl.1 rfl (Nat.le_of_ble_eq_true rfl) ⟨Nat.zero_le _, Nat.zero_le _⟩ dX4_depthHere_33 (fun t_33 H locs hS h => ?_)
    refine lv_if_ne (tgt := 47) hx hb dX4_depthHere_36 (by decide) (fun c_36 => ?_) (fun c_36 => ?_)
    · replace h := ez_ifn h c_36
      refine lv_aload_n hx hb dX4_depthHere_47 rfl (lv_at hl 0 rfl) ?_
      refine eg_RX4_30 hC hS h dX4_depthHere_48 (fun t_48 h => ?_)
      refine eg_RX4_106 hC hS h dX4_depthHere_51 (fun t_51 h => ?_)
      exact hret _ _ _ _ _ _ (Option.some.inj h) rfl hS dX4_depthHere_54
    · replace h := ez_ifp h c_36
      refine lv_aload_n hx hb dX4_depthHere_39 rfl (lv_at hl 0 rfl) ?_
      refine lv_iconst (v := 4) hx hb dX4_depthHere_40 (by decide) ?_
      refine ez_cVi (As := [.int 4]) (rest := []) h (fun _ q => c_X4_blame q) hC k_X4_blame ql_RX4_59 rfl (by decide) hS (fun _ q => ez_rcv q) rfl hl.1 rfl (Nat.le_of_ble_eq_true rfl) ⟨Nat.zero_le _, Nat.zero_le _⟩ dX4_depthHere_41 (fun t_41 σ H locs hS h => ?_)
      refine lv_pop hx hb dX4_depthHere_44 rfl ?_
      refine lv_iconst (v := -1) hx hb dX4_depthHere_45 (by decide) ?_
      exact hret _ _ _ _ _ _ (Option.some.inj h) rfl hS dX4_depthHere_46
  · replace h := ez_ifn h c_9
    refine lv_aload_n hx hb dX4_depthHere_12 rfl (lv_at hl 0 rfl) ?_
    refine ez_cVi (As := []) (rest := []) h (fun _ q => c_X4_refuse q) hC k_X4_refuse ql_RX4_63 rfl (by decide) hS (fun _ q => ez_rcv q) rfl hl.1 rfl (Nat.le_of_ble_eq_true rfl) ⟨Nat.zero_le _, Nat.zero_le _⟩ dX4_depthHere_13 (fun t_13 σ H locs hS h => ?_)
    refine lv_pop hx hb dX4_depthHere_16 rfl ?_
    refine lv_iconst (v := -1) hx hb dX4_depthHere_17 (by decide) ?_
    exact hret _ _ _ _ _ _ (Option.some.inj h) rfl hS dX4_depthHere_18
set_option maxHeartbeats 4000000 in
set_option maxRecDepth 100000 in
theorem c_X4_readPart {l : Launch} {X : ez_X} {B : Nat} {σ : ez_H} {h0 : Nat} {x1 : Int32} {z : Int32 × ez_H} (h : z_X4_readPart σ h0 x1 = some z) : ez_M l X B σ yX4_readPart cX4_readPart 5 (some .int) 5 [.ref (B + h0), .int x1] (some (.int z.1)) z.2 := by
  refine ez_starti (z := z) (by decide) (Nat.le_of_ble_eq_true rfl) (fun p e R s m args below meth c Q hC hret hS ls hl => ?_)
  have hC : ez_C p R s m args c X B RX4 cX4_readPart 5 5 := hC
  have hx := hC.1.1
  have hb := hC.1.2.1
  have hown := hC.1.2.2.2.1
  have hts := hC.1.2.2.2.2
  have hl : lv_has ls 5 [(0, .ref (B + h0)), (1, .int x1)] := hl
  obtain ⟨σ0, eσ⟩ : ∃ σ0 : ez_H, σ0 = σ := ⟨_, rfl⟩
  rw [← eσ] at hret
  have hS : ez_S X B s.heap σ0.length σ s.heap [] := eσ ▸ hS
  obtain ⟨-, h⟩ := ez_in h
  have K_4 : ∀ (k_4 : ez_H → Nat → Int32 → Int32 → Int32 → Option (Int32 × ez_H)) (hk_4 : ∀ (σ : ez_H) (h0 : Nat) (x1 : Int32) (x2 : Int32) (x3 : Int32) (H : Heap) (locs : List Loc) (ls : Array Slot), ez_S X B s.heap (σ0.length) σ H locs → k_4 σ h0 x1 x2 x3 = some z → lv_has ls 5 [(0, .ref (B + h0)), (1, .int x1), (2, .int x2), (3, .int x3)] → W p l e R s m args below meth c H locs 0 0 Q (F0 m 4 ls [])), ∀ (σ : ez_H) (h0 : Nat) (x1 : Int32) (x2 : Int32) (x3 : Int32) (H : Heap) (locs : List Loc) (ls : Array Slot), ez_S X B s.heap (σ0.length) σ H locs → z_X4_readPart_4 k_4 σ h0 x1 x2 x3 = some z → lv_has ls 5 [(0, .ref (B + h0)), (1, .int x1), (2, .int x2), (3, .int x3)] → W p l e R s m args below meth c H locs 0 0 Q (F0 m 4 ls []) := by
    intro k_4 hk_4 σ h0 x1 x2 x3 H locs ls hS h hl
    refine lv_iload_n hx hb dX4_readPart_4 rfl (lv_at hl 3 rfl) ?_
    refine lv_bipush (v := 6) hx hb dX4_readPart_5 (by decide) ?_
    refine lv_icmp_gt (tgt := 86) hx hb dX4_readPart_7 (by decide) (fun c_7 => ?_) (fun c_7 => ?_)
    · replace h := ez_ifp h c_7
      refine lv_iconst (v := 0) hx hb dX4_readPart_86 (by decide) ?_
      exact hret _ _ _ _ _ _ (Option.some.inj h) rfl hS dX4_readPart_87
    · replace h := ez_ifn h c_7
      refine lv_aload_n hx hb dX4_readPart_10 rfl (lv_at hl 0 rfl) ?_
      refine ez_cVi (As := []) (rest := []) h (fun _ q => c_X4_depthHere q) hC k_X4_depthHere ql_RX4_148 rfl (by decide) hS (fun _ q => ez_rcv q) rfl hl.1 rfl (Nat.le_of_ble_eq_true rfl) ⟨Nat.zero_le _, Nat.zero_le _⟩ dX4_readPart_11 (fun t_11 σ H locs hS h => ?_)
      refine lv_istore (lv' := [(4, .int t_11), (0, .ref (B + h0)), (1, .int x1), (2, .int x2), (3, .int x3)]) hx hb dX4_readPart_14 hl (by decide) rfl (fun ls hl => ?_)
      refine lv_iload hx hb dX4_readPart_16 (lv_at hl 0 rfl) ?_
      refine lv_iconst (v := -1) hx hb dX4_readPart_18 (by decide) ?_
      refine lv_icmp_ne (tgt := 24) hx hb dX4_readPart_19 (by decide) (fun c_19 => ?_) (fun c_19 => ?_)
      · replace h := ez_ifn h c_19
        refine lv_iload_n hx hb dX4_readPart_24 rfl (lv_at hl 3 rfl) ?_
        refine lv_iload_n hx hb dX4_readPart_25 rfl (lv_at hl 2 rfl) ?_
        refine lv_iload hx hb dX4_readPart_26 (lv_at hl 0 rfl) ?_
        refine ez_cSpi (As := [.int x1, .int t_11]) (rest := [.int x2]) h (fun _ q => c_X6_notch q) hC k_X6_notch ql_RX4_158 rfl (by decide) hS hl.1 rfl (Nat.le_of_ble_eq_true rfl) ⟨Nat.zero_le _, Nat.zero_le _⟩ dX4_readPart_28 (fun t_28 H locs hS h => ?_)
        refine lv_iand hx hb dX4_readPart_31 ?_
        refine ez_top h (fun t_31 h => ?_)
        refine lv_if_eq (tgt := 43) hx hb dX4_readPart_32 (by decide) (fun c_32 => ?_) (fun c_32 => ?_)
        · replace h := ez_ifp h c_32
          refine lv_iload_n hx hb dX4_readPart_43 rfl (lv_at hl 3 rfl) ?_
          refine lv_iload_n hx hb dX4_readPart_44 rfl (lv_at hl 2 rfl) ?_
          refine lv_iload hx hb dX4_readPart_45 (lv_at hl 0 rfl) ?_
          refine ez_cSpi (As := [.int x1, .int t_11]) (rest := [.int x2]) h (fun _ q => c_X6_notch q) hC k_X6_notch ql_RX4_158 rfl (by decide) hS hl.1 rfl (Nat.le_of_ble_eq_true rfl) ⟨Nat.zero_le _, Nat.zero_le _⟩ dX4_readPart_47 (fun t_47 H locs hS h => ?_)
          refine lv_ior hx hb dX4_readPart_50 ?_
          refine ez_top h (fun t_50 h => ?_)
          refine lv_istore_n (lv' := [(2, .int t_50), (4, .int t_11), (0, .ref (B + h0)), (1, .int x1), (3, .int x3)]) hx hb dX4_readPart_51 rfl hl (by decide) rfl (fun ls hl => ?_)
          refine lv_aload_n hx hb dX4_readPart_52 rfl (lv_at hl 2 rfl) ?_
          refine eg_RX4_30 hC hS h dX4_readPart_53 (fun t_53 h => ?_)
          refine ez_cVv (As := []) (rest := []) h (fun _ q => c_X9_advance q) hC k_X9_advance ql_RX4_66 rfl (by decide) hS (fun _ q => ez_rcv q) rfl hl.1 rfl (Nat.le_of_ble_eq_true rfl) ⟨Nat.zero_le _, Nat.zero_le _⟩ dX4_readPart_56 (fun _ σ H locs hS h => ?_)
          refine lv_aload_n hx hb dX4_readPart_59 rfl (lv_at hl 2 rfl) ?_
          refine eg_RX4_30 hC hS h dX4_readPart_60 (fun t_60 h => ?_)
          refine eg_RX4_49 hC hS h dX4_readPart_63 (fun t_63 h => ?_)
          refine lv_bipush (v := 47) hx hb dX4_readPart_66 (by decide) ?_
          refine lv_icmp_eq (tgt := 73) hx hb dX4_readPart_68 (by decide) (fun c_68 => ?_) (fun c_68 => ?_)
          · replace h := ez_ifp h c_68
            refine lv_aload_n hx hb dX4_readPart_73 rfl (lv_at hl 2 rfl) ?_
            refine eg_RX4_30 hC hS h dX4_readPart_74 (fun t_74 h => ?_)
            refine ez_cVv (As := []) (rest := []) h (fun _ q => c_X9_advance q) hC k_X9_advance ql_RX4_66 rfl (by decide) hS (fun _ q => ez_rcv q) rfl hl.1 rfl (Nat.le_of_ble_eq_true rfl) ⟨Nat.zero_le _, Nat.zero_le _⟩ dX4_readPart_77 (fun _ σ H locs hS h => ?_)
            obtain ⟨t_80, e_80, h⟩ := ez_let_sp h
            refine lv_iinc (v := t_80) (lv' := [(3, .int t_80), (2, .int t_50), (4, .int t_11), (0, .ref (B + h0)), (1, .int x1)]) hx hb dX4_readPart_80 hl (k := 4) rfl (by rw [e_80]; rfl) (by decide) rfl (fun ls hl => ?_)
            refine lv_goto (tgt := 4) hx hb dX4_readPart_83 (by decide) ?_
            exact hk_4 σ h0 x1 t_50 t_80 _ _ _ hS h (lv_sub hl [3, 4, 1, 0] rfl)
          · replace h := ez_ifn h c_68
            refine lv_iload_n hx hb dX4_readPart_71 rfl (lv_at hl 0 rfl) ?_
            exact hret _ _ _ _ _ _ (Option.some.inj h) rfl hS dX4_readPart_72
        · replace h := ez_ifn h c_32
          refine lv_aload_n hx hb dX4_readPart_35 rfl (lv_at hl 1 rfl) ?_
          refine lv_iconst (v := 3) hx hb dX4_readPart_36 (by decide) ?_
          refine ez_cVi (As := [.int 3]) (rest := []) h (fun _ q => c_X4_blame q) hC k_X4_blame ql_RX4_59 rfl (by decide) hS (fun _ q => ez_rcv q) rfl hl.1 rfl (Nat.le_of_ble_eq_true rfl) ⟨Nat.zero_le _, Nat.zero_le _⟩ dX4_readPart_37 (fun t_37 σ H locs hS h => ?_)
          refine lv_pop hx hb dX4_readPart_40 rfl ?_
          refine lv_iconst (v := 0) hx hb dX4_readPart_41 (by decide) ?_
          exact hret _ _ _ _ _ _ (Option.some.inj h) rfl hS dX4_readPart_42
      · replace h := ez_ifp h c_19
        refine lv_iconst (v := 0) hx hb dX4_readPart_22 (by decide) ?_
        exact hret _ _ _ _ _ _ (Option.some.inj h) rfl hS dX4_readPart_23
  have E_4 : ∀ (σ : ez_H) (h0 : Nat) (x1 : Int32) (x2 : Int32) (x3 : Int32) (H : Heap) (locs : List Loc) (ls : Array Slot), ez_S X B s.heap (σ0.length) σ H locs → (ez_fix (fun _ _ _ _ _ => none) (z_X4_readPart_4) ez_N) σ h0 x1 x2 x3 = some z → lv_has ls 5 [(0, .ref (B + h0)), (1, .int x1), (2, .int x2), (3, .int x3)] → W p l e R s m args below meth c H locs 0 0 Q (F0 m 4 ls []) := ez_fix_ind (fun k_4 : ez_H → Nat → Int32 → Int32 → Int32 → Option (Int32 × ez_H) => ∀ (σ : ez_H) (h0 : Nat) (x1 : Int32) (x2 : Int32) (x3 : Int32) (H : Heap) (locs : List Loc) (ls : Array Slot), ez_S X B s.heap (σ0.length) σ H locs → k_4 σ h0 x1 x2 x3 = some z → lv_has ls 5 [(0, .ref (B + h0)), (1, .int x1), (2, .int x2), (3, .int x3)] → W p l e R s m args below meth c H locs 0 0 Q (F0 m 4 ls [])) (fun _ _ _ _ _ _ _ _ _ h _ => by cases h) (fun k_4 hk_4 => K_4 k_4 hk_4) ez_N
  refine lv_iconst (v := 0) hx hb dX4_readPart_0 (by decide) ?_
  refine lv_istore_n (lv' := [(2, .int 0), (0, .ref (B + h0)), (1, .int x1)]) hx hb dX4_readPart_1 rfl hl (by decide) rfl (fun ls hl => ?_)
  refine lv_iconst (v := 0) hx hb dX4_readPart_2 (by decide) ?_
  refine lv_istore_n (lv' := [(3, .int 0), (2, .int 0), (0, .ref (B + h0)), (1, .int x1)]) hx hb dX4_readPart_3 rfl hl (by decide) rfl (fun ls hl => ?_)
  exact E_4  σ h0 x1 (0 : Int32) (0 : Int32) _ _ _ hS h (lv_sub hl [2, 3, 1, 0] rfl)
set_option maxHeartbeats 4000000 in
set_option maxRecDepth 100000 in
theorem c_X4_readLock {l : Launch} {X : ez_X} {B : Nat} {σ : ez_H} {h0 : Nat} {z : Int32 × ez_H} (h : z_X4_readLock σ h0 = some z) : ez_M l X B σ yX4_readLock cX4_readLock 4 (some .boolean) 6 [.ref (B + h0)] (some (.int z.1)) z.2 := by
  refine ez_starti (z := z) (by decide) (Nat.le_of_ble_eq_true rfl) (fun p e R s m args below meth c Q hC hret hS ls hl => ?_)
  have hC : ez_C p R s m args c X B RX4 cX4_readLock 4 6 := hC
  have hx := hC.1.1
  have hb := hC.1.2.1
  have hown := hC.1.2.2.2.1
  have hts := hC.1.2.2.2.2
  have hl : lv_has ls 4 [(0, .ref (B + h0))] := hl
  obtain ⟨σ0, eσ⟩ : ∃ σ0 : ez_H, σ0 = σ := ⟨_, rfl⟩
  rw [← eσ] at hret
  have hS : ez_S X B s.heap σ0.length σ s.heap [] := eσ ▸ hS
  obtain ⟨-, h⟩ := ez_in h
  have K_23 : ∀ (k_23 : ez_H → Nat → Int32 → Int32 → Option (Int32 × ez_H)) (hk_23 : ∀ (σ : ez_H) (h0 : Nat) (x1 : Int32) (x2 : Int32) (H : Heap) (locs : List Loc) (ls : Array Slot), ez_S X B s.heap (σ0.length) σ H locs → k_23 σ h0 x1 x2 = some z → lv_has ls 4 [(0, .ref (B + h0)), (1, .int x1), (2, .int x2)] → W p l e R s m args below meth c H locs 0 0 Q (F0 m 23 ls [])), ∀ (σ : ez_H) (h0 : Nat) (x1 : Int32) (x2 : Int32) (H : Heap) (locs : List Loc) (ls : Array Slot), ez_S X B s.heap (σ0.length) σ H locs → z_X4_readLock_23 k_23 σ h0 x1 x2 = some z → lv_has ls 4 [(0, .ref (B + h0)), (1, .int x1), (2, .int x2)] → W p l e R s m args below meth c H locs 0 0 Q (F0 m 23 ls []) := by
    intro k_23 hk_23 σ h0 x1 x2 H locs ls hS h hl
    refine lv_iload_n hx hb dX4_readLock_23 rfl (lv_at hl 2 rfl) ?_
    refine lv_aload_n hx hb dX4_readLock_24 rfl (lv_at hl 0 rfl) ?_
    refine eg_RX4_12 hC hS h dX4_readLock_25 (fun t_25 h => ?_)
    refine eg_RX4_109 hC hS h dX4_readLock_28 (fun t_28 h => ?_)
    refine eg_RX4_113 hC hS h dX4_readLock_31 (fun t_31 h => ?_)
    refine lv_icmp_ge (tgt := 59) hx hb dX4_readLock_34 (by decide) (fun c_34 => ?_) (fun c_34 => ?_)
    · replace h := ez_ifp h c_34
      refine lv_aload_n hx hb dX4_readLock_59 rfl (lv_at hl 0 rfl) ?_
      refine eg_RX4_12 hC hS h dX4_readLock_60 (fun t_60 h => ?_)
      refine eg_RX4_124 hC hS h dX4_readLock_63 (fun t_63 h => ?_)
      refine lv_aload_n hx hb dX4_readLock_66 rfl (lv_at hl 0 rfl) ?_
      refine eg_RX4_12 hC hS h dX4_readLock_67 (fun t_67 h => ?_)
      refine eg_RX4_103 hC hS h dX4_readLock_70 (fun t_70 h => ?_)
      refine lv_iload_n hx hb dX4_readLock_73 rfl (lv_at hl 1 rfl) ?_
      refine ez_cVv (As := [.int t_70, .int x1]) (rest := []) h (fun _ q => c_X7_putPins q) hC k_X7_putPins ql_RX4_171 rfl (by decide) hS (fun _ q => ez_rcv q) rfl hl.1 rfl (Nat.le_of_ble_eq_true rfl) ⟨Nat.zero_le _, Nat.zero_le _⟩ dX4_readLock_74 (fun _ σ H locs hS h => ?_)
      refine lv_aload_n hx hb dX4_readLock_77 rfl (lv_at hl 0 rfl) ?_
      refine eg_RX4_12 hC hS h dX4_readLock_78 (fun t_78 h => ?_)
      refine lv_dup hx hb dX4_readLock_81 rfl ?_
      refine eg_RX4_103 hC hS h dX4_readLock_82 (fun t_82 h => ?_)
      refine lv_iconst (v := 1) hx hb dX4_readLock_85 (by decide) ?_
      refine lv_iadd hx hb dX4_readLock_86 ?_
      refine ez_top h (fun t_86 h => ?_)
      refine ep_RX4_103 hC hS h dX4_readLock_87 (fun σ H locs hS h => ?_)
      refine lv_aload_n hx hb dX4_readLock_90 rfl (lv_at hl 0 rfl) ?_
      refine lv_bipush (v := 59) hx hb dX4_readLock_91 (by decide) ?_
      refine ez_cVi (As := [.int 59]) (rest := []) h (fun _ q => c_X4_expect q) hC k_X4_expect ql_RX4_97 rfl (by decide) hS (fun _ q => ez_rcv q) rfl hl.1 rfl (Nat.le_of_ble_eq_true rfl) ⟨Nat.zero_le _, Nat.zero_le _⟩ dX4_readLock_93 (fun t_93 σ H locs hS h => ?_)
      obtain ⟨hn, h⟩ := ez_nr_sp rfl h
      exact hret _ _ _ _ _ _ (Option.some.inj h) hn hS dX4_readLock_96
    · replace h := ez_ifn h c_34
      refine lv_aload_n hx hb dX4_readLock_37 rfl (lv_at hl 0 rfl) ?_
      refine lv_iload_n hx hb dX4_readLock_38 rfl (lv_at hl 2 rfl) ?_
      refine ez_cVi (As := [.int x2]) (rest := []) h (fun _ q => c_X4_readPart q) hC k_X4_readPart ql_RX4_168 rfl (by decide) hS (fun _ q => ez_rcv q) rfl hl.1 rfl (Nat.le_of_ble_eq_true rfl) ⟨Nat.zero_le _, Nat.zero_le _⟩ dX4_readLock_39 (fun t_39 σ H locs hS h => ?_)
      refine lv_istore_n (lv' := [(3, .int t_39), (0, .ref (B + h0)), (1, .int x1), (2, .int x2)]) hx hb dX4_readLock_42 rfl hl (by decide) rfl (fun ls hl => ?_)
      refine lv_iload_n hx hb dX4_readLock_43 rfl (lv_at hl 0 rfl) ?_
      refine lv_if_ne (tgt := 49) hx hb dX4_readLock_44 (by decide) (fun c_44 => ?_) (fun c_44 => ?_)
      · replace h := ez_ifn h c_44
        refine lv_iload_n hx hb dX4_readLock_49 rfl (lv_at hl 2 rfl) ?_
        refine lv_iload_n hx hb dX4_readLock_50 rfl (lv_at hl 0 rfl) ?_
        refine lv_ior hx hb dX4_readLock_51 ?_
        refine ez_top h (fun t_51 h => ?_)
        refine lv_istore_n (lv' := [(1, .int t_51), (3, .int t_39), (0, .ref (B + h0)), (2, .int x2)]) hx hb dX4_readLock_52 rfl hl (by decide) rfl (fun ls hl => ?_)
        obtain ⟨t_53, e_53, h⟩ := ez_let_sp h
        refine lv_iinc (v := t_53) (lv' := [(2, .int t_53), (1, .int t_51), (3, .int t_39), (0, .ref (B + h0))]) hx hb dX4_readLock_53 hl (k := 3) rfl (by rw [e_53]; rfl) (by decide) rfl (fun ls hl => ?_)
        refine lv_goto (tgt := 23) hx hb dX4_readLock_56 (by decide) ?_
        exact hk_23 σ h0 t_51 t_53 _ _ _ hS h (lv_sub hl [3, 1, 0] rfl)
      · replace h := ez_ifp h c_44
        refine lv_iconst (v := 0) hx hb dX4_readLock_47 (by decide) ?_
        have hn : narrow .boolean (.int 0) = .int 0 := by decide
        exact hret _ _ _ _ _ _ (Option.some.inj h) hn hS dX4_readLock_48
  have E_23 : ∀ (σ : ez_H) (h0 : Nat) (x1 : Int32) (x2 : Int32) (H : Heap) (locs : List Loc) (ls : Array Slot), ez_S X B s.heap (σ0.length) σ H locs → (ez_fix (fun _ _ _ _ => none) (z_X4_readLock_23) ez_N) σ h0 x1 x2 = some z → lv_has ls 4 [(0, .ref (B + h0)), (1, .int x1), (2, .int x2)] → W p l e R s m args below meth c H locs 0 0 Q (F0 m 23 ls []) := ez_fix_ind (fun k_23 : ez_H → Nat → Int32 → Int32 → Option (Int32 × ez_H) => ∀ (σ : ez_H) (h0 : Nat) (x1 : Int32) (x2 : Int32) (H : Heap) (locs : List Loc) (ls : Array Slot), ez_S X B s.heap (σ0.length) σ H locs → k_23 σ h0 x1 x2 = some z → lv_has ls 4 [(0, .ref (B + h0)), (1, .int x1), (2, .int x2)] → W p l e R s m args below meth c H locs 0 0 Q (F0 m 23 ls [])) (fun _ _ _ _ _ _ _ _ h _ => by cases h) (fun k_23 hk_23 => K_23 k_23 hk_23) ez_N
  refine lv_aload_n hx hb dX4_readLock_0 rfl (lv_at hl 0 rfl) ?_
  refine lv_iconst (v := 1) hx hb dX4_readLock_1 (by decide) ?_
  refine lv_aload_n hx hb dX4_readLock_2 rfl (lv_at hl 0 rfl) ?_
  refine eg_RX4_12 hC hS h dX4_readLock_3 (fun t_3 h => ?_)
  refine eg_RX4_103 hC hS h dX4_readLock_6 (fun t_6 h => ?_)
  refine lv_bipush (v := 6) hx hb dX4_readLock_9 (by decide) ?_
  refine ez_cVi (As := [.int 1, .int t_6, .int 6]) (rest := []) h (fun _ q => c_X4_readNewName q) hC k_X4_readNewName ql_RX4_144 rfl (by decide) hS (fun _ q => ez_rcv q) rfl hl.1 rfl (Nat.le_of_ble_eq_true rfl) ⟨Nat.zero_le _, Nat.zero_le _⟩ dX4_readLock_11 (fun t_11 σ H locs hS h => ?_)
  refine lv_if_ne (tgt := 19) hx hb dX4_readLock_14 (by decide) (fun c_14 => ?_) (fun c_14 => ?_)
  · replace h := ez_ifn h c_14
    refine lv_iconst (v := 0) hx hb dX4_readLock_19 (by decide) ?_
    refine lv_istore_n (lv' := [(1, .int 0), (0, .ref (B + h0))]) hx hb dX4_readLock_20 rfl hl (by decide) rfl (fun ls hl => ?_)
    refine lv_iconst (v := 0) hx hb dX4_readLock_21 (by decide) ?_
    refine lv_istore_n (lv' := [(2, .int 0), (1, .int 0), (0, .ref (B + h0))]) hx hb dX4_readLock_22 rfl hl (by decide) rfl (fun ls hl => ?_)
    exact E_23  σ h0 (0 : Int32) (0 : Int32) _ _ _ hS h (lv_sub hl [2, 1, 0] rfl)
  · replace h := ez_ifp h c_14
    refine lv_iconst (v := 0) hx hb dX4_readLock_17 (by decide) ?_
    have hn : narrow .boolean (.int 0) = .int 0 := by decide
    exact hret _ _ _ _ _ _ (Option.some.inj h) hn hS dX4_readLock_18
set_option maxHeartbeats 4000000 in
set_option maxRecDepth 100000 in
theorem c_X4_readKey {l : Launch} {X : ez_X} {B : Nat} {σ : ez_H} {h0 : Nat} {z : Int32 × ez_H} (h : z_X4_readKey σ h0 = some z) : ez_M l X B σ yX4_readKey cX4_readKey 5 (some .boolean) 6 [.ref (B + h0)] (some (.int z.1)) z.2 := by
  refine ez_starti (z := z) (by decide) (Nat.le_of_ble_eq_true rfl) (fun p e R s m args below meth c Q hC hret hS ls hl => ?_)
  have hC : ez_C p R s m args c X B RX4 cX4_readKey 5 6 := hC
  have hx := hC.1.1
  have hb := hC.1.2.1
  have hown := hC.1.2.2.2.1
  have hts := hC.1.2.2.2.2
  have hl : lv_has ls 5 [(0, .ref (B + h0))] := hl
  obtain ⟨σ0, eσ⟩ : ∃ σ0 : ez_H, σ0 = σ := ⟨_, rfl⟩
  rw [← eσ] at hret
  have hS : ez_S X B s.heap σ0.length σ s.heap [] := eσ ▸ hS
  obtain ⟨-, h⟩ := ez_in h
  have K_83 : ∀ (k_25 : ez_H → Nat → Int32 → Int32 → Int32 → Option (Int32 × ez_H)) (hk_25 : ∀ (σ : ez_H) (h0 : Nat) (x1 : Int32) (x2 : Int32) (x3 : Int32) (H : Heap) (locs : List Loc) (ls : Array Slot), ez_S X B s.heap (σ0.length) σ H locs → k_25 σ h0 x1 x2 x3 = some z → lv_has ls 5 [(0, .ref (B + h0)), (1, .int x1), (2, .int x2), (3, .int x3)] → W p l e R s m args below meth c H locs 0 0 Q (F0 m 25 ls [])), ∀ (σ : ez_H) (h0 : Nat) (x1 : Int32) (x3 : Int32) (x4 : Int32) (H : Heap) (locs : List Loc) (ls : Array Slot), ez_S X B s.heap (σ0.length) σ H locs → z_X4_readKey_83 k_25 σ h0 x1 x3 x4 = some z → lv_has ls 5 [(0, .ref (B + h0)), (1, .int x1), (3, .int x3), (4, .int x4)] → W p l e R s m args below meth c H locs 0 0 Q (F0 m 83 ls []) := by
    intro k_25 hk_25 σ h0 x1 x3 x4 H locs ls hS h hl
    refine lv_iload_n hx hb dX4_readKey_83 rfl (lv_at hl 1 rfl) ?_
    refine lv_iload_n hx hb dX4_readKey_84 rfl (lv_at hl 2 rfl) ?_
    refine lv_iload hx hb dX4_readKey_85 (lv_at hl 3 rfl) ?_
    refine ez_cSpi (As := [.int x3, .int x4]) (rest := [.int x1]) h (fun _ q => c_X6_notch q) hC k_X6_notch ql_RX4_158 rfl (by decide) hS hl.1 rfl (Nat.le_of_ble_eq_true rfl) ⟨Nat.zero_le _, Nat.zero_le _⟩ dX4_readKey_87 (fun t_87 H locs hS h => ?_)
    refine lv_ior hx hb dX4_readKey_90 ?_
    refine ez_top h (fun t_90 h => ?_)
    refine lv_istore_n (lv' := [(1, .int t_90), (0, .ref (B + h0)), (3, .int x3), (4, .int x4)]) hx hb dX4_readKey_91 rfl hl (by decide) rfl (fun ls hl => ?_)
    refine lv_iload hx hb dX4_readKey_92 (lv_at hl 3 rfl) ?_
    refine lv_istore_n (lv' := [(2, .int x4), (1, .int t_90), (0, .ref (B + h0)), (3, .int x3), (4, .int x4)]) hx hb dX4_readKey_94 rfl hl (by decide) rfl (fun ls hl => ?_)
    refine lv_aload_n hx hb dX4_readKey_95 rfl (lv_at hl 2 rfl) ?_
    refine eg_RX4_30 hC hS h dX4_readKey_96 (fun t_96 h => ?_)
    refine ez_cVv (As := []) (rest := []) h (fun _ q => c_X9_advance q) hC k_X9_advance ql_RX4_66 rfl (by decide) hS (fun _ q => ez_rcv q) rfl hl.1 rfl (Nat.le_of_ble_eq_true rfl) ⟨Nat.zero_le _, Nat.zero_le _⟩ dX4_readKey_99 (fun _ σ H locs hS h => ?_)
    obtain ⟨t_102, e_102, h⟩ := ez_let_sp h
    refine lv_iinc (v := t_102) (lv' := [(3, .int t_102), (2, .int x4), (1, .int t_90), (0, .ref (B + h0)), (4, .int x4)]) hx hb dX4_readKey_102 hl (k := 3) rfl (by rw [e_102]; rfl) (by decide) rfl (fun ls hl => ?_)
    refine lv_goto (tgt := 25) hx hb dX4_readKey_105 (by decide) ?_
    exact hk_25 σ h0 t_90 x4 t_102 _ _ _ hS h (lv_sub hl [3, 2, 1, 0] rfl)
  have K_25 : ∀ (k_25 : ez_H → Nat → Int32 → Int32 → Int32 → Option (Int32 × ez_H)) (hk_25 : ∀ (σ : ez_H) (h0 : Nat) (x1 : Int32) (x2 : Int32) (x3 : Int32) (H : Heap) (locs : List Loc) (ls : Array Slot), ez_S X B s.heap (σ0.length) σ H locs → k_25 σ h0 x1 x2 x3 = some z → lv_has ls 5 [(0, .ref (B + h0)), (1, .int x1), (2, .int x2), (3, .int x3)] → W p l e R s m args below meth c H locs 0 0 Q (F0 m 25 ls [])), ∀ (σ : ez_H) (h0 : Nat) (x1 : Int32) (x2 : Int32) (x3 : Int32) (H : Heap) (locs : List Loc) (ls : Array Slot), ez_S X B s.heap (σ0.length) σ H locs → z_X4_readKey_25 k_25 σ h0 x1 x2 x3 = some z → lv_has ls 5 [(0, .ref (B + h0)), (1, .int x1), (2, .int x2), (3, .int x3)] → W p l e R s m args below meth c H locs 0 0 Q (F0 m 25 ls []) := by
    intro k_25 hk_25 σ h0 x1 x2 x3 H locs ls hS h hl
    refine lv_iload_n hx hb dX4_readKey_25 rfl (lv_at hl 3 rfl) ?_
    refine lv_aload_n hx hb dX4_readKey_26 rfl (lv_at hl 0 rfl) ?_
    refine eg_RX4_12 hC hS h dX4_readKey_27 (fun t_27 h => ?_)
    refine eg_RX4_109 hC hS h dX4_readKey_30 (fun t_30 h => ?_)
    refine eg_RX4_113 hC hS h dX4_readKey_33 (fun t_33 h => ?_)
    refine lv_icmp_ge (tgt := 108) hx hb dX4_readKey_36 (by decide) (fun c_36 => ?_) (fun c_36 => ?_)
    · replace h := ez_ifp h c_36
      refine lv_aload_n hx hb dX4_readKey_108 rfl (lv_at hl 0 rfl) ?_
      refine eg_RX4_12 hC hS h dX4_readKey_109 (fun t_109 h => ?_)
      refine eg_RX4_124 hC hS h dX4_readKey_112 (fun t_112 h => ?_)
      refine lv_aload_n hx hb dX4_readKey_115 rfl (lv_at hl 0 rfl) ?_
      refine eg_RX4_12 hC hS h dX4_readKey_116 (fun t_116 h => ?_)
      refine eg_RX4_100 hC hS h dX4_readKey_119 (fun t_119 h => ?_)
      refine lv_iload_n hx hb dX4_readKey_122 rfl (lv_at hl 1 rfl) ?_
      refine ez_cVv (As := [.int t_119, .int x1]) (rest := []) h (fun _ q => c_X7_putBits q) hC k_X7_putBits ql_RX4_161 rfl (by decide) hS (fun _ q => ez_rcv q) rfl hl.1 rfl (Nat.le_of_ble_eq_true rfl) ⟨Nat.zero_le _, Nat.zero_le _⟩ dX4_readKey_123 (fun _ σ H locs hS h => ?_)
      refine lv_aload_n hx hb dX4_readKey_126 rfl (lv_at hl 0 rfl) ?_
      refine eg_RX4_12 hC hS h dX4_readKey_127 (fun t_127 h => ?_)
      refine eg_RX4_124 hC hS h dX4_readKey_130 (fun t_130 h => ?_)
      refine lv_aload_n hx hb dX4_readKey_133 rfl (lv_at hl 0 rfl) ?_
      refine eg_RX4_12 hC hS h dX4_readKey_134 (fun t_134 h => ?_)
      refine eg_RX4_100 hC hS h dX4_readKey_137 (fun t_137 h => ?_)
      refine lv_iconst (v := -1) hx hb dX4_readKey_140 (by decide) ?_
      refine ez_cVv (As := [.int t_137, .int (-1)]) (rest := []) h (fun _ q => c_X7_putHolder q) hC k_X7_putHolder ql_RX4_165 rfl (by decide) hS (fun _ q => ez_rcv q) rfl hl.1 rfl (Nat.le_of_ble_eq_true rfl) ⟨Nat.zero_le _, Nat.zero_le _⟩ dX4_readKey_141 (fun _ σ H locs hS h => ?_)
      refine lv_aload_n hx hb dX4_readKey_144 rfl (lv_at hl 0 rfl) ?_
      refine eg_RX4_12 hC hS h dX4_readKey_145 (fun t_145 h => ?_)
      refine lv_dup hx hb dX4_readKey_148 rfl ?_
      refine eg_RX4_100 hC hS h dX4_readKey_149 (fun t_149 h => ?_)
      refine lv_iconst (v := 1) hx hb dX4_readKey_152 (by decide) ?_
      refine lv_iadd hx hb dX4_readKey_153 ?_
      refine ez_top h (fun t_153 h => ?_)
      refine ep_RX4_100 hC hS h dX4_readKey_154 (fun σ H locs hS h => ?_)
      refine lv_aload_n hx hb dX4_readKey_157 rfl (lv_at hl 0 rfl) ?_
      refine lv_bipush (v := 59) hx hb dX4_readKey_158 (by decide) ?_
      refine ez_cVi (As := [.int 59]) (rest := []) h (fun _ q => c_X4_expect q) hC k_X4_expect ql_RX4_97 rfl (by decide) hS (fun _ q => ez_rcv q) rfl hl.1 rfl (Nat.le_of_ble_eq_true rfl) ⟨Nat.zero_le _, Nat.zero_le _⟩ dX4_readKey_160 (fun t_160 σ H locs hS h => ?_)
      obtain ⟨hn, h⟩ := ez_nr_sp rfl h
      exact hret _ _ _ _ _ _ (Option.some.inj h) hn hS dX4_readKey_163
    · replace h := ez_ifn h c_36
      refine lv_aload_n hx hb dX4_readKey_39 rfl (lv_at hl 0 rfl) ?_
      refine ez_cVi (As := []) (rest := []) h (fun _ q => c_X4_depthHere q) hC k_X4_depthHere ql_RX4_148 rfl (by decide) hS (fun _ q => ez_rcv q) rfl hl.1 rfl (Nat.le_of_ble_eq_true rfl) ⟨Nat.zero_le _, Nat.zero_le _⟩ dX4_readKey_40 (fun t_40 σ H locs hS h => ?_)
      refine lv_istore (lv' := [(4, .int t_40), (0, .ref (B + h0)), (1, .int x1), (2, .int x2), (3, .int x3)]) hx hb dX4_readKey_43 hl (by decide) rfl (fun ls hl => ?_)
      refine lv_iload hx hb dX4_readKey_45 (lv_at hl 0 rfl) ?_
      refine lv_iconst (v := -1) hx hb dX4_readKey_47 (by decide) ?_
      refine lv_icmp_ne (tgt := 53) hx hb dX4_readKey_48 (by decide) (fun c_48 => ?_) (fun c_48 => ?_)
      · replace h := ez_ifn h c_48
        refine lv_iload_n hx hb dX4_readKey_53 rfl (lv_at hl 4 rfl) ?_
        refine lv_if_le (tgt := 83) hx hb dX4_readKey_54 (by decide) (fun c_54 => ?_) (fun c_54 => ?_)
        · replace h := ez_ifp h c_54
          exact K_83 k_25 hk_25 σ h0 x1 x3 t_40 _ _ _ hS h (lv_sub hl [1, 2, 4, 0] rfl)
        · replace h := ez_ifn h c_54
          refine lv_iload hx hb dX4_readKey_57 (lv_at hl 0 rfl) ?_
          refine lv_iload_n hx hb dX4_readKey_59 rfl (lv_at hl 3 rfl) ?_
          refine lv_isub hx hb dX4_readKey_60 ?_
          refine ez_top h (fun t_60 h => ?_)
          refine va_mabs hx hb (hC.1.2.2.1.trans hl.1.symm) hown (hts _ ql_RX4_152) (hts _ qm_abs_s) (hts _ qm_i) (hts _ qm_abs_c) (Nat.le_trans (by decide) hC.2.2.1) (Nat.le_trans (Nat.le_of_ble_eq_true rfl) hC.2.2.2.1) (Nat.zero_le _) (Nat.zero_le _) dX4_readKey_61 ?_
          refine ez_top h (fun t_61 h => ?_)
          refine lv_aload_n hx hb dX4_readKey_64 rfl (lv_at hl 1 rfl) ?_
          refine eg_RX4_12 hC hS h dX4_readKey_65 (fun t_65 h => ?_)
          refine eg_RX4_109 hC hS h dX4_readKey_68 (fun t_68 h => ?_)
          refine eg_RX4_121 hC hS h dX4_readKey_71 (fun t_71 h => ?_)
          refine lv_icmp_le (tgt := 83) hx hb dX4_readKey_74 (by decide) (fun c_74 => ?_) (fun c_74 => ?_)
          · replace h := ez_ifp h c_74
            exact K_83 k_25 hk_25 σ h0 x1 x3 t_40 _ _ _ hS h (lv_sub hl [1, 2, 4, 0] rfl)
          · replace h := ez_ifn h c_74
            refine lv_aload_n hx hb dX4_readKey_77 rfl (lv_at hl 1 rfl) ?_
            refine lv_iconst (v := 4) hx hb dX4_readKey_78 (by decide) ?_
            refine ez_cVi (As := [.int 4]) (rest := []) h (fun _ q => c_X4_blame q) hC k_X4_blame ql_RX4_59 rfl (by decide) hS (fun _ q => ez_rcv q) rfl hl.1 rfl (Nat.le_of_ble_eq_true rfl) ⟨Nat.zero_le _, Nat.zero_le _⟩ dX4_readKey_79 (fun t_79 σ H locs hS h => ?_)
            obtain ⟨hn, h⟩ := ez_nr_sp rfl h
            exact hret _ _ _ _ _ _ (Option.some.inj h) hn hS dX4_readKey_82
      · replace h := ez_ifp h c_48
        refine lv_iconst (v := 0) hx hb dX4_readKey_51 (by decide) ?_
        have hn : narrow .boolean (.int 0) = .int 0 := by decide
        exact hret _ _ _ _ _ _ (Option.some.inj h) hn hS dX4_readKey_52
  have E_25 : ∀ (σ : ez_H) (h0 : Nat) (x1 : Int32) (x2 : Int32) (x3 : Int32) (H : Heap) (locs : List Loc) (ls : Array Slot), ez_S X B s.heap (σ0.length) σ H locs → (ez_fix (fun _ _ _ _ _ => none) (z_X4_readKey_25) ez_N) σ h0 x1 x2 x3 = some z → lv_has ls 5 [(0, .ref (B + h0)), (1, .int x1), (2, .int x2), (3, .int x3)] → W p l e R s m args below meth c H locs 0 0 Q (F0 m 25 ls []) := ez_fix_ind (fun k_25 : ez_H → Nat → Int32 → Int32 → Int32 → Option (Int32 × ez_H) => ∀ (σ : ez_H) (h0 : Nat) (x1 : Int32) (x2 : Int32) (x3 : Int32) (H : Heap) (locs : List Loc) (ls : Array Slot), ez_S X B s.heap (σ0.length) σ H locs → k_25 σ h0 x1 x2 x3 = some z → lv_has ls 5 [(0, .ref (B + h0)), (1, .int x1), (2, .int x2), (3, .int x3)] → W p l e R s m args below meth c H locs 0 0 Q (F0 m 25 ls [])) (fun _ _ _ _ _ _ _ _ _ h _ => by cases h) (fun k_25 hk_25 => K_25 k_25 hk_25) ez_N
  refine lv_aload_n hx hb dX4_readKey_0 rfl (lv_at hl 0 rfl) ?_
  refine lv_iconst (v := 0) hx hb dX4_readKey_1 (by decide) ?_
  refine lv_aload_n hx hb dX4_readKey_2 rfl (lv_at hl 0 rfl) ?_
  refine eg_RX4_12 hC hS h dX4_readKey_3 (fun t_3 h => ?_)
  refine eg_RX4_100 hC hS h dX4_readKey_6 (fun t_6 h => ?_)
  refine lv_bipush (v := 8) hx hb dX4_readKey_9 (by decide) ?_
  refine ez_cVi (As := [.int 0, .int t_6, .int 8]) (rest := []) h (fun _ q => c_X4_readNewName q) hC k_X4_readNewName ql_RX4_144 rfl (by decide) hS (fun _ q => ez_rcv q) rfl hl.1 rfl (Nat.le_of_ble_eq_true rfl) ⟨Nat.zero_le _, Nat.zero_le _⟩ dX4_readKey_11 (fun t_11 σ H locs hS h => ?_)
  refine lv_if_ne (tgt := 19) hx hb dX4_readKey_14 (by decide) (fun c_14 => ?_) (fun c_14 => ?_)
  · replace h := ez_ifn h c_14
    refine lv_iconst (v := 0) hx hb dX4_readKey_19 (by decide) ?_
    refine lv_istore_n (lv' := [(1, .int 0), (0, .ref (B + h0))]) hx hb dX4_readKey_20 rfl hl (by decide) rfl (fun ls hl => ?_)
    refine lv_iconst (v := 0) hx hb dX4_readKey_21 (by decide) ?_
    refine lv_istore_n (lv' := [(2, .int 0), (1, .int 0), (0, .ref (B + h0))]) hx hb dX4_readKey_22 rfl hl (by decide) rfl (fun ls hl => ?_)
    refine lv_iconst (v := 0) hx hb dX4_readKey_23 (by decide) ?_
    refine lv_istore_n (lv' := [(3, .int 0), (2, .int 0), (1, .int 0), (0, .ref (B + h0))]) hx hb dX4_readKey_24 rfl hl (by decide) rfl (fun ls hl => ?_)
    exact E_25  σ h0 (0 : Int32) (0 : Int32) (0 : Int32) _ _ _ hS h (lv_sub hl [3, 2, 1, 0] rfl)
  · replace h := ez_ifp h c_14
    refine lv_iconst (v := 0) hx hb dX4_readKey_17 (by decide) ?_
    have hn : narrow .boolean (.int 0) = .int 0 := by decide
    exact hret _ _ _ _ _ _ (Option.some.inj h) hn hS dX4_readKey_18
set_option maxHeartbeats 4000000 in
set_option maxRecDepth 100000 in
theorem c_X4_readLine {l : Launch} {X : ez_X} {B : Nat} {σ : ez_H} {h0 : Nat} {z : Int32 × ez_H} (h : z_X4_readLine σ h0 = some z) : ez_M l X B σ yX4_readLine cX4_readLine 1 (some .boolean) 53 [.ref (B + h0)] (some (.int z.1)) z.2 := by
  refine ez_starti (z := z) (by decide) (Nat.le_of_ble_eq_true rfl) (fun p e R s m args below meth c Q hC hret hS ls hl => ?_)
  have hC : ez_C p R s m args c X B RX4 cX4_readLine 1 53 := hC
  have hx := hC.1.1
  have hb := hC.1.2.1
  have hown := hC.1.2.2.2.1
  have hts := hC.1.2.2.2.2
  have hl : lv_has ls 1 [(0, .ref (B + h0))] := hl
  obtain ⟨σ0, eσ⟩ : ∃ σ0 : ez_H, σ0 = σ := ⟨_, rfl⟩
  rw [← eσ] at hret
  have hS : ez_S X B s.heap σ0.length σ s.heap [] := eσ ▸ hS
  obtain ⟨-, h⟩ := ez_in h
  have K_115 : ∀ (σ : ez_H) (h0 : Nat) (H : Heap) (locs : List Loc) (ls : Array Slot), ez_S X B s.heap (σ0.length) σ H locs → z_X4_readLine_115 σ h0 = some z → lv_has ls 1 [(0, .ref (B + h0))] → W p l e R s m args below meth c H locs 0 0 Q (F0 m 115 ls []) := by
    intro σ h0 H locs ls hS h hl
    refine lv_aload_n hx hb dX4_readLine_115 rfl (lv_at hl 0 rfl) ?_
    refine ez_cVi (As := []) (rest := []) h (fun _ q => c_X4_readRule q) hC k_X4_readRule ql_RX4_88 rfl (by decide) hS (fun _ q => ez_rcv q) rfl hl.1 rfl (Nat.le_of_ble_eq_true rfl) ⟨Nat.zero_le _, Nat.zero_le _⟩ dX4_readLine_116 (fun t_116 σ H locs hS h => ?_)
    obtain ⟨hn, h⟩ := ez_nr_sp rfl h
    exact hret _ _ _ _ _ _ (Option.some.inj h) hn hS dX4_readLine_119
  have K_149 : ∀ (σ : ez_H) (y0 : Int32) (H : Heap) (locs : List Loc) (ls : Array Slot), ez_S X B s.heap (σ0.length) σ H locs → z_X4_readLine_149 σ y0 = some z → lv_has ls 1 [] → W p l e R s m args below meth c H locs 0 0 Q (F0 m 149 ls [.int y0]) := by
    intro σ y0 H locs ls hS h hl
    obtain ⟨hn, h⟩ := ez_nr_sp rfl h
    exact hret _ _ _ _ _ _ (Option.some.inj h) hn hS dX4_readLine_149
  have K_148 : ∀ (σ : ez_H) (H : Heap) (locs : List Loc) (ls : Array Slot), ez_S X B s.heap (σ0.length) σ H locs → z_X4_readLine_148 σ = some z → lv_has ls 1 [] → W p l e R s m args below meth c H locs 0 0 Q (F0 m 148 ls []) := by
    intro σ H locs ls hS h hl
    refine lv_iconst (v := 0) hx hb dX4_readLine_148 (by decide) ?_
    exact K_149  σ (0 : Int32) _ _ _ hS h (lv_sub hl [] rfl)
  refine lv_aload_n hx hb dX4_readLine_0 rfl (lv_at hl 0 rfl) ?_
  refine eg_RX4_30 hC hS h dX4_readLine_1 (fun t_1 h => ?_)
  refine eg_RX4_49 hC hS h dX4_readLine_4 (fun t_4 h => ?_)
  by_cases s_7_0 : t_4 = 0
  · replace h := ez_ifp h s_7_0
    refine lv_tableIn (tgt := 68) hx hb dX4_readLine_7 (by rw [s_7_0]; decide) (by rw [s_7_0]; decide) (by first | (rw [s_7_0]; done) | (rw [s_7_0]; rfl)) (by decide) ?_
    refine lv_aload_n hx hb dX4_readLine_68 rfl (lv_at hl 0 rfl) ?_
    refine lv_iconst (v := 2) hx hb dX4_readLine_69 (by decide) ?_
    refine lv_iconst (v := 5) hx hb dX4_readLine_70 (by decide) ?_
    refine ez_cVi (As := [.int 2, .int 5]) (rest := []) h (fun _ q => c_X4_readOnce q) hC k_X4_readOnce ql_RX4_69 rfl (by decide) hS (fun _ q => ez_rcv q) rfl hl.1 rfl (Nat.le_of_ble_eq_true rfl) ⟨Nat.zero_le _, Nat.zero_le _⟩ dX4_readLine_71 (fun t_71 σ H locs hS h => ?_)
    obtain ⟨hn, h⟩ := ez_nr_sp rfl h
    exact hret _ _ _ _ _ _ (Option.some.inj h) hn hS dX4_readLine_74
  replace h := ez_ifn h s_7_0
  by_cases s_7_1 : t_4 = 1
  · replace h := ez_ifp h s_7_1
    refine lv_tableIn (tgt := 75) hx hb dX4_readLine_7 (by rw [s_7_1]; decide) (by rw [s_7_1]; decide) (by first | (rw [s_7_1]; done) | (rw [s_7_1]; rfl)) (by decide) ?_
    refine lv_aload_n hx hb dX4_readLine_75 rfl (lv_at hl 0 rfl) ?_
    refine lv_iconst (v := 2) hx hb dX4_readLine_76 (by decide) ?_
    refine lv_bipush (v := 6) hx hb dX4_readLine_77 (by decide) ?_
    refine ez_cVi (As := [.int 2, .int 6]) (rest := []) h (fun _ q => c_X4_readOnce q) hC k_X4_readOnce ql_RX4_69 rfl (by decide) hS (fun _ q => ez_rcv q) rfl hl.1 rfl (Nat.le_of_ble_eq_true rfl) ⟨Nat.zero_le _, Nat.zero_le _⟩ dX4_readLine_79 (fun t_79 σ H locs hS h => ?_)
    obtain ⟨hn, h⟩ := ez_nr_sp rfl h
    exact hret _ _ _ _ _ _ (Option.some.inj h) hn hS dX4_readLine_82
  replace h := ez_ifn h s_7_1
  by_cases s_7_2 : t_4 = 2
  · replace h := ez_ifp h s_7_2
    refine lv_tableIn (tgt := 83) hx hb dX4_readLine_7 (by rw [s_7_2]; decide) (by rw [s_7_2]; decide) (by first | (rw [s_7_2]; done) | (rw [s_7_2]; rfl)) (by decide) ?_
    refine lv_aload_n hx hb dX4_readLine_83 rfl (lv_at hl 0 rfl) ?_
    refine lv_iconst (v := 0) hx hb dX4_readLine_84 (by decide) ?_
    refine lv_iconst (v := 5) hx hb dX4_readLine_85 (by decide) ?_
    refine ez_cVi (As := [.int 0, .int 5]) (rest := []) h (fun _ q => c_X4_readOnce q) hC k_X4_readOnce ql_RX4_69 rfl (by decide) hS (fun _ q => ez_rcv q) rfl hl.1 rfl (Nat.le_of_ble_eq_true rfl) ⟨Nat.zero_le _, Nat.zero_le _⟩ dX4_readLine_86 (fun t_86 σ H locs hS h => ?_)
    obtain ⟨hn, h⟩ := ez_nr_sp rfl h
    exact hret _ _ _ _ _ _ (Option.some.inj h) hn hS dX4_readLine_89
  replace h := ez_ifn h s_7_2
  by_cases s_7_3 : t_4 = 3
  · replace h := ez_ifp h s_7_3
    refine lv_tableIn (tgt := 90) hx hb dX4_readLine_7 (by rw [s_7_3]; decide) (by rw [s_7_3]; decide) (by first | (rw [s_7_3]; done) | (rw [s_7_3]; rfl)) (by decide) ?_
    refine lv_aload_n hx hb dX4_readLine_90 rfl (lv_at hl 0 rfl) ?_
    refine ez_cVi (As := []) (rest := []) h (fun _ q => c_X4_readKey q) hC k_X4_readKey ql_RX4_73 rfl (by decide) hS (fun _ q => ez_rcv q) rfl hl.1 rfl (Nat.le_of_ble_eq_true rfl) ⟨Nat.zero_le _, Nat.zero_le _⟩ dX4_readLine_91 (fun t_91 σ H locs hS h => ?_)
    obtain ⟨hn, h⟩ := ez_nr_sp rfl h
    exact hret _ _ _ _ _ _ (Option.some.inj h) hn hS dX4_readLine_94
  replace h := ez_ifn h s_7_3
  by_cases s_7_4 : t_4 = 4
  · replace h := ez_ifp h s_7_4
    refine lv_tableIn (tgt := 95) hx hb dX4_readLine_7 (by rw [s_7_4]; decide) (by rw [s_7_4]; decide) (by first | (rw [s_7_4]; done) | (rw [s_7_4]; rfl)) (by decide) ?_
    refine lv_aload_n hx hb dX4_readLine_95 rfl (lv_at hl 0 rfl) ?_
    refine ez_cVi (As := []) (rest := []) h (fun _ q => c_X4_readLock q) hC k_X4_readLock ql_RX4_76 rfl (by decide) hS (fun _ q => ez_rcv q) rfl hl.1 rfl (Nat.le_of_ble_eq_true rfl) ⟨Nat.zero_le _, Nat.zero_le _⟩ dX4_readLine_96 (fun t_96 σ H locs hS h => ?_)
    obtain ⟨hn, h⟩ := ez_nr_sp rfl h
    exact hret _ _ _ _ _ _ (Option.some.inj h) hn hS dX4_readLine_99
  replace h := ez_ifn h s_7_4
  by_cases s_7_5 : t_4 = 5
  · replace h := ez_ifp h s_7_5
    refine lv_tableIn (tgt := 100) hx hb dX4_readLine_7 (by rw [s_7_5]; decide) (by rw [s_7_5]; decide) (by first | (rw [s_7_5]; done) | (rw [s_7_5]; rfl)) (by decide) ?_
    refine lv_aload_n hx hb dX4_readLine_100 rfl (lv_at hl 0 rfl) ?_
    refine ez_cVi (As := []) (rest := []) h (fun _ q => c_X4_readRoom q) hC k_X4_readRoom ql_RX4_79 rfl (by decide) hS (fun _ q => ez_rcv q) rfl hl.1 rfl (Nat.le_of_ble_eq_true rfl) ⟨Nat.zero_le _, Nat.zero_le _⟩ dX4_readLine_101 (fun t_101 σ H locs hS h => ?_)
    obtain ⟨hn, h⟩ := ez_nr_sp rfl h
    exact hret _ _ _ _ _ _ (Option.some.inj h) hn hS dX4_readLine_104
  replace h := ez_ifn h s_7_5
  by_cases s_7_6 : t_4 = 6
  · replace h := ez_ifp h s_7_6
    refine lv_tableIn (tgt := 105) hx hb dX4_readLine_7 (by rw [s_7_6]; decide) (by rw [s_7_6]; decide) (by first | (rw [s_7_6]; done) | (rw [s_7_6]; rfl)) (by decide) ?_
    refine lv_aload_n hx hb dX4_readLine_105 rfl (lv_at hl 0 rfl) ?_
    refine ez_cVi (As := []) (rest := []) h (fun _ q => c_X4_readDoor q) hC k_X4_readDoor ql_RX4_82 rfl (by decide) hS (fun _ q => ez_rcv q) rfl hl.1 rfl (Nat.le_of_ble_eq_true rfl) ⟨Nat.zero_le _, Nat.zero_le _⟩ dX4_readLine_106 (fun t_106 σ H locs hS h => ?_)
    obtain ⟨hn, h⟩ := ez_nr_sp rfl h
    exact hret _ _ _ _ _ _ (Option.some.inj h) hn hS dX4_readLine_109
  replace h := ez_ifn h s_7_6
  by_cases s_7_7 : t_4 = 7
  · replace h := ez_ifp h s_7_7
    refine lv_tableIn (tgt := 110) hx hb dX4_readLine_7 (by rw [s_7_7]; decide) (by rw [s_7_7]; decide) (by first | (rw [s_7_7]; done) | (rw [s_7_7]; rfl)) (by decide) ?_
    refine lv_aload_n hx hb dX4_readLine_110 rfl (lv_at hl 0 rfl) ?_
    refine ez_cVi (As := []) (rest := []) h (fun _ q => c_X4_readPerson q) hC k_X4_readPerson ql_RX4_85 rfl (by decide) hS (fun _ q => ez_rcv q) rfl hl.1 rfl (Nat.le_of_ble_eq_true rfl) ⟨Nat.zero_le _, Nat.zero_le _⟩ dX4_readLine_111 (fun t_111 σ H locs hS h => ?_)
    obtain ⟨hn, h⟩ := ez_nr_sp rfl h
    exact hret _ _ _ _ _ _ (Option.some.inj h) hn hS dX4_readLine_114
  replace h := ez_ifn h s_7_7
  by_cases s_7_8 : t_4 = 8
  · replace h := ez_ifp h s_7_8
    refine lv_tableIn (tgt := 115) hx hb dX4_readLine_7 (by rw [s_7_8]; decide) (by rw [s_7_8]; decide) (by first | (rw [s_7_8]; done) | (rw [s_7_8]; rfl)) (by decide) ?_
    exact K_115  σ h0 _ _ _ hS h (lv_sub hl [0] rfl)
  replace h := ez_ifn h s_7_8
  by_cases s_7_9 : t_4 = 9
  · replace h := ez_ifp h s_7_9
    refine lv_tableIn (tgt := 115) hx hb dX4_readLine_7 (by rw [s_7_9]; decide) (by rw [s_7_9]; decide) (by first | (rw [s_7_9]; done) | (rw [s_7_9]; rfl)) (by decide) ?_
    exact K_115  σ h0 _ _ _ hS h (lv_sub hl [0] rfl)
  replace h := ez_ifn h s_7_9
  by_cases s_7_10 : t_4 = 10
  · replace h := ez_ifp h s_7_10
    refine lv_tableIn (tgt := 120) hx hb dX4_readLine_7 (by rw [s_7_10]; decide) (by rw [s_7_10]; decide) (by first | (rw [s_7_10]; done) | (rw [s_7_10]; rfl)) (by decide) ?_
    refine lv_aload_n hx hb dX4_readLine_120 rfl (lv_at hl 0 rfl) ?_
    refine ez_cVi (As := []) (rest := []) h (fun _ q => c_X4_beginOnce q) hC k_X4_beginOnce ql_RX4_91 rfl (by decide) hS (fun _ q => ez_rcv q) rfl hl.1 rfl (Nat.le_of_ble_eq_true rfl) ⟨Nat.zero_le _, Nat.zero_le _⟩ dX4_readLine_121 (fun t_121 σ H locs hS h => ?_)
    refine lv_if_eq (tgt := 148) hx hb dX4_readLine_124 (by decide) (fun c_124 => ?_) (fun c_124 => ?_)
    · replace h := ez_ifp h c_124
      exact K_148  σ _ _ _ hS h (lv_sub hl [] rfl)
    · replace h := ez_ifn h c_124
      refine lv_aload_n hx hb dX4_readLine_127 rfl (lv_at hl 0 rfl) ?_
      refine lv_iconst (v := 0) hx hb dX4_readLine_128 (by decide) ?_
      refine ez_cVi (As := [.int 0]) (rest := []) h (fun _ q => c_X4_readEither_k0 q) hC k_X4_readEither ql_RX4_94 rfl (by decide) hS (fun _ q => ez_rcv q) rfl hl.1 rfl (Nat.le_of_ble_eq_true rfl) ⟨Nat.zero_le _, Nat.zero_le _⟩ dX4_readLine_129 (fun t_129 σ H locs hS h => ?_)
      refine lv_if_eq (tgt := 148) hx hb dX4_readLine_132 (by decide) (fun c_132 => ?_) (fun c_132 => ?_)
      · replace h := ez_ifp h c_132
        exact K_148  σ _ _ _ hS h (lv_sub hl [] rfl)
      · replace h := ez_ifn h c_132
        refine lv_aload_n hx hb dX4_readLine_135 rfl (lv_at hl 0 rfl) ?_
        refine lv_bipush (v := 59) hx hb dX4_readLine_136 (by decide) ?_
        refine ez_cVi (As := [.int 59]) (rest := []) h (fun _ q => c_X4_expect q) hC k_X4_expect ql_RX4_97 rfl (by decide) hS (fun _ q => ez_rcv q) rfl hl.1 rfl (Nat.le_of_ble_eq_true rfl) ⟨Nat.zero_le _, Nat.zero_le _⟩ dX4_readLine_138 (fun t_138 σ H locs hS h => ?_)
        refine lv_if_eq (tgt := 148) hx hb dX4_readLine_141 (by decide) (fun c_141 => ?_) (fun c_141 => ?_)
        · replace h := ez_ifp h c_141
          exact K_148  σ _ _ _ hS h (lv_sub hl [] rfl)
        · replace h := ez_ifn h c_141
          refine lv_iconst (v := 1) hx hb dX4_readLine_144 (by decide) ?_
          refine lv_goto (tgt := 149) hx hb dX4_readLine_145 (by decide) ?_
          exact K_149  σ (1 : Int32) _ _ _ hS h (lv_sub hl [] rfl)
  replace h := ez_ifn h s_7_10
  by_cases s_7_11 : t_4 = 11
  · replace h := ez_ifp h s_7_11
    refine lv_tableIn (tgt := 150) hx hb dX4_readLine_7 (by rw [s_7_11]; decide) (by rw [s_7_11]; decide) (by first | (rw [s_7_11]; done) | (rw [s_7_11]; rfl)) (by decide) ?_
    refine lv_aload_n hx hb dX4_readLine_150 rfl (lv_at hl 0 rfl) ?_
    refine lv_iconst (v := 0) hx hb dX4_readLine_151 (by decide) ?_
    refine lv_sipush (v := 999) hx hb dX4_readLine_152 (by decide) ?_
    refine ez_cVi (As := [.int 0, .int 999]) (rest := []) h (fun _ q => c_X4_readOnce q) hC k_X4_readOnce ql_RX4_69 rfl (by decide) hS (fun _ q => ez_rcv q) rfl hl.1 rfl (Nat.le_of_ble_eq_true rfl) ⟨Nat.zero_le _, Nat.zero_le _⟩ dX4_readLine_155 (fun t_155 σ H locs hS h => ?_)
    obtain ⟨hn, h⟩ := ez_nr_sp rfl h
    exact hret _ _ _ _ _ _ (Option.some.inj h) hn hS dX4_readLine_158
  replace h := ez_ifn h s_7_11
  have w_7 : Int32.toInt t_4 < 0 ∨ 11 < Int32.toInt t_4 := by
    have q_0 := ez_toNe (k := 0) s_7_0 (by decide)
    have q_1 := ez_toNe (k := 1) s_7_1 (by decide)
    have q_2 := ez_toNe (k := 2) s_7_2 (by decide)
    have q_3 := ez_toNe (k := 3) s_7_3 (by decide)
    have q_4 := ez_toNe (k := 4) s_7_4 (by decide)
    have q_5 := ez_toNe (k := 5) s_7_5 (by decide)
    have q_6 := ez_toNe (k := 6) s_7_6 (by decide)
    have q_7 := ez_toNe (k := 7) s_7_7 (by decide)
    have q_8 := ez_toNe (k := 8) s_7_8 (by decide)
    have q_9 := ez_toNe (k := 9) s_7_9 (by decide)
    have q_10 := ez_toNe (k := 10) s_7_10 (by decide)
    have q_11 := ez_toNe (k := 11) s_7_11 (by decide)
    omega
  refine lv_tableOut (tgt := 159) hx hb dX4_readLine_7 w_7 (by decide) ?_
  refine lv_aload_n hx hb dX4_readLine_159 rfl (lv_at hl 0 rfl) ?_
  refine ez_cVi (As := []) (rest := []) h (fun _ q => c_X4_refuse q) hC k_X4_refuse ql_RX4_63 rfl (by decide) hS (fun _ q => ez_rcv q) rfl hl.1 rfl (Nat.le_of_ble_eq_true rfl) ⟨Nat.zero_le _, Nat.zero_le _⟩ dX4_readLine_160 (fun t_160 σ H locs hS h => ?_)
  obtain ⟨hn, h⟩ := ez_nr_sp rfl h
  exact hret _ _ _ _ _ _ (Option.some.inj h) hn hS dX4_readLine_163
set_option maxHeartbeats 4000000 in
set_option maxRecDepth 100000 in
theorem c_X4_readAll {l : Launch} {X : ez_X} {B : Nat} {σ : ez_H} {h0 : Nat} {x1 : Int32} {z : Int32 × ez_H} (h : z_X4_readAll σ h0 x1 = some z) : ez_M l X B σ yX4_readAll cX4_readAll 4 (some .boolean) 54 [.ref (B + h0), .int x1] (some (.int z.1)) z.2 := by
  refine ez_starti (z := z) (by decide) (Nat.le_of_ble_eq_true rfl) (fun p e R s m args below meth c Q hC hret hS ls hl => ?_)
  have hC : ez_C p R s m args c X B RX4 cX4_readAll 4 54 := hC
  have hx := hC.1.1
  have hb := hC.1.2.1
  have hown := hC.1.2.2.2.1
  have hts := hC.1.2.2.2.2
  have hl : lv_has ls 4 [(0, .ref (B + h0)), (1, .int x1)] := hl
  obtain ⟨σ0, eσ⟩ : ∃ σ0 : ez_H, σ0 = σ := ⟨_, rfl⟩
  rw [← eσ] at hret
  have hS : ez_S X B s.heap σ0.length σ s.heap [] := eσ ▸ hS
  obtain ⟨-, h⟩ := ez_in h
  have K_68 : ∀ (σ : ez_H) (x2 : Int32) (H : Heap) (locs : List Loc) (ls : Array Slot), ez_S X B s.heap (σ0.length) σ H locs → z_X4_readAll_68 σ x2 = some z → lv_has ls 4 [(2, .int x2)] → W p l e R s m args below meth c H locs 0 0 Q (F0 m 68 ls []) := by
    intro σ x2 H locs ls hS h hl
    refine lv_iload_n hx hb dX4_readAll_68 rfl (lv_at hl 0 rfl) ?_
    obtain ⟨hn, h⟩ := ez_nr_sp rfl h
    exact hret _ _ _ _ _ _ (Option.some.inj h) hn hS dX4_readAll_69
  have K_34 : ∀ (k_34 : ez_H → Nat → Int32 → Int32 → Option (Int32 × ez_H)) (hk_34 : ∀ (σ : ez_H) (h0 : Nat) (x2 : Int32) (x3 : Int32) (H : Heap) (locs : List Loc) (ls : Array Slot), ez_S X B s.heap (σ0.length) σ H locs → k_34 σ h0 x2 x3 = some z → lv_has ls 4 [(0, .ref (B + h0)), (2, .int x2), (3, .int x3)] → W p l e R s m args below meth c H locs 0 0 Q (F0 m 34 ls [])), ∀ (σ : ez_H) (h0 : Nat) (x2 : Int32) (x3 : Int32) (H : Heap) (locs : List Loc) (ls : Array Slot), ez_S X B s.heap (σ0.length) σ H locs → z_X4_readAll_34 k_34 σ h0 x2 x3 = some z → lv_has ls 4 [(0, .ref (B + h0)), (2, .int x2), (3, .int x3)] → W p l e R s m args below meth c H locs 0 0 Q (F0 m 34 ls []) := by
    intro k_34 hk_34 σ h0 x2 x3 H locs ls hS h hl
    refine lv_iload_n hx hb dX4_readAll_34 rfl (lv_at hl 2 rfl) ?_
    refine lv_sipush (v := 1600) hx hb dX4_readAll_35 (by decide) ?_
    refine lv_icmp_gt (tgt := 68) hx hb dX4_readAll_38 (by decide) (fun c_38 => ?_) (fun c_38 => ?_)
    · replace h := ez_ifp h c_38
      exact K_68  σ x2 _ _ _ hS h (lv_sub hl [1] rfl)
    · replace h := ez_ifn h c_38
      refine lv_iload_n hx hb dX4_readAll_41 rfl (lv_at hl 1 rfl) ?_
      refine lv_if_eq (tgt := 68) hx hb dX4_readAll_42 (by decide) (fun c_42 => ?_) (fun c_42 => ?_)
      · replace h := ez_ifp h c_42
        exact K_68  σ x2 _ _ _ hS h (lv_sub hl [1] rfl)
      · replace h := ez_ifn h c_42
        refine lv_aload_n hx hb dX4_readAll_45 rfl (lv_at hl 0 rfl) ?_
        refine eg_RX4_30 hC hS h dX4_readAll_46 (fun t_46 h => ?_)
        refine eg_RX4_49 hC hS h dX4_readAll_49 (fun t_49 h => ?_)
        refine lv_bipush (v := 26) hx hb dX4_readAll_52 (by decide) ?_
        refine lv_icmp_eq (tgt := 68) hx hb dX4_readAll_54 (by decide) (fun c_54 => ?_) (fun c_54 => ?_)
        · replace h := ez_ifp h c_54
          exact K_68  σ x2 _ _ _ hS h (lv_sub hl [1] rfl)
        · replace h := ez_ifn h c_54
          refine lv_aload_n hx hb dX4_readAll_57 rfl (lv_at hl 0 rfl) ?_
          refine ez_cVi (As := []) (rest := []) h (fun _ q => c_X4_readLine q) hC k_X4_readLine ql_RX4_52 rfl (by decide) hS (fun _ q => ez_rcv q) rfl hl.1 rfl (Nat.le_of_ble_eq_true rfl) ⟨Nat.zero_le _, Nat.zero_le _⟩ dX4_readAll_58 (fun t_58 σ H locs hS h => ?_)
          refine lv_istore_n (lv' := [(2, .int t_58), (0, .ref (B + h0)), (3, .int x3)]) hx hb dX4_readAll_61 rfl hl (by decide) rfl (fun ls hl => ?_)
          obtain ⟨t_62, e_62, h⟩ := ez_let_sp h
          refine lv_iinc (v := t_62) (lv' := [(3, .int t_62), (2, .int t_58), (0, .ref (B + h0))]) hx hb dX4_readAll_62 hl (k := 2) rfl (by rw [e_62]; rfl) (by decide) rfl (fun ls hl => ?_)
          refine lv_goto (tgt := 34) hx hb dX4_readAll_65 (by decide) ?_
          exact hk_34 σ h0 t_58 t_62 _ _ _ hS h (lv_sub hl [2, 1, 0] rfl)
  have E_34 : ∀ (σ : ez_H) (h0 : Nat) (x2 : Int32) (x3 : Int32) (H : Heap) (locs : List Loc) (ls : Array Slot), ez_S X B s.heap (σ0.length) σ H locs → (ez_fix (fun _ _ _ _ => none) (z_X4_readAll_34) ez_N) σ h0 x2 x3 = some z → lv_has ls 4 [(0, .ref (B + h0)), (2, .int x2), (3, .int x3)] → W p l e R s m args below meth c H locs 0 0 Q (F0 m 34 ls []) := ez_fix_ind (fun k_34 : ez_H → Nat → Int32 → Int32 → Option (Int32 × ez_H) => ∀ (σ : ez_H) (h0 : Nat) (x2 : Int32) (x3 : Int32) (H : Heap) (locs : List Loc) (ls : Array Slot), ez_S X B s.heap (σ0.length) σ H locs → k_34 σ h0 x2 x3 = some z → lv_has ls 4 [(0, .ref (B + h0)), (2, .int x2), (3, .int x3)] → W p l e R s m args below meth c H locs 0 0 Q (F0 m 34 ls [])) (fun _ _ _ _ _ _ _ _ h _ => by cases h) (fun k_34 hk_34 => K_34 k_34 hk_34) ez_N
  refine lv_aload_n hx hb dX4_readAll_0 rfl (lv_at hl 0 rfl) ?_
  refine eg_RX4_12 hC hS h dX4_readAll_1 (fun t_1 h => ?_)
  refine ez_cVv (As := []) (rest := []) h (fun _ q => c_X3_clear q) hC k_X3_clear ql_RX4_39 rfl (by decide) hS (fun _ q => ez_rcv q) rfl hl.1 rfl (Nat.le_of_ble_eq_true rfl) ⟨Nat.zero_le _, Nat.zero_le _⟩ dX4_readAll_4 (fun _ σ H locs hS h => ?_)
  refine lv_aload_n hx hb dX4_readAll_7 rfl (lv_at hl 0 rfl) ?_
  refine lv_iconst (v := 0) hx hb dX4_readAll_8 (by decide) ?_
  refine ep_RX4_18 hC hS h dX4_readAll_9 (fun σ H locs hS h => ?_)
  refine lv_aload_n hx hb dX4_readAll_12 rfl (lv_at hl 0 rfl) ?_
  refine lv_iconst (v := -1) hx hb dX4_readAll_13 (by decide) ?_
  refine ep_RX4_22 hC hS h dX4_readAll_14 (fun σ H locs hS h => ?_)
  refine lv_aload_n hx hb dX4_readAll_17 rfl (lv_at hl 0 rfl) ?_
  refine lv_iconst (v := 0) hx hb dX4_readAll_18 (by decide) ?_
  refine ep_RX4_42 hC hS h dX4_readAll_19 (fun σ H locs hS h => ?_)
  refine lv_aload_n hx hb dX4_readAll_22 rfl (lv_at hl 0 rfl) ?_
  refine eg_RX4_30 hC hS h dX4_readAll_23 (fun t_23 h => ?_)
  refine lv_iload_n hx hb dX4_readAll_26 rfl (lv_at hl 1 rfl) ?_
  refine ez_cVv (As := [.int x1]) (rest := []) h (fun _ q => c_X9_begin q) hC k_X9_begin ql_RX4_45 rfl (by decide) hS (fun _ q => ez_rcv q) rfl hl.1 rfl (Nat.le_of_ble_eq_true rfl) ⟨Nat.zero_le _, Nat.zero_le _⟩ dX4_readAll_27 (fun _ σ H locs hS h => ?_)
  refine lv_iconst (v := 1) hx hb dX4_readAll_30 (by decide) ?_
  refine lv_istore_n (lv' := [(2, .int 1), (0, .ref (B + h0)), (1, .int x1)]) hx hb dX4_readAll_31 rfl hl (by decide) rfl (fun ls hl => ?_)
  refine lv_iconst (v := 0) hx hb dX4_readAll_32 (by decide) ?_
  refine lv_istore_n (lv' := [(3, .int 0), (2, .int 1), (0, .ref (B + h0)), (1, .int x1)]) hx hb dX4_readAll_33 rfl hl (by decide) rfl (fun ls hl => ?_)
  exact E_34  σ h0 (1 : Int32) (0 : Int32) _ _ _ hS h (lv_sub hl [2, 1, 0] rfl)
set_option maxHeartbeats 4000000 in
set_option maxRecDepth 100000 in
theorem c_X6_copyFrom {l : Launch} {X : ez_X} {B : Nat} {σ : ez_H} {h0 : Nat} {h1 : Nat} {z : Unit × ez_H} (h : z_X6_copyFrom σ h0 h1 = some z) : ez_M l X B σ yX6_copyFrom cX6_copyFrom 2 (none) 0 [.ref (B + h0), .ref (B + h1)] (none) z.2 := by
  refine ez_startv (z := z) (by decide) (Nat.le_of_ble_eq_true rfl) (fun p e R s m args below meth c Q hC hret hS ls hl => ?_)
  have hC : ez_C p R s m args c X B RX6 cX6_copyFrom 2 0 := hC
  have hx := hC.1.1
  have hb := hC.1.2.1
  have hown := hC.1.2.2.2.1
  have hts := hC.1.2.2.2.2
  have hl : lv_has ls 2 [(0, .ref (B + h0)), (1, .ref (B + h1))] := hl
  obtain ⟨σ0, eσ⟩ : ∃ σ0 : ez_H, σ0 = σ := ⟨_, rfl⟩
  rw [← eσ] at hret
  have hS : ez_S X B s.heap σ0.length σ s.heap [] := eσ ▸ hS
  obtain ⟨-, h⟩ := ez_in h
  refine lv_aload_n hx hb dX6_copyFrom_0 rfl (lv_at hl 0 rfl) ?_
  refine lv_aload_n hx hb dX6_copyFrom_1 rfl (lv_at hl 1 rfl) ?_
  refine eg_RX6_18 hC hS h dX6_copyFrom_2 (fun t_2 h => ?_)
  refine ep_RX6_18 hC hS h dX6_copyFrom_5 (fun σ H locs hS h => ?_)
  refine lv_aload_n hx hb dX6_copyFrom_8 rfl (lv_at hl 0 rfl) ?_
  refine lv_aload_n hx hb dX6_copyFrom_9 rfl (lv_at hl 1 rfl) ?_
  refine eg_RX6_22 hC hS h dX6_copyFrom_10 (fun t_10 h => ?_)
  refine ep_RX6_22 hC hS h dX6_copyFrom_13 (fun σ H locs hS h => ?_)
  refine lv_aload_n hx hb dX6_copyFrom_16 rfl (lv_at hl 0 rfl) ?_
  refine lv_aload_n hx hb dX6_copyFrom_17 rfl (lv_at hl 1 rfl) ?_
  refine eg_RX6_25 hC hS h dX6_copyFrom_18 (fun t_18 h => ?_)
  refine ep_RX6_25 hC hS h dX6_copyFrom_21 (fun σ H locs hS h => ?_)
  exact hret _ _ _ _ _ _ (Option.some.inj h) hS dX6_copyFrom_24
set_option maxHeartbeats 4000000 in
set_option maxRecDepth 100000 in
theorem c_X0_copyFrom {l : Launch} {X : ez_X} {B : Nat} {σ : ez_H} {h0 : Nat} {h1 : Nat} {z : Unit × ez_H} (h : z_X0_copyFrom σ h0 h1 = some z) : ez_M l X B σ yX0_copyFrom cX0_copyFrom 2 (none) 1 [.ref (B + h0), .ref (B + h1)] (none) z.2 := by
  refine ez_startv (z := z) (by decide) (Nat.le_of_ble_eq_true rfl) (fun p e R s m args below meth c Q hC hret hS ls hl => ?_)
  have hC : ez_C p R s m args c X B RX0 cX0_copyFrom 2 1 := hC
  have hx := hC.1.1
  have hb := hC.1.2.1
  have hown := hC.1.2.2.2.1
  have hts := hC.1.2.2.2.2
  have hl : lv_has ls 2 [(0, .ref (B + h0)), (1, .ref (B + h1))] := hl
  obtain ⟨σ0, eσ⟩ : ∃ σ0 : ez_H, σ0 = σ := ⟨_, rfl⟩
  rw [← eσ] at hret
  have hS : ez_S X B s.heap σ0.length σ s.heap [] := eσ ▸ hS
  obtain ⟨-, h⟩ := ez_in h
  refine lv_aload_n hx hb dX0_copyFrom_0 rfl (lv_at hl 0 rfl) ?_
  refine lv_aload_n hx hb dX0_copyFrom_1 rfl (lv_at hl 1 rfl) ?_
  refine eg_RX0_9 hC hS h dX0_copyFrom_2 (fun t_2 h => ?_)
  refine ep_RX0_9 hC hS h dX0_copyFrom_5 (fun σ H locs hS h => ?_)
  refine lv_aload_n hx hb dX0_copyFrom_8 rfl (lv_at hl 0 rfl) ?_
  refine lv_aload_n hx hb dX0_copyFrom_9 rfl (lv_at hl 1 rfl) ?_
  refine eg_RX0_13 hC hS h dX0_copyFrom_10 (fun t_10 h => ?_)
  refine ep_RX0_13 hC hS h dX0_copyFrom_13 (fun σ H locs hS h => ?_)
  refine lv_aload_n hx hb dX0_copyFrom_16 rfl (lv_at hl 1 rfl) ?_
  refine eg_RX0_16 hC hS h dX0_copyFrom_17 (fun t_17 h => ?_)
  refine lv_iconst (v := 0) hx hb dX0_copyFrom_20 (by decide) ?_
  refine lv_aload_n hx hb dX0_copyFrom_21 rfl (lv_at hl 0 rfl) ?_
  refine eg_RX0_16 hC hS h dX0_copyFrom_22 (fun t_22 h => ?_)
  refine lv_iconst (v := 0) hx hb dX0_copyFrom_25 (by decide) ?_
  refine lv_sipush (v := 270) hx hb dX0_copyFrom_26 (by decide) ?_
  refine ez_copyi hC hS ql_RX0_26 rfl hl.1 (by decide) h dX0_copyFrom_29 (fun σ H locs hS h => ?_)
  refine lv_aload_n hx hb dX0_copyFrom_32 rfl (lv_at hl 1 rfl) ?_
  refine eg_RX0_20 hC hS h dX0_copyFrom_33 (fun t_33 h => ?_)
  refine lv_iconst (v := 0) hx hb dX0_copyFrom_36 (by decide) ?_
  refine lv_aload_n hx hb dX0_copyFrom_37 rfl (lv_at hl 0 rfl) ?_
  refine eg_RX0_20 hC hS h dX0_copyFrom_38 (fun t_38 h => ?_)
  refine lv_iconst (v := 0) hx hb dX0_copyFrom_41 (by decide) ?_
  refine lv_sipush (v := 270) hx hb dX0_copyFrom_42 (by decide) ?_
  refine ez_copyi hC hS ql_RX0_26 rfl hl.1 (by decide) h dX0_copyFrom_45 (fun σ H locs hS h => ?_)
  exact hret _ _ _ _ _ _ (Option.some.inj h) hS dX0_copyFrom_48
set_option maxHeartbeats 4000000 in
set_option maxRecDepth 100000 in
theorem c_X3_copyFrom {l : Launch} {X : ez_X} {B : Nat} {σ : ez_H} {h0 : Nat} {h1 : Nat} {z : Unit × ez_H} (h : z_X3_copyFrom σ h0 h1 = some z) : ez_M l X B σ yX3_copyFrom cX3_copyFrom 2 (none) 2 [.ref (B + h0), .ref (B + h1)] (none) z.2 := by
  refine ez_startv (z := z) (by decide) (Nat.le_of_ble_eq_true rfl) (fun p e R s m args below meth c Q hC hret hS ls hl => ?_)
  have hC : ez_C p R s m args c X B RX3 cX3_copyFrom 2 2 := hC
  have hx := hC.1.1
  have hb := hC.1.2.1
  have hown := hC.1.2.2.2.1
  have hts := hC.1.2.2.2.2
  have hl : lv_has ls 2 [(0, .ref (B + h0)), (1, .ref (B + h1))] := hl
  obtain ⟨σ0, eσ⟩ : ∃ σ0 : ez_H, σ0 = σ := ⟨_, rfl⟩
  rw [← eσ] at hret
  have hS : ez_S X B s.heap σ0.length σ s.heap [] := eσ ▸ hS
  obtain ⟨-, h⟩ := ez_in h
  refine lv_aload_n hx hb dX3_copyFrom_0 rfl (lv_at hl 0 rfl) ?_
  refine eg_RX3_12 hC hS h dX3_copyFrom_1 (fun t_1 h => ?_)
  refine lv_aload_n hx hb dX3_copyFrom_4 rfl (lv_at hl 1 rfl) ?_
  refine eg_RX3_12 hC hS h dX3_copyFrom_5 (fun t_5 h => ?_)
  refine ez_cVv (As := [.ref (B + t_5)]) (rest := []) h (fun _ q => c_X6_copyFrom q) hC k_X6_copyFrom ql_RX3_77 rfl (by decide) hS (fun _ q => ez_rcv q) rfl hl.1 rfl (Nat.le_of_ble_eq_true rfl) ⟨Nat.zero_le _, Nat.zero_le _⟩ dX3_copyFrom_8 (fun _ σ H locs hS h => ?_)
  refine lv_aload_n hx hb dX3_copyFrom_11 rfl (lv_at hl 0 rfl) ?_
  refine eg_RX3_21 hC hS h dX3_copyFrom_12 (fun t_12 h => ?_)
  refine lv_aload_n hx hb dX3_copyFrom_15 rfl (lv_at hl 1 rfl) ?_
  refine eg_RX3_21 hC hS h dX3_copyFrom_16 (fun t_16 h => ?_)
  refine ez_cVv (As := [.ref (B + t_16)]) (rest := []) h (fun _ q => c_X0_copyFrom q) hC k_X0_copyFrom ql_RX3_81 rfl (by decide) hS (fun _ q => ez_rcv q) rfl hl.1 rfl (Nat.le_of_ble_eq_true rfl) ⟨Nat.zero_le _, Nat.zero_le _⟩ dX3_copyFrom_19 (fun _ σ H locs hS h => ?_)
  refine lv_aload_n hx hb dX3_copyFrom_22 rfl (lv_at hl 0 rfl) ?_
  refine eg_RX3_28 hC hS h dX3_copyFrom_23 (fun t_23 h => ?_)
  refine lv_aload_n hx hb dX3_copyFrom_26 rfl (lv_at hl 1 rfl) ?_
  refine eg_RX3_28 hC hS h dX3_copyFrom_27 (fun t_27 h => ?_)
  refine ez_cVv (As := [.ref (B + t_27)]) (rest := []) h (fun _ q => c_X7_copyFrom q) hC k_X7_copyFrom ql_RX3_84 rfl (by decide) hS (fun _ q => ez_rcv q) rfl hl.1 rfl (Nat.le_of_ble_eq_true rfl) ⟨Nat.zero_le _, Nat.zero_le _⟩ dX3_copyFrom_30 (fun _ σ H locs hS h => ?_)
  refine lv_aload_n hx hb dX3_copyFrom_33 rfl (lv_at hl 0 rfl) ?_
  refine lv_aload_n hx hb dX3_copyFrom_34 rfl (lv_at hl 1 rfl) ?_
  refine eg_RX3_55 hC hS h dX3_copyFrom_35 (fun t_35 h => ?_)
  refine ep_RX3_55 hC hS h dX3_copyFrom_38 (fun σ H locs hS h => ?_)
  refine lv_aload_n hx hb dX3_copyFrom_41 rfl (lv_at hl 0 rfl) ?_
  refine lv_aload_n hx hb dX3_copyFrom_42 rfl (lv_at hl 1 rfl) ?_
  refine eg_RX3_59 hC hS h dX3_copyFrom_43 (fun t_43 h => ?_)
  refine ep_RX3_59 hC hS h dX3_copyFrom_46 (fun σ H locs hS h => ?_)
  refine lv_aload_n hx hb dX3_copyFrom_49 rfl (lv_at hl 0 rfl) ?_
  refine lv_aload_n hx hb dX3_copyFrom_50 rfl (lv_at hl 1 rfl) ?_
  refine eg_RX3_62 hC hS h dX3_copyFrom_51 (fun t_51 h => ?_)
  refine ep_RX3_62 hC hS h dX3_copyFrom_54 (fun σ H locs hS h => ?_)
  refine lv_aload_n hx hb dX3_copyFrom_57 rfl (lv_at hl 0 rfl) ?_
  refine lv_aload_n hx hb dX3_copyFrom_58 rfl (lv_at hl 1 rfl) ?_
  refine eg_RX3_65 hC hS h dX3_copyFrom_59 (fun t_59 h => ?_)
  refine ep_RX3_65 hC hS h dX3_copyFrom_62 (fun σ H locs hS h => ?_)
  refine lv_aload_n hx hb dX3_copyFrom_65 rfl (lv_at hl 0 rfl) ?_
  refine lv_aload_n hx hb dX3_copyFrom_66 rfl (lv_at hl 1 rfl) ?_
  refine eg_RX3_68 hC hS h dX3_copyFrom_67 (fun t_67 h => ?_)
  refine ep_RX3_68 hC hS h dX3_copyFrom_70 (fun σ H locs hS h => ?_)
  refine lv_aload_n hx hb dX3_copyFrom_73 rfl (lv_at hl 1 rfl) ?_
  refine eg_RX3_32 hC hS h dX3_copyFrom_74 (fun t_74 h => ?_)
  refine lv_iconst (v := 0) hx hb dX3_copyFrom_77 (by decide) ?_
  refine lv_aload_n hx hb dX3_copyFrom_78 rfl (lv_at hl 0 rfl) ?_
  refine eg_RX3_32 hC hS h dX3_copyFrom_79 (fun t_79 h => ?_)
  refine lv_iconst (v := 0) hx hb dX3_copyFrom_82 (by decide) ?_
  refine lv_bipush (v := 8) hx hb dX3_copyFrom_83 (by decide) ?_
  refine ez_copyi hC hS ql_RX3_87 rfl hl.1 (by decide) h dX3_copyFrom_85 (fun σ H locs hS h => ?_)
  refine lv_aload_n hx hb dX3_copyFrom_88 rfl (lv_at hl 1 rfl) ?_
  refine eg_RX3_36 hC hS h dX3_copyFrom_89 (fun t_89 h => ?_)
  refine lv_iconst (v := 0) hx hb dX3_copyFrom_92 (by decide) ?_
  refine lv_aload_n hx hb dX3_copyFrom_93 rfl (lv_at hl 0 rfl) ?_
  refine eg_RX3_36 hC hS h dX3_copyFrom_94 (fun t_94 h => ?_)
  refine lv_iconst (v := 0) hx hb dX3_copyFrom_97 (by decide) ?_
  refine lv_bipush (v := 8) hx hb dX3_copyFrom_98 (by decide) ?_
  refine ez_copyi hC hS ql_RX3_87 rfl hl.1 (by decide) h dX3_copyFrom_100 (fun σ H locs hS h => ?_)
  refine lv_aload_n hx hb dX3_copyFrom_103 rfl (lv_at hl 1 rfl) ?_
  refine eg_RX3_39 hC hS h dX3_copyFrom_104 (fun t_104 h => ?_)
  refine lv_iconst (v := 0) hx hb dX3_copyFrom_107 (by decide) ?_
  refine lv_aload_n hx hb dX3_copyFrom_108 rfl (lv_at hl 0 rfl) ?_
  refine eg_RX3_39 hC hS h dX3_copyFrom_109 (fun t_109 h => ?_)
  refine lv_iconst (v := 0) hx hb dX3_copyFrom_112 (by decide) ?_
  refine lv_bipush (v := 8) hx hb dX3_copyFrom_113 (by decide) ?_
  refine ez_copyi hC hS ql_RX3_87 rfl hl.1 (by decide) h dX3_copyFrom_115 (fun σ H locs hS h => ?_)
  refine lv_aload_n hx hb dX3_copyFrom_118 rfl (lv_at hl 1 rfl) ?_
  refine eg_RX3_42 hC hS h dX3_copyFrom_119 (fun t_119 h => ?_)
  refine lv_iconst (v := 0) hx hb dX3_copyFrom_122 (by decide) ?_
  refine lv_aload_n hx hb dX3_copyFrom_123 rfl (lv_at hl 0 rfl) ?_
  refine eg_RX3_42 hC hS h dX3_copyFrom_124 (fun t_124 h => ?_)
  refine lv_iconst (v := 0) hx hb dX3_copyFrom_127 (by decide) ?_
  refine lv_bipush (v := 6) hx hb dX3_copyFrom_128 (by decide) ?_
  refine ez_copyi hC hS ql_RX3_87 rfl hl.1 (by decide) h dX3_copyFrom_130 (fun σ H locs hS h => ?_)
  refine lv_aload_n hx hb dX3_copyFrom_133 rfl (lv_at hl 1 rfl) ?_
  refine eg_RX3_45 hC hS h dX3_copyFrom_134 (fun t_134 h => ?_)
  refine lv_iconst (v := 0) hx hb dX3_copyFrom_137 (by decide) ?_
  refine lv_aload_n hx hb dX3_copyFrom_138 rfl (lv_at hl 0 rfl) ?_
  refine eg_RX3_45 hC hS h dX3_copyFrom_139 (fun t_139 h => ?_)
  refine lv_iconst (v := 0) hx hb dX3_copyFrom_142 (by decide) ?_
  refine lv_bipush (v := 6) hx hb dX3_copyFrom_143 (by decide) ?_
  refine ez_copyi hC hS ql_RX3_87 rfl hl.1 (by decide) h dX3_copyFrom_145 (fun σ H locs hS h => ?_)
  exact hret _ _ _ _ _ _ (Option.some.inj h) hS dX3_copyFrom_148
set_option maxHeartbeats 4000000 in
set_option maxRecDepth 100000 in
theorem c_X10_forget {l : Launch} {X : ez_X} {B : Nat} {σ : ez_H} {h0 : Nat} {z : Unit × ez_H} (h : z_X10_forget σ h0 = some z) : ez_M l X B σ yX10_forget cX10_forget 1 (none) 0 [.ref (B + h0)] (none) z.2 := by
  refine ez_startv (z := z) (by decide) (Nat.le_of_ble_eq_true rfl) (fun p e R s m args below meth c Q hC hret hS ls hl => ?_)
  have hC : ez_C p R s m args c X B RX10 cX10_forget 1 0 := hC
  have hx := hC.1.1
  have hb := hC.1.2.1
  have hown := hC.1.2.2.2.1
  have hts := hC.1.2.2.2.2
  have hl : lv_has ls 1 [(0, .ref (B + h0))] := hl
  obtain ⟨σ0, eσ⟩ : ∃ σ0 : ez_H, σ0 = σ := ⟨_, rfl⟩
  rw [← eσ] at hret
  have hS : ez_S X B s.heap σ0.length σ s.heap [] := eσ ▸ hS
  obtain ⟨-, h⟩ := ez_in h
  refine lv_aload_n hx hb dX10_forget_0 rfl (lv_at hl 0 rfl) ?_
  refine lv_iconst (v := 0) hx hb dX10_forget_1 (by decide) ?_
  refine ep_RX10_25 hC hS h dX10_forget_2 (fun σ H locs hS h => ?_)
  exact hret _ _ _ _ _ _ (Option.some.inj h) hS dX10_forget_5
