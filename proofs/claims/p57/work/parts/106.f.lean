set_option maxHeartbeats 4000000 in
set_option maxRecDepth 100000 in
theorem c_X11_door {l : Launch} {X : ez_X} {B : Nat} {σ : ez_H} {h0 : Nat} {x1 : Int32} {x2 : Int32} {z : Int32} (h : z_X11_door σ h0 x1 x2 = some z) : ez_M l X B σ yX11_door cX11_door 3 (some .int) 2 [.ref (B + h0), .int x1, .int x2] (some (.int z)) σ := by
  refine ez_startip (z := z) (by decide) (Nat.le_of_ble_eq_true rfl) (fun p e R s m args below meth c Q hC hret hS ls hl => ?_)
  have hC : ez_C p R s m args c X B RX11 cX11_door 3 2 := hC
  have hx := hC.1.1
  have hb := hC.1.2.1
  have hown := hC.1.2.2.2.1
  have hts := hC.1.2.2.2.2
  have hl : lv_has ls 3 [(0, .ref (B + h0)), (1, .int x1), (2, .int x2)] := hl
  obtain ⟨n0, e0⟩ : ∃ n0 : Nat, n0 = σ.length := ⟨_, rfl⟩
  rw [← e0] at hret hS
  obtain ⟨-, h⟩ := ez_in h
  refine lv_aload_n hx hb dX11_door_0 rfl (lv_at hl 0 rfl) ?_
  refine eg_RX11_29 hC hS h dX11_door_1 (fun t_1 h => ?_)
  refine lv_iload_n hx hb dX11_door_4 rfl (lv_at hl 1 rfl) ?_
  refine ez_cVpi (As := [.int x1]) (rest := []) h (fun _ q => c_X3_hasDoor q) hC k_X3_hasDoor ql_RX11_188 rfl (by decide) hS (fun _ q => ez_rcv q) rfl hl.1 rfl (Nat.le_of_ble_eq_true rfl) ⟨Nat.zero_le _, Nat.zero_le _⟩ dX11_door_5 (fun t_5 H locs hS h => ?_)
  refine lv_if_ne (tgt := 13) hx hb dX11_door_8 (by decide) (fun c_8 => ?_) (fun c_8 => ?_)
  · replace h := ez_ifn h c_8
    refine lv_iload_n hx hb dX11_door_13 rfl (lv_at hl 2 rfl) ?_
    by_cases s_14_0 : x2 = 0
    · replace h := ez_ifp h s_14_0
      refine lv_tableIn (tgt := 40) hx hb dX11_door_14 (by rw [s_14_0]; decide) (by rw [s_14_0]; decide) (by first | (rw [s_14_0]; done) | (rw [s_14_0]; rfl)) (by decide) ?_
      refine lv_aload_n hx hb dX11_door_40 rfl (lv_at hl 0 rfl) ?_
      refine eg_RX11_29 hC hS h dX11_door_41 (fun t_41 h => ?_)
      refine lv_iload_n hx hb dX11_door_44 rfl (lv_at hl 1 rfl) ?_
      refine ez_cVpi (As := [.int x1]) (rest := []) h (fun _ q => c_X3_doorFrom q) hC k_X3_doorFrom ql_RX11_191 rfl (by decide) hS (fun _ q => ez_rcv q) rfl hl.1 rfl (Nat.le_of_ble_eq_true rfl) ⟨Nat.zero_le _, Nat.zero_le _⟩ dX11_door_45 (fun t_45 H locs hS h => ?_)
      exact hret _ _ _ _ _ (Option.some.inj h) rfl hS dX11_door_48
    replace h := ez_ifn h s_14_0
    by_cases s_14_1 : x2 = 1
    · replace h := ez_ifp h s_14_1
      refine lv_tableIn (tgt := 49) hx hb dX11_door_14 (by rw [s_14_1]; decide) (by rw [s_14_1]; decide) (by first | (rw [s_14_1]; done) | (rw [s_14_1]; rfl)) (by decide) ?_
      refine lv_aload_n hx hb dX11_door_49 rfl (lv_at hl 0 rfl) ?_
      refine eg_RX11_29 hC hS h dX11_door_50 (fun t_50 h => ?_)
      refine lv_iload_n hx hb dX11_door_53 rfl (lv_at hl 1 rfl) ?_
      refine ez_cVpi (As := [.int x1]) (rest := []) h (fun _ q => c_X3_doorTo q) hC k_X3_doorTo ql_RX11_194 rfl (by decide) hS (fun _ q => ez_rcv q) rfl hl.1 rfl (Nat.le_of_ble_eq_true rfl) ⟨Nat.zero_le _, Nat.zero_le _⟩ dX11_door_54 (fun t_54 H locs hS h => ?_)
      exact hret _ _ _ _ _ (Option.some.inj h) rfl hS dX11_door_57
    replace h := ez_ifn h s_14_1
    by_cases s_14_2 : x2 = 2
    · replace h := ez_ifp h s_14_2
      refine lv_tableIn (tgt := 58) hx hb dX11_door_14 (by rw [s_14_2]; decide) (by rw [s_14_2]; decide) (by first | (rw [s_14_2]; done) | (rw [s_14_2]; rfl)) (by decide) ?_
      refine lv_aload_n hx hb dX11_door_58 rfl (lv_at hl 0 rfl) ?_
      refine eg_RX11_29 hC hS h dX11_door_59 (fun t_59 h => ?_)
      refine lv_iload_n hx hb dX11_door_62 rfl (lv_at hl 1 rfl) ?_
      refine ez_cVpi (As := [.int x1]) (rest := []) h (fun _ q => c_X3_doorLock q) hC k_X3_doorLock ql_RX11_197 rfl (by decide) hS (fun _ q => ez_rcv q) rfl hl.1 rfl (Nat.le_of_ble_eq_true rfl) ⟨Nat.zero_le _, Nat.zero_le _⟩ dX11_door_63 (fun t_63 H locs hS h => ?_)
      exact hret _ _ _ _ _ (Option.some.inj h) rfl hS dX11_door_66
    replace h := ez_ifn h s_14_2
    have w_14 : Int32.toInt x2 < 0 ∨ 2 < Int32.toInt x2 := by
      have q_0 := ez_toNe (k := 0) s_14_0 (by decide)
      have q_1 := ez_toNe (k := 1) s_14_1 (by decide)
      have q_2 := ez_toNe (k := 2) s_14_2 (by decide)
      omega
    refine lv_tableOut (tgt := 67) hx hb dX11_door_14 w_14 (by decide) ?_
    refine lv_iconst (v := -1) hx hb dX11_door_67 (by decide) ?_
    exact hret _ _ _ _ _ (Option.some.inj h) rfl hS dX11_door_68
  · replace h := ez_ifp h c_8
    refine lv_iconst (v := -1) hx hb dX11_door_11 (by decide) ?_
    exact hret _ _ _ _ _ (Option.some.inj h) rfl hS dX11_door_12
set_option maxHeartbeats 4000000 in
set_option maxRecDepth 100000 in
theorem c_X11_end {l : Launch} {X : ez_X} {B : Nat} {σ : ez_H} {h0 : Nat} {x1 : Int32} {z : Int32 × ez_H} (h : z_X11_end σ h0 x1 = some z) : ez_M l X B σ yX11_end cX11_end 2 (some .int) 0 [.ref (B + h0), .int x1] (some (.int z.1)) z.2 := by
  refine ez_starti (z := z) (by decide) (Nat.le_of_ble_eq_true rfl) (fun p e R s m args below meth c Q hC hret hS ls hl => ?_)
  have hC : ez_C p R s m args c X B RX11 cX11_end 2 0 := hC
  have hx := hC.1.1
  have hb := hC.1.2.1
  have hown := hC.1.2.2.2.1
  have hts := hC.1.2.2.2.2
  have hl : lv_has ls 2 [(0, .ref (B + h0)), (1, .int x1)] := hl
  obtain ⟨σ0, eσ⟩ : ∃ σ0 : ez_H, σ0 = σ := ⟨_, rfl⟩
  rw [← eσ] at hret
  have hS : ez_S X B s.heap σ0.length σ s.heap [] := eσ ▸ hS
  obtain ⟨-, h⟩ := ez_in h
  have K_12 : ∀ (σ : ez_H) (H : Heap) (locs : List Loc) (ls : Array Slot), ez_S X B s.heap (σ0.length) σ H locs → z_X11_end_12 σ = some z → lv_has ls 2 [] → W p l e R s m args below meth c H locs 0 0 Q (F0 m 12 ls []) := by
    intro σ H locs ls hS h hl
    refine lv_iconst (v := -1) hx hb dX11_end_12 (by decide) ?_
    exact hret _ _ _ _ _ _ (Option.some.inj h) rfl hS dX11_end_13
  refine lv_iload_n hx hb dX11_end_0 rfl (lv_at hl 1 rfl) ?_
  refine lv_if_lt (tgt := 12) hx hb dX11_end_1 (by decide) (fun c_1 => ?_) (fun c_1 => ?_)
  · replace h := ez_ifp h c_1
    exact K_12  σ _ _ _ hS h (lv_sub hl [] rfl)
  · replace h := ez_ifn h c_1
    refine lv_iload_n hx hb dX11_end_4 rfl (lv_at hl 1 rfl) ?_
    refine lv_aload_n hx hb dX11_end_5 rfl (lv_at hl 0 rfl) ?_
    refine eg_RX11_13 hC hS h dX11_end_6 (fun t_6 h => ?_)
    refine lv_icmp_le (tgt := 14) hx hb dX11_end_9 (by decide) (fun c_9 => ?_) (fun c_9 => ?_)
    · replace h := ez_ifp h c_9
      refine lv_aload_n hx hb dX11_end_14 rfl (lv_at hl 0 rfl) ?_
      refine lv_iload_n hx hb dX11_end_15 rfl (lv_at hl 1 rfl) ?_
      refine ep_RX11_13 hC hS h dX11_end_16 (fun σ H locs hS h => ?_)
      refine lv_iload_n hx hb dX11_end_19 rfl (lv_at hl 1 rfl) ?_
      exact hret _ _ _ _ _ _ (Option.some.inj h) rfl hS dX11_end_20
    · replace h := ez_ifn h c_9
      exact K_12  σ _ _ _ hS h (lv_sub hl [] rfl)
set_option maxHeartbeats 4000000 in
set_option maxRecDepth 100000 in
theorem c_X11_fault {l : Launch} {X : ez_X} {B : Nat} {σ : ez_H} {h0 : Nat} {x1 : Int32} {z : Int32} (h : z_X11_fault σ h0 x1 = some z) : ez_M l X B σ yX11_fault cX11_fault 2 (some .int) 0 [.ref (B + h0), .int x1] (some (.int z)) σ := by
  refine ez_startip (z := z) (by decide) (Nat.le_of_ble_eq_true rfl) (fun p e R s m args below meth c Q hC hret hS ls hl => ?_)
  have hC : ez_C p R s m args c X B RX11 cX11_fault 2 0 := hC
  have hx := hC.1.1
  have hb := hC.1.2.1
  have hown := hC.1.2.2.2.1
  have hts := hC.1.2.2.2.2
  have hl : lv_has ls 2 [(0, .ref (B + h0)), (1, .int x1)] := hl
  obtain ⟨n0, e0⟩ : ∃ n0 : Nat, n0 = σ.length := ⟨_, rfl⟩
  rw [← e0] at hret hS
  obtain ⟨-, h⟩ := ez_in h
  refine lv_iload_n hx hb dX11_fault_0 rfl (lv_at hl 1 rfl) ?_
  by_cases s_1_0 : x1 = 0
  · replace h := ez_ifp h s_1_0
    refine lv_lookup (tgt := 28) hx hb dX11_fault_1 (by decide) (by first | (rw [s_1_0]; done) | (rw [s_1_0]; rfl)) (by decide) ?_
    refine lv_aload_n hx hb dX11_fault_28 rfl (lv_at hl 0 rfl) ?_
    refine eg_RX11_22 hC hS h dX11_fault_29 (fun t_29 h => ?_)
    refine eg_RX11_131 hC hS h dX11_fault_32 (fun t_32 h => ?_)
    exact hret _ _ _ _ _ (Option.some.inj h) rfl hS dX11_fault_35
  replace h := ez_ifn h s_1_0
  by_cases s_1_1 : x1 = 1
  · replace h := ez_ifp h s_1_1
    refine lv_lookup (tgt := 36) hx hb dX11_fault_1 (by decide) (by first | (rw [s_1_1]; done) | (rw [s_1_1]; rfl)) (by decide) ?_
    refine lv_aload_n hx hb dX11_fault_36 rfl (lv_at hl 0 rfl) ?_
    refine eg_RX11_22 hC hS h dX11_fault_37 (fun t_37 h => ?_)
    refine eg_RX11_134 hC hS h dX11_fault_40 (fun t_40 h => ?_)
    exact hret _ _ _ _ _ (Option.some.inj h) rfl hS dX11_fault_43
  replace h := ez_ifn h s_1_1
  refine lv_lookup (off := 43) (tgt := 44) hx hb dX11_fault_1 (by decide) (by simp only [Op.lookupswitch.offset_cons, Op.lookupswitch.offset_nil]; rw [if_neg (fun q => ez_toNe (k := 0) s_1_0 (by decide) q.symm), if_neg (fun q => ez_toNe (k := 1) s_1_1 (by decide) q.symm)]) (by decide) ?_
  refine lv_iconst (v := -1) hx hb dX11_fault_44 (by decide) ?_
  exact hret _ _ _ _ _ (Option.some.inj h) rfl hS dX11_fault_45
set_option maxHeartbeats 4000000 in
set_option maxRecDepth 100000 in
theorem c_X11_putOnTape {l : Launch} {X : ez_X} {B : Nat} {σ : ez_H} {h0 : Nat} {x1 : Int32} {z : Unit × ez_H} (h : z_X11_putOnTape σ h0 x1 = some z) : ez_M l X B σ yX11_putOnTape cX11_putOnTape 3 (none) 0 [.ref (B + h0), .int x1] (none) z.2 := by
  refine ez_startv (z := z) (by decide) (Nat.le_of_ble_eq_true rfl) (fun p e R s m args below meth c Q hC hret hS ls hl => ?_)
  have hC : ez_C p R s m args c X B RX11 cX11_putOnTape 3 0 := hC
  have hx := hC.1.1
  have hb := hC.1.2.1
  have hown := hC.1.2.2.2.1
  have hts := hC.1.2.2.2.2
  have hl : lv_has ls 3 [(0, .ref (B + h0)), (1, .int x1)] := hl
  obtain ⟨σ0, eσ⟩ : ∃ σ0 : ez_H, σ0 = σ := ⟨_, rfl⟩
  rw [← eσ] at hret
  have hS : ez_S X B s.heap σ0.length σ s.heap [] := eσ ▸ hS
  obtain ⟨-, h⟩ := ez_in h
  have K_47 : ∀ (k_3 : ez_H → Nat → Int32 → Int32 → Option (Unit × ez_H)) (hk_3 : ∀ (σ : ez_H) (h0 : Nat) (x1 : Int32) (x2 : Int32) (H : Heap) (locs : List Loc) (ls : Array Slot), ez_S X B s.heap (σ0.length) σ H locs → k_3 σ h0 x1 x2 = some z → lv_has ls 3 [(0, .ref (B + h0)), (1, .int x1), (2, .int x2)] → W p l e R s m args below meth c H locs 0 0 Q (F0 m 3 ls [])), ∀ (σ : ez_H) (h0 : Nat) (x1 : Int32) (x2 : Int32) (H : Heap) (locs : List Loc) (ls : Array Slot), ez_S X B s.heap (σ0.length) σ H locs → z_X11_putOnTape_47 k_3 σ h0 x1 x2 = some z → lv_has ls 3 [(0, .ref (B + h0)), (1, .int x1), (2, .int x2)] → W p l e R s m args below meth c H locs 0 0 Q (F0 m 47 ls []) := by
    intro k_3 hk_3 σ h0 x1 x2 H locs ls hS h hl
    obtain ⟨t_47, e_47, h⟩ := ez_let_sp h
    refine lv_iinc (v := t_47) (lv' := [(2, .int t_47), (0, .ref (B + h0)), (1, .int x1)]) hx hb dX11_putOnTape_47 hl (k := 2) rfl (by rw [e_47]; rfl) (by decide) rfl (fun ls hl => ?_)
    refine lv_goto (tgt := 3) hx hb dX11_putOnTape_50 (by decide) ?_
    exact hk_3 σ h0 x1 t_47 _ _ _ hS h (lv_sub hl [1, 2, 0] rfl)
  have K_3 : ∀ (k_3 : ez_H → Nat → Int32 → Int32 → Option (Unit × ez_H)) (hk_3 : ∀ (σ : ez_H) (h0 : Nat) (x1 : Int32) (x2 : Int32) (H : Heap) (locs : List Loc) (ls : Array Slot), ez_S X B s.heap (σ0.length) σ H locs → k_3 σ h0 x1 x2 = some z → lv_has ls 3 [(0, .ref (B + h0)), (1, .int x1), (2, .int x2)] → W p l e R s m args below meth c H locs 0 0 Q (F0 m 3 ls [])), ∀ (σ : ez_H) (h0 : Nat) (x1 : Int32) (x2 : Int32) (H : Heap) (locs : List Loc) (ls : Array Slot), ez_S X B s.heap (σ0.length) σ H locs → z_X11_putOnTape_3 k_3 σ h0 x1 x2 = some z → lv_has ls 3 [(0, .ref (B + h0)), (1, .int x1), (2, .int x2)] → W p l e R s m args below meth c H locs 0 0 Q (F0 m 3 ls []) := by
    intro k_3 hk_3 σ h0 x1 x2 H locs ls hS h hl
    refine lv_iload_n hx hb dX11_putOnTape_3 rfl (lv_at hl 2 rfl) ?_
    refine lv_if_lt (tgt := 53) hx hb dX11_putOnTape_4 (by decide) (fun c_4 => ?_) (fun c_4 => ?_)
    · replace h := ez_ifp h c_4
      exact hret _ _ _ _ _ _ (Option.some.inj h) hS dX11_putOnTape_53
    · replace h := ez_ifn h c_4
      refine lv_aload_n hx hb dX11_putOnTape_7 rfl (lv_at hl 0 rfl) ?_
      refine eg_RX11_13 hC hS h dX11_putOnTape_8 (fun t_8 h => ?_)
      refine lv_if_lt (tgt := 47) hx hb dX11_putOnTape_11 (by decide) (fun c_11 => ?_) (fun c_11 => ?_)
      · replace h := ez_ifp h c_11
        exact K_47 k_3 hk_3 σ h0 x1 x2 _ _ _ hS h (lv_sub hl [0, 1, 2] rfl)
      · replace h := ez_ifn h c_11
        refine lv_aload_n hx hb dX11_putOnTape_14 rfl (lv_at hl 0 rfl) ?_
        refine eg_RX11_13 hC hS h dX11_putOnTape_15 (fun t_15 h => ?_)
        refine lv_sipush (v := 1600) hx hb dX11_putOnTape_18 (by decide) ?_
        refine lv_icmp_ge (tgt := 47) hx hb dX11_putOnTape_21 (by decide) (fun c_21 => ?_) (fun c_21 => ?_)
        · replace h := ez_ifp h c_21
          exact K_47 k_3 hk_3 σ h0 x1 x2 _ _ _ hS h (lv_sub hl [0, 1, 2] rfl)
        · replace h := ez_ifn h c_21
          refine lv_aload_n hx hb dX11_putOnTape_24 rfl (lv_at hl 0 rfl) ?_
          refine eg_RX11_9 hC hS h dX11_putOnTape_25 (fun t_25 h => ?_)
          refine lv_aload_n hx hb dX11_putOnTape_28 rfl (lv_at hl 0 rfl) ?_
          refine eg_RX11_13 hC hS h dX11_putOnTape_29 (fun t_29 h => ?_)
          refine lv_iload_n hx hb dX11_putOnTape_32 rfl (lv_at hl 1 rfl) ?_
          refine lv_iload_n hx hb dX11_putOnTape_33 rfl (lv_at hl 2 rfl) ?_
          refine lv_ishr hx hb dX11_putOnTape_34 ?_
          refine ez_top h (fun t_34 h => ?_)
          refine lv_i2b hx hb dX11_putOnTape_35 rfl ?_
          refine ez_top h (fun t_35 h => ?_)
          refine ez_bas hC hS h dX11_putOnTape_36 (fun σ H locs hS h => ?_)
          refine lv_aload_n hx hb dX11_putOnTape_37 rfl (lv_at hl 0 rfl) ?_
          refine lv_dup hx hb dX11_putOnTape_38 rfl ?_
          refine eg_RX11_13 hC hS h dX11_putOnTape_39 (fun t_39 h => ?_)
          refine lv_iconst (v := 1) hx hb dX11_putOnTape_42 (by decide) ?_
          refine lv_iadd hx hb dX11_putOnTape_43 ?_
          refine ez_top h (fun t_43 h => ?_)
          refine ep_RX11_13 hC hS h dX11_putOnTape_44 (fun σ H locs hS h => ?_)
          exact K_47 k_3 hk_3 σ h0 x1 x2 _ _ _ hS h (lv_sub hl [0, 1, 2] rfl)
  have E_3 : ∀ (σ : ez_H) (h0 : Nat) (x1 : Int32) (x2 : Int32) (H : Heap) (locs : List Loc) (ls : Array Slot), ez_S X B s.heap (σ0.length) σ H locs → (ez_fix (fun _ _ _ _ => none) (z_X11_putOnTape_3) ez_N) σ h0 x1 x2 = some z → lv_has ls 3 [(0, .ref (B + h0)), (1, .int x1), (2, .int x2)] → W p l e R s m args below meth c H locs 0 0 Q (F0 m 3 ls []) := ez_fix_ind (fun k_3 : ez_H → Nat → Int32 → Int32 → Option (Unit × ez_H) => ∀ (σ : ez_H) (h0 : Nat) (x1 : Int32) (x2 : Int32) (H : Heap) (locs : List Loc) (ls : Array Slot), ez_S X B s.heap (σ0.length) σ H locs → k_3 σ h0 x1 x2 = some z → lv_has ls 3 [(0, .ref (B + h0)), (1, .int x1), (2, .int x2)] → W p l e R s m args below meth c H locs 0 0 Q (F0 m 3 ls [])) (fun _ _ _ _ _ _ _ _ h _ => by cases h) (fun k_3 hk_3 => K_3 k_3 hk_3) ez_N
  refine lv_bipush (v := 24) hx hb dX11_putOnTape_0 (by decide) ?_
  refine lv_istore_n (lv' := [(2, .int 24), (0, .ref (B + h0)), (1, .int x1)]) hx hb dX11_putOnTape_2 rfl hl (by decide) rfl (fun ls hl => ?_)
  exact E_3  σ h0 x1 (24 : Int32) _ _ _ hS h (lv_sub hl [1, 2, 0] rfl)
set_option maxHeartbeats 4000000 in
set_option maxRecDepth 100000 in
theorem c_X11_feed {l : Launch} {X : ez_X} {B : Nat} {σ : ez_H} {h0 : Nat} {x1 : Int32} {x2 : Int32} {x3 : Int32} {x4 : Int32} {x5 : Int32} {z : Int32 × ez_H} (h : z_X11_feed σ h0 x1 x2 x3 x4 x5 = some z) : ez_M l X B σ yX11_feed cX11_feed 6 (some .int) 1 [.ref (B + h0), .int x1, .int x2, .int x3, .int x4, .int x5] (some (.int z.1)) z.2 := by
  refine ez_starti (z := z) (by decide) (Nat.le_of_ble_eq_true rfl) (fun p e R s m args below meth c Q hC hret hS ls hl => ?_)
  have hC : ez_C p R s m args c X B RX11 cX11_feed 6 1 := hC
  have hx := hC.1.1
  have hb := hC.1.2.1
  have hown := hC.1.2.2.2.1
  have hts := hC.1.2.2.2.2
  have hl : lv_has ls 6 [(0, .ref (B + h0)), (1, .int x1), (2, .int x2), (3, .int x3), (4, .int x4), (5, .int x5)] := hl
  obtain ⟨σ0, eσ⟩ : ∃ σ0 : ez_H, σ0 = σ := ⟨_, rfl⟩
  rw [← eσ] at hret
  have hS : ez_S X B s.heap σ0.length σ s.heap [] := eσ ▸ hS
  obtain ⟨-, h⟩ := ez_in h
  refine lv_aload_n hx hb dX11_feed_0 rfl (lv_at hl 0 rfl) ?_
  refine eg_RX11_13 hC hS h dX11_feed_1 (fun t_1 h => ?_)
  refine lv_bipush (v := 20) hx hb dX11_feed_4 (by decide) ?_
  refine lv_iadd hx hb dX11_feed_6 ?_
  refine ez_top h (fun t_6 h => ?_)
  refine lv_sipush (v := 1600) hx hb dX11_feed_7 (by decide) ?_
  refine lv_icmp_le (tgt := 15) hx hb dX11_feed_10 (by decide) (fun c_10 => ?_) (fun c_10 => ?_)
  · replace h := ez_ifp h c_10
    refine lv_aload_n hx hb dX11_feed_15 rfl (lv_at hl 0 rfl) ?_
    refine lv_iload_n hx hb dX11_feed_16 rfl (lv_at hl 1 rfl) ?_
    refine ez_cVv (As := [.int x1]) (rest := []) h (fun _ q => c_X11_putOnTape q) hC k_X11_putOnTape ql_RX11_101 rfl (by decide) hS (fun _ q => ez_rcv q) rfl hl.1 rfl (Nat.le_of_ble_eq_true rfl) ⟨Nat.zero_le _, Nat.zero_le _⟩ dX11_feed_17 (fun _ σ H locs hS h => ?_)
    refine lv_aload_n hx hb dX11_feed_20 rfl (lv_at hl 0 rfl) ?_
    refine lv_iload_n hx hb dX11_feed_21 rfl (lv_at hl 2 rfl) ?_
    refine ez_cVv (As := [.int x2]) (rest := []) h (fun _ q => c_X11_putOnTape q) hC k_X11_putOnTape ql_RX11_101 rfl (by decide) hS (fun _ q => ez_rcv q) rfl hl.1 rfl (Nat.le_of_ble_eq_true rfl) ⟨Nat.zero_le _, Nat.zero_le _⟩ dX11_feed_22 (fun _ σ H locs hS h => ?_)
    refine lv_aload_n hx hb dX11_feed_25 rfl (lv_at hl 0 rfl) ?_
    refine lv_iload_n hx hb dX11_feed_26 rfl (lv_at hl 3 rfl) ?_
    refine ez_cVv (As := [.int x3]) (rest := []) h (fun _ q => c_X11_putOnTape q) hC k_X11_putOnTape ql_RX11_101 rfl (by decide) hS (fun _ q => ez_rcv q) rfl hl.1 rfl (Nat.le_of_ble_eq_true rfl) ⟨Nat.zero_le _, Nat.zero_le _⟩ dX11_feed_27 (fun _ σ H locs hS h => ?_)
    refine lv_aload_n hx hb dX11_feed_30 rfl (lv_at hl 0 rfl) ?_
    refine lv_iload hx hb dX11_feed_31 (lv_at hl 4 rfl) ?_
    refine ez_cVv (As := [.int x4]) (rest := []) h (fun _ q => c_X11_putOnTape q) hC k_X11_putOnTape ql_RX11_101 rfl (by decide) hS (fun _ q => ez_rcv q) rfl hl.1 rfl (Nat.le_of_ble_eq_true rfl) ⟨Nat.zero_le _, Nat.zero_le _⟩ dX11_feed_33 (fun _ σ H locs hS h => ?_)
    refine lv_aload_n hx hb dX11_feed_36 rfl (lv_at hl 0 rfl) ?_
    refine lv_iload hx hb dX11_feed_37 (lv_at hl 5 rfl) ?_
    refine ez_cVv (As := [.int x5]) (rest := []) h (fun _ q => c_X11_putOnTape q) hC k_X11_putOnTape ql_RX11_101 rfl (by decide) hS (fun _ q => ez_rcv q) rfl hl.1 rfl (Nat.le_of_ble_eq_true rfl) ⟨Nat.zero_le _, Nat.zero_le _⟩ dX11_feed_39 (fun _ σ H locs hS h => ?_)
    refine lv_aload_n hx hb dX11_feed_42 rfl (lv_at hl 0 rfl) ?_
    refine eg_RX11_13 hC hS h dX11_feed_43 (fun t_43 h => ?_)
    exact hret _ _ _ _ _ _ (Option.some.inj h) rfl hS dX11_feed_46
  · replace h := ez_ifn h c_10
    refine lv_iconst (v := -1) hx hb dX11_feed_13 (by decide) ?_
    exact hret _ _ _ _ _ _ (Option.some.inj h) rfl hS dX11_feed_14
set_option maxHeartbeats 4000000 in
set_option maxRecDepth 100000 in
theorem c_X6_isLegal {l : Launch} {X : ez_X} {B : Nat} {σ : ez_H} {h0 : Nat} {x1 : Int32} {z : Int32} (h : z_X6_isLegal σ h0 x1 = some z) : ez_M l X B σ yX6_isLegal cX6_isLegal 3 (some .boolean) 2 [.ref (B + h0), .int x1] (some (.int z)) σ := by
  refine ez_startip (z := z) (by decide) (Nat.le_of_ble_eq_true rfl) (fun p e R s m args below meth c Q hC hret hS ls hl => ?_)
  have hC : ez_C p R s m args c X B RX6 cX6_isLegal 3 2 := hC
  have hx := hC.1.1
  have hb := hC.1.2.1
  have hown := hC.1.2.2.2.1
  have hts := hC.1.2.2.2.2
  have hl : lv_has ls 3 [(0, .ref (B + h0)), (1, .int x1)] := hl
  obtain ⟨n0, e0⟩ : ∃ n0 : Nat, n0 = σ.length := ⟨_, rfl⟩
  rw [← e0] at hret hS
  obtain ⟨-, h⟩ := ez_in h
  have K_2 : ∀ (k_2 : Nat → Int32 → Int32 → Option (Int32)) (hk_2 : ∀ (h0 : Nat) (x1 : Int32) (x2 : Int32) (H : Heap) (locs : List Loc) (ls : Array Slot), ez_S X B s.heap (n0) σ H locs → k_2 h0 x1 x2 = some z → lv_has ls 3 [(0, .ref (B + h0)), (1, .int x1), (2, .int x2)] → W p l e R s m args below meth c H locs 0 0 Q (F0 m 2 ls [])), ∀ (h0 : Nat) (x1 : Int32) (x2 : Int32) (H : Heap) (locs : List Loc) (ls : Array Slot), ez_S X B s.heap (n0) σ H locs → z_X6_isLegal_2 σ k_2 h0 x1 x2 = some z → lv_has ls 3 [(0, .ref (B + h0)), (1, .int x1), (2, .int x2)] → W p l e R s m args below meth c H locs 0 0 Q (F0 m 2 ls []) := by
    intro k_2 hk_2 h0 x1 x2 H locs ls hS h hl
    refine lv_iload_n hx hb dX6_isLegal_2 rfl (lv_at hl 2 rfl) ?_
    refine lv_aload_n hx hb dX6_isLegal_3 rfl (lv_at hl 0 rfl) ?_
    refine eg_RX6_18 hC hS h dX6_isLegal_4 (fun t_4 h => ?_)
    refine lv_icmp_ge (tgt := 43) hx hb dX6_isLegal_7 (by decide) (fun c_7 => ?_) (fun c_7 => ?_)
    · replace h := ez_ifp h c_7
      refine lv_iconst (v := 1) hx hb dX6_isLegal_43 (by decide) ?_
      have hn : narrow .boolean (.int 1) = .int 1 := by decide
      exact hret _ _ _ _ _ (Option.some.inj h) hn hS dX6_isLegal_44
    · replace h := ez_ifn h c_7
      refine lv_aload_n hx hb dX6_isLegal_10 rfl (lv_at hl 0 rfl) ?_
      refine lv_iload_n hx hb dX6_isLegal_11 rfl (lv_at hl 1 rfl) ?_
      refine lv_iload_n hx hb dX6_isLegal_12 rfl (lv_at hl 2 rfl) ?_
      refine ez_cVpi (As := [.int x1, .int x2]) (rest := []) h (fun _ q => c_X6_depthAt q) hC k_X6_depthAt ql_RX6_41 rfl (by decide) hS (fun _ q => ez_rcv q) rfl hl.1 rfl (Nat.le_of_ble_eq_true rfl) ⟨Nat.zero_le _, Nat.zero_le _⟩ dX6_isLegal_13 (fun t_13 H locs hS h => ?_)
      refine lv_aload_n hx hb dX6_isLegal_16 rfl (lv_at hl 0 rfl) ?_
      refine lv_iload_n hx hb dX6_isLegal_17 rfl (lv_at hl 1 rfl) ?_
      refine lv_iload_n hx hb dX6_isLegal_18 rfl (lv_at hl 2 rfl) ?_
      refine lv_iconst (v := 1) hx hb dX6_isLegal_19 (by decide) ?_
      refine lv_isub hx hb dX6_isLegal_20 ?_
      refine ez_top h (fun t_20 h => ?_)
      refine ez_cVpi (As := [.int x1, .int t_20]) (rest := [.int t_13]) h (fun _ q => c_X6_depthAt q) hC k_X6_depthAt ql_RX6_41 rfl (by decide) hS (fun _ q => ez_rcv q) rfl hl.1 rfl (Nat.le_of_ble_eq_true rfl) ⟨Nat.zero_le _, Nat.zero_le _⟩ dX6_isLegal_21 (fun t_21 H locs hS h => ?_)
      refine lv_isub hx hb dX6_isLegal_24 ?_
      refine ez_top h (fun t_24 h => ?_)
      refine va_mabs hx hb (hC.1.2.2.1.trans hl.1.symm) hown (hts _ ql_RX6_59) (hts _ qm_abs_s) (hts _ qm_i) (hts _ qm_abs_c) (Nat.le_trans (by decide) hC.2.2.1) (Nat.le_trans (Nat.le_of_ble_eq_true rfl) hC.2.2.2.1) (Nat.zero_le _) (Nat.zero_le _) dX6_isLegal_25 ?_
      refine ez_top h (fun t_25 h => ?_)
      refine lv_aload_n hx hb dX6_isLegal_28 rfl (lv_at hl 0 rfl) ?_
      refine eg_RX6_25 hC hS h dX6_isLegal_29 (fun t_29 h => ?_)
      refine lv_icmp_le (tgt := 37) hx hb dX6_isLegal_32 (by decide) (fun c_32 => ?_) (fun c_32 => ?_)
      · replace h := ez_ifp h c_32
        obtain ⟨t_37, e_37, h⟩ := ez_let_sp h
        refine lv_iinc (v := t_37) (lv' := [(2, .int t_37), (0, .ref (B + h0)), (1, .int x1)]) hx hb dX6_isLegal_37 hl (k := 2) rfl (by rw [e_37]; rfl) (by decide) rfl (fun ls hl => ?_)
        refine lv_goto (tgt := 2) hx hb dX6_isLegal_40 (by decide) ?_
        exact hk_2 h0 x1 t_37 _ _ _ hS h (lv_sub hl [1, 2, 0] rfl)
      · replace h := ez_ifn h c_32
        refine lv_iconst (v := 0) hx hb dX6_isLegal_35 (by decide) ?_
        have hn : narrow .boolean (.int 0) = .int 0 := by decide
        exact hret _ _ _ _ _ (Option.some.inj h) hn hS dX6_isLegal_36
  have E_2 : ∀ (h0 : Nat) (x1 : Int32) (x2 : Int32) (H : Heap) (locs : List Loc) (ls : Array Slot), ez_S X B s.heap (n0) σ H locs → (ez_fix (fun _ _ _ => none) (z_X6_isLegal_2 σ) ez_N) h0 x1 x2 = some z → lv_has ls 3 [(0, .ref (B + h0)), (1, .int x1), (2, .int x2)] → W p l e R s m args below meth c H locs 0 0 Q (F0 m 2 ls []) := ez_fix_ind (fun k_2 : Nat → Int32 → Int32 → Option (Int32) => ∀ (h0 : Nat) (x1 : Int32) (x2 : Int32) (H : Heap) (locs : List Loc) (ls : Array Slot), ez_S X B s.heap (n0) σ H locs → k_2 h0 x1 x2 = some z → lv_has ls 3 [(0, .ref (B + h0)), (1, .int x1), (2, .int x2)] → W p l e R s m args below meth c H locs 0 0 Q (F0 m 2 ls [])) (fun _ _ _ _ _ _ _ h _ => by cases h) (fun k_2 hk_2 => K_2 k_2 hk_2) ez_N
  refine lv_iconst (v := 1) hx hb dX6_isLegal_0 (by decide) ?_
  refine lv_istore_n (lv' := [(2, .int 1), (0, .ref (B + h0)), (1, .int x1)]) hx hb dX6_isLegal_1 rfl hl (by decide) rfl (fun ls hl => ?_)
  exact E_2  h0 x1 (1 : Int32) _ _ _ hS h (lv_sub hl [1, 2, 0] rfl)
set_option maxHeartbeats 4000000 in
set_option maxRecDepth 100000 in
theorem c_X6_deeper {l : Launch} {X : ez_X} {B : Nat} {σ : ez_H} {h0 : Nat} {x1 : Int32} {x2 : Int32} {z : Int32} (h : z_X6_deeper σ h0 x1 x2 = some z) : ez_M l X B σ yX6_deeper cX6_deeper 5 (some .int) 3 [.ref (B + h0), .int x1, .int x2] (some (.int z)) σ := by
  refine ez_startip (z := z) (by decide) (Nat.le_of_ble_eq_true rfl) (fun p e R s m args below meth c Q hC hret hS ls hl => ?_)
  have hC : ez_C p R s m args c X B RX6 cX6_deeper 5 3 := hC
  have hx := hC.1.1
  have hb := hC.1.2.1
  have hown := hC.1.2.2.2.1
  have hts := hC.1.2.2.2.2
  have hl : lv_has ls 5 [(0, .ref (B + h0)), (1, .int x1), (2, .int x2)] := hl
  obtain ⟨n0, e0⟩ : ∃ n0 : Nat, n0 = σ.length := ⟨_, rfl⟩
  rw [← e0] at hret hS
  obtain ⟨-, h⟩ := ez_in h
  have K_51 : ∀ (y0 : Int32) (H : Heap) (locs : List Loc) (ls : Array Slot), ez_S X B s.heap (n0) σ H locs → z_X6_deeper_51 σ y0 = some z → lv_has ls 5 [] → W p l e R s m args below meth c H locs 0 0 Q (F0 m 51 ls [.int y0]) := by
    intro y0 H locs ls hS h hl
    exact hret _ _ _ _ _ (Option.some.inj h) rfl hS dX6_deeper_51
  refine lv_aload_n hx hb dX6_deeper_0 rfl (lv_at hl 0 rfl) ?_
  refine lv_iload_n hx hb dX6_deeper_1 rfl (lv_at hl 1 rfl) ?_
  refine lv_iload_n hx hb dX6_deeper_2 rfl (lv_at hl 2 rfl) ?_
  refine ez_cVpi (As := [.int x1, .int x2]) (rest := []) h (fun _ q => c_X6_depthAt q) hC k_X6_depthAt ql_RX6_41 rfl (by decide) hS (fun _ q => ez_rcv q) rfl hl.1 rfl (Nat.le_of_ble_eq_true rfl) ⟨Nat.zero_le _, Nat.zero_le _⟩ dX6_deeper_3 (fun t_3 H locs hS h => ?_)
  refine lv_istore_n (lv' := [(3, .int t_3), (0, .ref (B + h0)), (1, .int x1), (2, .int x2)]) hx hb dX6_deeper_6 rfl hl (by decide) rfl (fun ls hl => ?_)
  refine lv_iload_n hx hb dX6_deeper_7 rfl (lv_at hl 0 rfl) ?_
  refine lv_iconst (v := 1) hx hb dX6_deeper_8 (by decide) ?_
  refine lv_iadd hx hb dX6_deeper_9 ?_
  refine ez_top h (fun t_9 h => ?_)
  refine lv_aload_n hx hb dX6_deeper_10 rfl (lv_at hl 1 rfl) ?_
  refine eg_RX6_22 hC hS h dX6_deeper_11 (fun t_11 h => ?_)
  refine lv_icmp_lt (tgt := 19) hx hb dX6_deeper_14 (by decide) (fun c_14 => ?_) (fun c_14 => ?_)
  · replace h := ez_ifp h c_14
    refine lv_iload_n hx hb dX6_deeper_19 rfl (lv_at hl 2 rfl) ?_
    refine lv_iload_n hx hb dX6_deeper_20 rfl (lv_at hl 3 rfl) ?_
    refine lv_iload_n hx hb dX6_deeper_21 rfl (lv_at hl 0 rfl) ?_
    refine ez_cSpi (As := [.int x2, .int t_3]) (rest := [.int x1]) h (fun _ q => c_X6_notch q) hC k_X6_notch ql_RX6_44 rfl (by decide) hS hl.1 rfl (Nat.le_of_ble_eq_true rfl) ⟨Nat.zero_le _, Nat.zero_le _⟩ dX6_deeper_22 (fun t_22 H locs hS h => ?_)
    refine lv_ixor hx hb dX6_deeper_25 ?_
    refine ez_top h (fun t_25 h => ?_)
    refine lv_iload_n hx hb dX6_deeper_26 rfl (lv_at hl 3 rfl) ?_
    refine lv_iload_n hx hb dX6_deeper_27 rfl (lv_at hl 0 rfl) ?_
    refine lv_iconst (v := 1) hx hb dX6_deeper_28 (by decide) ?_
    refine lv_iadd hx hb dX6_deeper_29 ?_
    refine ez_top h (fun t_29 h => ?_)
    refine ez_cSpi (As := [.int x2, .int t_29]) (rest := [.int t_25]) h (fun _ q => c_X6_notch q) hC k_X6_notch ql_RX6_44 rfl (by decide) hS hl.1 rfl (Nat.le_of_ble_eq_true rfl) ⟨Nat.zero_le _, Nat.zero_le _⟩ dX6_deeper_30 (fun t_30 H locs hS h => ?_)
    refine lv_ixor hx hb dX6_deeper_33 ?_
    refine ez_top h (fun t_33 h => ?_)
    refine lv_istore (lv' := [(4, .int t_33), (3, .int t_3), (0, .ref (B + h0)), (1, .int x1), (2, .int x2)]) hx hb dX6_deeper_34 hl (by decide) rfl (fun ls hl => ?_)
    refine lv_aload_n hx hb dX6_deeper_36 rfl (lv_at hl 2 rfl) ?_
    refine lv_iload hx hb dX6_deeper_37 (lv_at hl 0 rfl) ?_
    refine ez_cVpi (As := [.int t_33]) (rest := []) h (fun _ q => c_X6_isLegal q) hC k_X6_isLegal ql_RX6_55 rfl (by decide) hS (fun _ q => ez_rcv q) rfl hl.1 rfl (Nat.le_of_ble_eq_true rfl) ⟨Nat.zero_le _, Nat.zero_le _⟩ dX6_deeper_39 (fun t_39 H locs hS h => ?_)
    refine lv_if_eq (tgt := 50) hx hb dX6_deeper_42 (by decide) (fun c_42 => ?_) (fun c_42 => ?_)
    · replace h := ez_ifp h c_42
      refine lv_iconst (v := 0) hx hb dX6_deeper_50 (by decide) ?_
      exact K_51  (0 : Int32) _ _ _ hS h (lv_sub hl [] rfl)
    · replace h := ez_ifn h c_42
      refine lv_iload hx hb dX6_deeper_45 (lv_at hl 0 rfl) ?_
      refine lv_goto (tgt := 51) hx hb dX6_deeper_47 (by decide) ?_
      exact K_51  t_33 _ _ _ hS h (lv_sub hl [] rfl)
  · replace h := ez_ifn h c_14
    refine lv_iconst (v := 0) hx hb dX6_deeper_17 (by decide) ?_
    exact hret _ _ _ _ _ (Option.some.inj h) rfl hS dX6_deeper_18
set_option maxHeartbeats 4000000 in
set_option maxRecDepth 100000 in
theorem c_J9_floorMod_7cf53 {l : Launch} {X : ez_X} {B : Nat} {σ : ez_H} {x0 : Int32} {x1 : Int32} {z : Int32} (h : z_J9_floorMod_7cf53 σ x0 x1 = some z) : ez_M l X B σ yJ9_floorMod_7cf53 cJ9_floorMod_7cf53 3 (some .int) 0 [.int x0, .int x1] (some (.int z)) σ := by
  refine ez_startipF (z := z) (by decide +kernel) (Nat.le_of_ble_eq_true rfl) (fun p e R s m args below meth c Q hC hret hS ls hl => ?_)
  have hC : ez_C p R s m args c X B RJ9 cJ9_floorMod_7cf53 3 0 := hC
  have hx := hC.1.1
  have hb := hC.1.2.1
  have hown := hC.1.2.2.2.1
  have hts := hC.1.2.2.2.2
  have hl : lv_has ls 3 [(0, .int x0), (1, .int x1)] := hl
  obtain ⟨n0, e0⟩ : ∃ n0 : Nat, n0 = σ.length := ⟨_, rfl⟩
  rw [← e0] at hret hS
  have K_18 : ∀ (x2 : Int32) (H : Heap) (locs : List Loc) (ls : Array Slot), ez_S X B s.heap (n0) σ H locs → z_J9_floorMod_7cf53_18 σ x2 = some z → lv_has ls 3 [(2, .int x2)] → W p l e R s m args below meth c H locs 0 0 Q (F0 m 18 ls []) := by
    intro x2 H locs ls hS h hl
    refine lv_iload_n hx hb dJ9_floorMod_7cf53_18 rfl (lv_at hl 0 rfl) ?_
    exact hret _ _ _ _ _ (Option.some.inj h) rfl hS dJ9_floorMod_7cf53_19
  refine lv_iload_n hx hb dJ9_floorMod_7cf53_0 rfl (lv_at hl 0 rfl) ?_
  refine lv_iload_n hx hb dJ9_floorMod_7cf53_1 rfl (lv_at hl 1 rfl) ?_
  obtain ⟨nz_2, h⟩ := ez_nz_sp h
  refine lv_irem hx hb dJ9_floorMod_7cf53_2 nz_2 ?_
  refine ez_top h (fun t_2 h => ?_)
  refine lv_istore_n (lv' := [(2, .int t_2), (0, .int x0), (1, .int x1)]) hx hb dJ9_floorMod_7cf53_3 rfl hl (by decide) rfl (fun ls hl => ?_)
  refine lv_iload_n hx hb dJ9_floorMod_7cf53_4 rfl (lv_at hl 1 rfl) ?_
  refine lv_iload_n hx hb dJ9_floorMod_7cf53_5 rfl (lv_at hl 2 rfl) ?_
  refine lv_ixor hx hb dJ9_floorMod_7cf53_6 ?_
  refine ez_top h (fun t_6 h => ?_)
  refine lv_if_ge (tgt := 18) hx hb dJ9_floorMod_7cf53_7 (by decide) (fun c_7 => ?_) (fun c_7 => ?_)
  · replace h := ez_ifp h c_7
    exact K_18  t_2 _ _ _ hS h (lv_sub hl [0] rfl)
  · replace h := ez_ifn h c_7
    refine lv_iload_n hx hb dJ9_floorMod_7cf53_10 rfl (lv_at hl 0 rfl) ?_
    refine lv_if_eq (tgt := 18) hx hb dJ9_floorMod_7cf53_11 (by decide) (fun c_11 => ?_) (fun c_11 => ?_)
    · replace h := ez_ifp h c_11
      exact K_18  t_2 _ _ _ hS h (lv_sub hl [0] rfl)
    · replace h := ez_ifn h c_11
      refine lv_iload_n hx hb dJ9_floorMod_7cf53_14 rfl (lv_at hl 0 rfl) ?_
      refine lv_iload_n hx hb dJ9_floorMod_7cf53_15 rfl (lv_at hl 2 rfl) ?_
      refine lv_iadd hx hb dJ9_floorMod_7cf53_16 ?_
      refine ez_top h (fun t_16 h => ?_)
      exact hret _ _ _ _ _ (Option.some.inj h) rfl hS dJ9_floorMod_7cf53_17
set_option maxHeartbeats 4000000 in
set_option maxRecDepth 100000 in
theorem c_X1_slot {l : Launch} {X : ez_X} {B : Nat} {σ : ez_H} {h0 : Nat} {x1 : Int32} {z : Nat} (h : z_X1_slot σ h0 x1 = some z) : ez_M l X B σ yX1_slot cX1_slot 2 (some (.object "PinPlan$State")) 1 [.ref (B + h0), .int x1] (some (.ref (B + z))) σ := by
  refine ez_startrp (z := z) (Or.inl ⟨_, rfl⟩) (by decide) (Nat.le_of_ble_eq_true rfl) (fun p e R s m args below meth c Q hC hret hS ls hl => ?_)
  have hC : ez_C p R s m args c X B RX1 cX1_slot 2 1 := hC
  have hx := hC.1.1
  have hb := hC.1.2.1
  have hown := hC.1.2.2.2.1
  have hts := hC.1.2.2.2.2
  have hl : lv_has ls 2 [(0, .ref (B + h0)), (1, .int x1)] := hl
  obtain ⟨n0, e0⟩ : ∃ n0 : Nat, n0 = σ.length := ⟨_, rfl⟩
  rw [← e0] at hret hS
  obtain ⟨-, h⟩ := ez_in h
  refine lv_aload_n hx hb dX1_slot_0 rfl (lv_at hl 0 rfl) ?_
  refine eg_RX1_11 hC hS h dX1_slot_1 (fun t_1 h => ?_)
  refine lv_aload_n hx hb dX1_slot_4 rfl (lv_at hl 0 rfl) ?_
  refine eg_RX1_16 hC hS h dX1_slot_5 (fun t_5 h => ?_)
  refine lv_iload_n hx hb dX1_slot_8 rfl (lv_at hl 1 rfl) ?_
  refine lv_iadd hx hb dX1_slot_9 ?_
  refine ez_top h (fun t_9 h => ?_)
  refine lv_bipush (v := 41) hx hb dX1_slot_10 (by decide) ?_
  refine ez_cSpi (As := [.int t_9, .int 41]) (rest := [.ref (B + t_1)]) h (fun _ q => c_J9_floorMod_7cf53 q) hC k_J9_floorMod_7cf53 ql_RX1_26 rfl (by decide) hS hl.1 rfl (Nat.le_of_ble_eq_true rfl) ⟨Nat.zero_le _, Nat.zero_le _⟩ dX1_slot_12 (fun t_12 H locs hS h => ?_)
  refine ez_sal hC hS h dX1_slot_15 (fun t_15 h => ?_)
  exact hret _ _ _ _ _ (Option.some.inj h) hS dX1_slot_16
set_option maxHeartbeats 4000000 in
set_option maxRecDepth 100000 in
theorem c_X1_keep {l : Launch} {X : ez_X} {B : Nat} {σ : ez_H} {h0 : Nat} {h1 : Nat} {z : Unit × ez_H} (h : z_X1_keep σ h0 h1 = some z) : ez_M l X B σ yX1_keep cX1_keep 2 (none) 2 [.ref (B + h0), .ref (B + h1)] (none) z.2 := by
  refine ez_startv (z := z) (by decide) (Nat.le_of_ble_eq_true rfl) (fun p e R s m args below meth c Q hC hret hS ls hl => ?_)
  have hC : ez_C p R s m args c X B RX1 cX1_keep 2 2 := hC
  have hx := hC.1.1
  have hb := hC.1.2.1
  have hown := hC.1.2.2.2.1
  have hts := hC.1.2.2.2.2
  have hl : lv_has ls 2 [(0, .ref (B + h0)), (1, .ref (B + h1))] := hl
  obtain ⟨σ0, eσ⟩ : ∃ σ0 : ez_H, σ0 = σ := ⟨_, rfl⟩
  rw [← eσ] at hret
  have hS : ez_S X B s.heap σ0.length σ s.heap [] := eσ ▸ hS
  obtain ⟨-, h⟩ := ez_in h
  have K_32 : ∀ (σ : ez_H) (h0 : Nat) (h1 : Nat) (H : Heap) (locs : List Loc) (ls : Array Slot), ez_S X B s.heap (σ0.length) σ H locs → z_X1_keep_32 σ h0 h1 = some z → lv_has ls 2 [(0, .ref (B + h0)), (1, .ref (B + h1))] → W p l e R s m args below meth c H locs 0 0 Q (F0 m 32 ls []) := by
    intro σ h0 h1 H locs ls hS h hl
    refine lv_aload_n hx hb dX1_keep_32 rfl (lv_at hl 0 rfl) ?_
    refine lv_aload_n hx hb dX1_keep_33 rfl (lv_at hl 0 rfl) ?_
    refine eg_RX1_20 hC hS h dX1_keep_34 (fun t_34 h => ?_)
    refine ez_cVpr (As := [.int t_34]) (rest := []) h (fun _ q => c_X1_slot q) hC k_X1_slot ql_RX1_32 rfl (by decide) hS (fun _ q => ez_rcv q) rfl hl.1 rfl (Nat.le_of_ble_eq_true rfl) ⟨Nat.zero_le _, Nat.zero_le _⟩ dX1_keep_37 (fun t_37 H locs hS h => ?_)
    refine lv_aload_n hx hb dX1_keep_40 rfl (lv_at hl 1 rfl) ?_
    refine ez_cVv (As := [.ref (B + h1)]) (rest := []) h (fun _ q => c_X7_copyFrom q) hC k_X7_copyFrom ql_RX1_36 rfl (by decide) hS (fun _ q => ez_rcv q) rfl hl.1 rfl (Nat.le_of_ble_eq_true rfl) ⟨Nat.zero_le _, Nat.zero_le _⟩ dX1_keep_41 (fun _ σ H locs hS h => ?_)
    refine lv_aload_n hx hb dX1_keep_44 rfl (lv_at hl 0 rfl) ?_
    refine lv_dup hx hb dX1_keep_45 rfl ?_
    refine eg_RX1_20 hC hS h dX1_keep_46 (fun t_46 h => ?_)
    refine lv_iconst (v := 1) hx hb dX1_keep_49 (by decide) ?_
    refine lv_iadd hx hb dX1_keep_50 ?_
    refine ez_top h (fun t_50 h => ?_)
    refine ep_RX1_20 hC hS h dX1_keep_51 (fun σ H locs hS h => ?_)
    refine lv_aload_n hx hb dX1_keep_54 rfl (lv_at hl 0 rfl) ?_
    refine lv_aload_n hx hb dX1_keep_55 rfl (lv_at hl 0 rfl) ?_
    refine eg_RX1_20 hC hS h dX1_keep_56 (fun t_56 h => ?_)
    refine ep_RX1_23 hC hS h dX1_keep_59 (fun σ H locs hS h => ?_)
    exact hret _ _ _ _ _ _ (Option.some.inj h) hS dX1_keep_62
  refine lv_aload_n hx hb dX1_keep_0 rfl (lv_at hl 0 rfl) ?_
  refine eg_RX1_20 hC hS h dX1_keep_1 (fun t_1 h => ?_)
  refine lv_bipush (v := 40) hx hb dX1_keep_4 (by decide) ?_
  refine lv_icmp_lt (tgt := 32) hx hb dX1_keep_6 (by decide) (fun c_6 => ?_) (fun c_6 => ?_)
  · replace h := ez_ifp h c_6
    exact K_32  σ h0 h1 _ _ _ hS h (lv_sub hl [0, 1] rfl)
  · replace h := ez_ifn h c_6
    refine lv_aload_n hx hb dX1_keep_9 rfl (lv_at hl 0 rfl) ?_
    refine lv_aload_n hx hb dX1_keep_10 rfl (lv_at hl 0 rfl) ?_
    refine eg_RX1_16 hC hS h dX1_keep_11 (fun t_11 h => ?_)
    refine lv_iconst (v := 1) hx hb dX1_keep_14 (by decide) ?_
    refine lv_iadd hx hb dX1_keep_15 ?_
    refine ez_top h (fun t_15 h => ?_)
    refine lv_bipush (v := 41) hx hb dX1_keep_16 (by decide) ?_
    obtain ⟨nz_18, h⟩ := ez_nz_sp h
    refine lv_irem hx hb dX1_keep_18 nz_18 ?_
    refine ez_top h (fun t_18 h => ?_)
    refine ep_RX1_16 hC hS h dX1_keep_19 (fun σ H locs hS h => ?_)
    refine lv_aload_n hx hb dX1_keep_22 rfl (lv_at hl 0 rfl) ?_
    refine lv_dup hx hb dX1_keep_23 rfl ?_
    refine eg_RX1_20 hC hS h dX1_keep_24 (fun t_24 h => ?_)
    refine lv_iconst (v := 1) hx hb dX1_keep_27 (by decide) ?_
    refine lv_isub hx hb dX1_keep_28 ?_
    refine ez_top h (fun t_28 h => ?_)
    refine ep_RX1_20 hC hS h dX1_keep_29 (fun σ H locs hS h => ?_)
    exact K_32  σ h0 h1 _ _ _ hS h (lv_sub hl [0, 1] rfl)
set_option maxHeartbeats 4000000 in
set_option maxRecDepth 100000 in
theorem c_X7_put {l : Launch} {X : ez_X} {B : Nat} {σ : ez_H} {h0 : Nat} {x1 : Int32} {x2 : Int32} {z : Unit × ez_H} (h : z_X7_put σ h0 x1 x2 = some z) : ez_M l X B σ yX7_put cX7_put 3 (none) 0 [.ref (B + h0), .int x1, .int x2] (none) z.2 := by
  refine ez_startv (z := z) (by decide) (Nat.le_of_ble_eq_true rfl) (fun p e R s m args below meth c Q hC hret hS ls hl => ?_)
  have hC : ez_C p R s m args c X B RX7 cX7_put 3 0 := hC
  have hx := hC.1.1
  have hb := hC.1.2.1
  have hown := hC.1.2.2.2.1
  have hts := hC.1.2.2.2.2
  have hl : lv_has ls 3 [(0, .ref (B + h0)), (1, .int x1), (2, .int x2)] := hl
  obtain ⟨σ0, eσ⟩ : ∃ σ0 : ez_H, σ0 = σ := ⟨_, rfl⟩
  rw [← eσ] at hret
  have hS : ez_S X B s.heap σ0.length σ s.heap [] := eσ ▸ hS
  obtain ⟨-, h⟩ := ez_in h
  have K_17 : ∀ (σ : ez_H) (H : Heap) (locs : List Loc) (ls : Array Slot), ez_S X B s.heap (σ0.length) σ H locs → z_X7_put_17 σ = some z → lv_has ls 3 [] → W p l e R s m args below meth c H locs 0 0 Q (F0 m 17 ls []) := by
    intro σ H locs ls hS h hl
    exact hret _ _ _ _ _ _ (Option.some.inj h) hS dX7_put_17
  refine lv_iload_n hx hb dX7_put_0 rfl (lv_at hl 1 rfl) ?_
  refine lv_if_lt (tgt := 17) hx hb dX7_put_1 (by decide) (fun c_1 => ?_) (fun c_1 => ?_)
  · replace h := ez_ifp h c_1
    exact K_17  σ _ _ _ hS h (lv_sub hl [] rfl)
  · replace h := ez_ifn h c_1
    refine lv_iload_n hx hb dX7_put_4 rfl (lv_at hl 1 rfl) ?_
    refine lv_bipush (v := 35) hx hb dX7_put_5 (by decide) ?_
    refine lv_icmp_ge (tgt := 17) hx hb dX7_put_7 (by decide) (fun c_7 => ?_) (fun c_7 => ?_)
    · replace h := ez_ifp h c_7
      exact K_17  σ _ _ _ hS h (lv_sub hl [] rfl)
    · replace h := ez_ifn h c_7
      refine lv_aload_n hx hb dX7_put_10 rfl (lv_at hl 0 rfl) ?_
      refine eg_RX7_11 hC hS h dX7_put_11 (fun t_11 h => ?_)
      refine lv_iload_n hx hb dX7_put_14 rfl (lv_at hl 1 rfl) ?_
      refine lv_iload_n hx hb dX7_put_15 rfl (lv_at hl 2 rfl) ?_
      refine ez_ias hC hS h dX7_put_16 (fun σ H locs hS h => ?_)
      exact K_17  σ _ _ _ hS h (lv_sub hl [] rfl)
set_option maxHeartbeats 4000000 in
set_option maxRecDepth 100000 in
theorem c_X7_putBits {l : Launch} {X : ez_X} {B : Nat} {σ : ez_H} {h0 : Nat} {x1 : Int32} {x2 : Int32} {z : Unit × ez_H} (h : z_X7_putBits σ h0 x1 x2 = some z) : ez_M l X B σ yX7_putBits cX7_putBits 3 (none) 1 [.ref (B + h0), .int x1, .int x2] (none) z.2 := by
  refine ez_startv (z := z) (by decide) (Nat.le_of_ble_eq_true rfl) (fun p e R s m args below meth c Q hC hret hS ls hl => ?_)
  have hC : ez_C p R s m args c X B RX7 cX7_putBits 3 1 := hC
  have hx := hC.1.1
  have hb := hC.1.2.1
  have hown := hC.1.2.2.2.1
  have hts := hC.1.2.2.2.2
  have hl : lv_has ls 3 [(0, .ref (B + h0)), (1, .int x1), (2, .int x2)] := hl
  obtain ⟨σ0, eσ⟩ : ∃ σ0 : ez_H, σ0 = σ := ⟨_, rfl⟩
  rw [← eσ] at hret
  have hS : ez_S X B s.heap σ0.length σ s.heap [] := eσ ▸ hS
  obtain ⟨-, h⟩ := ez_in h
  refine lv_aload_n hx hb dX7_putBits_0 rfl (lv_at hl 0 rfl) ?_
  refine lv_iload_n hx hb dX7_putBits_1 rfl (lv_at hl 1 rfl) ?_
  refine lv_iload_n hx hb dX7_putBits_2 rfl (lv_at hl 2 rfl) ?_
  refine ez_cVv (As := [.int x1, .int x2]) (rest := []) h (fun _ q => c_X7_put q) hC k_X7_put ql_RX7_31 rfl (by decide) hS (fun _ q => ez_rcv q) rfl hl.1 rfl (Nat.le_of_ble_eq_true rfl) ⟨Nat.zero_le _, Nat.zero_le _⟩ dX7_putBits_3 (fun _ σ H locs hS h => ?_)
  exact hret _ _ _ _ _ _ (Option.some.inj h) hS dX7_putBits_6
set_option maxHeartbeats 4000000 in
set_option maxRecDepth 100000 in
theorem c_X11_file {l : Launch} {X : ez_X} {B : Nat} {σ : ez_H} {h0 : Nat} {x1 : Int32} {x2 : Int32} {z : Int32 × ez_H} (h : z_X11_file σ h0 x1 x2 = some z) : ez_M l X B σ yX11_file cX11_file 4 (some .int) 4 [.ref (B + h0), .int x1, .int x2] (some (.int z.1)) z.2 := by
  refine ez_starti (z := z) (by decide) (Nat.le_of_ble_eq_true rfl) (fun p e R s m args below meth c Q hC hret hS ls hl => ?_)
  have hC : ez_C p R s m args c X B RX11 cX11_file 4 4 := hC
  have hx := hC.1.1
  have hb := hC.1.2.1
  have hown := hC.1.2.2.2.1
  have hts := hC.1.2.2.2.2
  have hl : lv_has ls 4 [(0, .ref (B + h0)), (1, .int x1), (2, .int x2)] := hl
  obtain ⟨σ0, eσ⟩ : ∃ σ0 : ez_H, σ0 = σ := ⟨_, rfl⟩
  rw [← eσ] at hret
  have hS : ez_S X B s.heap σ0.length σ s.heap [] := eσ ▸ hS
  obtain ⟨-, h⟩ := ez_in h
  have K_22 : ∀ (σ : ez_H) (H : Heap) (locs : List Loc) (ls : Array Slot), ez_S X B s.heap (σ0.length) σ H locs → z_X11_file_22 σ = some z → lv_has ls 4 [] → W p l e R s m args below meth c H locs 0 0 Q (F0 m 22 ls []) := by
    intro σ H locs ls hS h hl
    refine lv_iconst (v := -1) hx hb dX11_file_22 (by decide) ?_
    exact hret _ _ _ _ _ _ (Option.some.inj h) rfl hS dX11_file_23
  refine lv_aload_n hx hb dX11_file_0 rfl (lv_at hl 0 rfl) ?_
  refine eg_RX11_29 hC hS h dX11_file_1 (fun t_1 h => ?_)
  refine lv_iload_n hx hb dX11_file_4 rfl (lv_at hl 1 rfl) ?_
  refine ez_cVpi (As := [.int x1]) (rest := []) h (fun _ q => c_X3_hasKey q) hC k_X3_hasKey ql_RX11_137 rfl (by decide) hS (fun _ q => ez_rcv q) rfl hl.1 rfl (Nat.le_of_ble_eq_true rfl) ⟨Nat.zero_le _, Nat.zero_le _⟩ dX11_file_5 (fun t_5 H locs hS h => ?_)
  refine lv_if_eq (tgt := 22) hx hb dX11_file_8 (by decide) (fun c_8 => ?_) (fun c_8 => ?_)
  · replace h := ez_ifp h c_8
    exact K_22  σ _ _ _ hS h (lv_sub hl [] rfl)
  · replace h := ez_ifn h c_8
    refine lv_aload_n hx hb dX11_file_11 rfl (lv_at hl 0 rfl) ?_
    refine eg_RX11_37 hC hS h dX11_file_12 (fun t_12 h => ?_)
    refine lv_iload_n hx hb dX11_file_15 rfl (lv_at hl 2 rfl) ?_
    refine ez_cVpi (As := [.int x2]) (rest := []) h (fun _ q => c_X6_hasChamber q) hC k_X6_hasChamber ql_RX11_158 rfl (by decide) hS (fun _ q => ez_rcv q) rfl hl.1 rfl (Nat.le_of_ble_eq_true rfl) ⟨Nat.zero_le _, Nat.zero_le _⟩ dX11_file_16 (fun t_16 H locs hS h => ?_)
    refine lv_if_ne (tgt := 24) hx hb dX11_file_19 (by decide) (fun c_19 => ?_) (fun c_19 => ?_)
    · replace h := ez_ifn h c_19
      refine lv_aload_n hx hb dX11_file_24 rfl (lv_at hl 0 rfl) ?_
      refine eg_RX11_37 hC hS h dX11_file_25 (fun t_25 h => ?_)
      refine lv_aload_n hx hb dX11_file_28 rfl (lv_at hl 0 rfl) ?_
      refine eg_RX11_41 hC hS h dX11_file_29 (fun t_29 h => ?_)
      refine lv_iload_n hx hb dX11_file_32 rfl (lv_at hl 1 rfl) ?_
      refine ez_cVpi (As := [.int x1]) (rest := [.ref (B + t_25)]) h (fun _ q => c_X7_bits q) hC k_X7_bits ql_RX11_140 rfl (by decide) hS (fun _ q => ez_rcv q) rfl hl.1 rfl (Nat.le_of_ble_eq_true rfl) ⟨Nat.zero_le _, Nat.zero_le _⟩ dX11_file_33 (fun t_33 H locs hS h => ?_)
      refine lv_iload_n hx hb dX11_file_36 rfl (lv_at hl 2 rfl) ?_
      refine ez_cVpi (As := [.int t_33, .int x2]) (rest := []) h (fun _ q => c_X6_deeper q) hC k_X6_deeper ql_RX11_264 rfl (by decide) hS (fun _ q => ez_rcv q) rfl hl.1 rfl (Nat.le_of_ble_eq_true rfl) ⟨Nat.zero_le _, Nat.zero_le _⟩ dX11_file_37 (fun t_37 H locs hS h => ?_)
      refine lv_istore_n (lv' := [(3, .int t_37), (0, .ref (B + h0)), (1, .int x1), (2, .int x2)]) hx hb dX11_file_40 rfl hl (by decide) rfl (fun ls hl => ?_)
      refine lv_iload_n hx hb dX11_file_41 rfl (lv_at hl 0 rfl) ?_
      refine lv_if_ne (tgt := 47) hx hb dX11_file_42 (by decide) (fun c_42 => ?_) (fun c_42 => ?_)
      · replace h := ez_ifn h c_42
        refine lv_aload_n hx hb dX11_file_47 rfl (lv_at hl 1 rfl) ?_
        refine eg_RX11_51 hC hS h dX11_file_48 (fun t_48 h => ?_)
        refine lv_aload_n hx hb dX11_file_51 rfl (lv_at hl 1 rfl) ?_
        refine eg_RX11_41 hC hS h dX11_file_52 (fun t_52 h => ?_)
        refine ez_cVv (As := [.ref (B + t_52)]) (rest := []) h (fun _ q => c_X1_keep q) hC k_X1_keep ql_RX11_222 rfl (by decide) hS (fun _ q => ez_rcv q) rfl hl.1 rfl (Nat.le_of_ble_eq_true rfl) ⟨Nat.zero_le _, Nat.zero_le _⟩ dX11_file_55 (fun _ σ H locs hS h => ?_)
        refine lv_aload_n hx hb dX11_file_58 rfl (lv_at hl 1 rfl) ?_
        refine eg_RX11_41 hC hS h dX11_file_59 (fun t_59 h => ?_)
        refine lv_iload_n hx hb dX11_file_62 rfl (lv_at hl 2 rfl) ?_
        refine lv_iload_n hx hb dX11_file_63 rfl (lv_at hl 0 rfl) ?_
        refine ez_cVv (As := [.int x1, .int t_37]) (rest := []) h (fun _ q => c_X7_putBits q) hC k_X7_putBits ql_RX11_267 rfl (by decide) hS (fun _ q => ez_rcv q) rfl hl.1 rfl (Nat.le_of_ble_eq_true rfl) ⟨Nat.zero_le _, Nat.zero_le _⟩ dX11_file_64 (fun _ σ H locs hS h => ?_)
        refine lv_aload_n hx hb dX11_file_67 rfl (lv_at hl 1 rfl) ?_
        refine eg_RX11_37 hC hS h dX11_file_68 (fun t_68 h => ?_)
        refine lv_iload_n hx hb dX11_file_71 rfl (lv_at hl 0 rfl) ?_
        refine lv_iload_n hx hb dX11_file_72 rfl (lv_at hl 3 rfl) ?_
        refine ez_cVpi (As := [.int t_37, .int x2]) (rest := []) h (fun _ q => c_X6_depthAt q) hC k_X6_depthAt ql_RX11_161 rfl (by decide) hS (fun _ q => ez_rcv q) rfl hl.1 rfl (Nat.le_of_ble_eq_true rfl) ⟨Nat.zero_le _, Nat.zero_le _⟩ dX11_file_73 (fun t_73 H locs hS h => ?_)
        exact hret _ _ _ _ _ _ (Option.some.inj h) rfl hS dX11_file_76
      · replace h := ez_ifp h c_42
        refine lv_iconst (v := -1) hx hb dX11_file_45 (by decide) ?_
        exact hret _ _ _ _ _ _ (Option.some.inj h) rfl hS dX11_file_46
    · replace h := ez_ifp h c_19
      exact K_22  σ _ _ _ hS h (lv_sub hl [] rfl)
set_option maxHeartbeats 4000000 in
set_option maxRecDepth 100000 in
theorem c_X3_hasLock {l : Launch} {X : ez_X} {B : Nat} {σ : ez_H} {h0 : Nat} {x1 : Int32} {z : Int32} (h : z_X3_hasLock σ h0 x1 = some z) : ez_M l X B σ yX3_hasLock cX3_hasLock 2 (some .boolean) 0 [.ref (B + h0), .int x1] (some (.int z)) σ := by
  refine ez_startip (z := z) (by decide) (Nat.le_of_ble_eq_true rfl) (fun p e R s m args below meth c Q hC hret hS ls hl => ?_)
  have hC : ez_C p R s m args c X B RX3 cX3_hasLock 2 0 := hC
  have hx := hC.1.1
  have hb := hC.1.2.1
  have hown := hC.1.2.2.2.1
  have hts := hC.1.2.2.2.2
  have hl : lv_has ls 2 [(0, .ref (B + h0)), (1, .int x1)] := hl
  obtain ⟨n0, e0⟩ : ∃ n0 : Nat, n0 = σ.length := ⟨_, rfl⟩
  rw [← e0] at hret hS
  obtain ⟨-, h⟩ := ez_in h
  have K_17 : ∀ (y0 : Int32) (H : Heap) (locs : List Loc) (ls : Array Slot), ez_S X B s.heap (n0) σ H locs → z_X3_hasLock_17 σ y0 = some z → lv_has ls 2 [] → W p l e R s m args below meth c H locs 0 0 Q (F0 m 17 ls [.int y0]) := by
    intro y0 H locs ls hS h hl
    obtain ⟨hn, h⟩ := ez_nr_sp rfl h
    exact hret _ _ _ _ _ (Option.some.inj h) hn hS dX3_hasLock_17
  have K_16 : ∀ (H : Heap) (locs : List Loc) (ls : Array Slot), ez_S X B s.heap (n0) σ H locs → z_X3_hasLock_16 σ = some z → lv_has ls 2 [] → W p l e R s m args below meth c H locs 0 0 Q (F0 m 16 ls []) := by
    intro  H locs ls hS h hl
    refine lv_iconst (v := 0) hx hb dX3_hasLock_16 (by decide) ?_
    exact K_17  (0 : Int32) _ _ _ hS h (lv_sub hl [] rfl)
  refine lv_iload_n hx hb dX3_hasLock_0 rfl (lv_at hl 1 rfl) ?_
  refine lv_if_lt (tgt := 16) hx hb dX3_hasLock_1 (by decide) (fun c_1 => ?_) (fun c_1 => ?_)
  · replace h := ez_ifp h c_1
    exact K_16   _ _ _ hS h (lv_sub hl [] rfl)
  · replace h := ez_ifn h c_1
    refine lv_iload_n hx hb dX3_hasLock_4 rfl (lv_at hl 1 rfl) ?_
    refine lv_aload_n hx hb dX3_hasLock_5 rfl (lv_at hl 0 rfl) ?_
    refine eg_RX3_59 hC hS h dX3_hasLock_6 (fun t_6 h => ?_)
    refine lv_icmp_ge (tgt := 16) hx hb dX3_hasLock_9 (by decide) (fun c_9 => ?_) (fun c_9 => ?_)
    · replace h := ez_ifp h c_9
      exact K_16   _ _ _ hS h (lv_sub hl [] rfl)
    · replace h := ez_ifn h c_9
      refine lv_iconst (v := 1) hx hb dX3_hasLock_12 (by decide) ?_
      refine lv_goto (tgt := 17) hx hb dX3_hasLock_13 (by decide) ?_
      exact K_17  (1 : Int32) _ _ _ hS h (lv_sub hl [] rfl)
set_option maxHeartbeats 4000000 in
set_option maxRecDepth 100000 in
theorem c_X6_fromDepthsOf {l : Launch} {X : ez_X} {B : Nat} {σ : ez_H} {h0 : Nat} {x1 : Int32} {z : Int32} (h : z_X6_fromDepthsOf σ h0 x1 = some z) : ez_M l X B σ yX6_fromDepthsOf cX6_fromDepthsOf 5 (some .int) 2 [.ref (B + h0), .int x1] (some (.int z)) σ := by
  refine ez_startip (z := z) (by decide) (Nat.le_of_ble_eq_true rfl) (fun p e R s m args below meth c Q hC hret hS ls hl => ?_)
  have hC : ez_C p R s m args c X B RX6 cX6_fromDepthsOf 5 2 := hC
  have hx := hC.1.1
  have hb := hC.1.2.1
  have hown := hC.1.2.2.2.1
  have hts := hC.1.2.2.2.2
  have hl : lv_has ls 5 [(0, .ref (B + h0)), (1, .int x1)] := hl
  obtain ⟨n0, e0⟩ : ∃ n0 : Nat, n0 = σ.length := ⟨_, rfl⟩
  rw [← e0] at hret hS
  obtain ⟨-, h⟩ := ez_in h
  have K_4 : ∀ (k_4 : Nat → Int32 → Int32 → Int32 → Option (Int32)) (hk_4 : ∀ (h0 : Nat) (x1 : Int32) (x2 : Int32) (x3 : Int32) (H : Heap) (locs : List Loc) (ls : Array Slot), ez_S X B s.heap (n0) σ H locs → k_4 h0 x1 x2 x3 = some z → lv_has ls 5 [(0, .ref (B + h0)), (1, .int x1), (2, .int x2), (3, .int x3)] → W p l e R s m args below meth c H locs 0 0 Q (F0 m 4 ls [])), ∀ (h0 : Nat) (x1 : Int32) (x2 : Int32) (x3 : Int32) (H : Heap) (locs : List Loc) (ls : Array Slot), ez_S X B s.heap (n0) σ H locs → z_X6_fromDepthsOf_4 σ k_4 h0 x1 x2 x3 = some z → lv_has ls 5 [(0, .ref (B + h0)), (1, .int x1), (2, .int x2), (3, .int x3)] → W p l e R s m args below meth c H locs 0 0 Q (F0 m 4 ls []) := by
    intro k_4 hk_4 h0 x1 x2 x3 H locs ls hS h hl
    refine lv_iload_n hx hb dX6_fromDepthsOf_4 rfl (lv_at hl 3 rfl) ?_
    refine lv_aload_n hx hb dX6_fromDepthsOf_5 rfl (lv_at hl 0 rfl) ?_
    refine eg_RX6_18 hC hS h dX6_fromDepthsOf_6 (fun t_6 h => ?_)
    refine lv_icmp_ge (tgt := 56) hx hb dX6_fromDepthsOf_9 (by decide) (fun c_9 => ?_) (fun c_9 => ?_)
    · replace h := ez_ifp h c_9
      refine lv_iload_n hx hb dX6_fromDepthsOf_56 rfl (lv_at hl 2 rfl) ?_
      exact hret _ _ _ _ _ (Option.some.inj h) rfl hS dX6_fromDepthsOf_57
    · replace h := ez_ifn h c_9
      refine lv_iload_n hx hb dX6_fromDepthsOf_12 rfl (lv_at hl 3 rfl) ?_
      refine lv_aload_n hx hb dX6_fromDepthsOf_13 rfl (lv_at hl 0 rfl) ?_
      refine lv_iload_n hx hb dX6_fromDepthsOf_14 rfl (lv_at hl 1 rfl) ?_
      refine lv_iload_n hx hb dX6_fromDepthsOf_15 rfl (lv_at hl 3 rfl) ?_
      refine ez_cVpi (As := [.int x1, .int x3]) (rest := [.int x3]) h (fun _ q => c_X6_depthAt q) hC k_X6_depthAt ql_RX6_41 rfl (by decide) hS (fun _ q => ez_rcv q) rfl hl.1 rfl (Nat.le_of_ble_eq_true rfl) ⟨Nat.zero_le _, Nat.zero_le _⟩ dX6_fromDepthsOf_16 (fun t_16 H locs hS h => ?_)
      refine ez_cSpi (As := [.int x3, .int t_16]) (rest := []) h (fun _ q => c_X6_notch q) hC k_X6_notch ql_RX6_44 rfl (by decide) hS hl.1 rfl (Nat.le_of_ble_eq_true rfl) ⟨Nat.zero_le _, Nat.zero_le _⟩ dX6_fromDepthsOf_19 (fun t_19 H locs hS h => ?_)
      refine lv_iload_n hx hb dX6_fromDepthsOf_22 rfl (lv_at hl 3 rfl) ?_
      refine lv_iconst (v := 0) hx hb dX6_fromDepthsOf_23 (by decide) ?_
      refine ez_cSpi (As := [.int x3, .int 0]) (rest := [.int t_19]) h (fun _ q => c_X6_notch q) hC k_X6_notch ql_RX6_44 rfl (by decide) hS hl.1 rfl (Nat.le_of_ble_eq_true rfl) ⟨Nat.zero_le _, Nat.zero_le _⟩ dX6_fromDepthsOf_24 (fun t_24 H locs hS h => ?_)
      refine lv_isub hx hb dX6_fromDepthsOf_27 ?_
      refine ez_top h (fun t_27 h => ?_)
      refine lv_istore (lv' := [(4, .int t_27), (0, .ref (B + h0)), (1, .int x1), (2, .int x2), (3, .int x3)]) hx hb dX6_fromDepthsOf_28 hl (by decide) rfl (fun ls hl => ?_)
      refine lv_iload_n hx hb dX6_fromDepthsOf_30 rfl (lv_at hl 3 rfl) ?_
      refine lv_iload_n hx hb dX6_fromDepthsOf_31 rfl (lv_at hl 4 rfl) ?_
      refine lv_bipush (v := 6) hx hb dX6_fromDepthsOf_32 (by decide) ?_
      refine ez_cSpi (As := [.int x3, .int 6]) (rest := [.int x2]) h (fun _ q => c_X6_notch q) hC k_X6_notch ql_RX6_44 rfl (by decide) hS hl.1 rfl (Nat.le_of_ble_eq_true rfl) ⟨Nat.zero_le _, Nat.zero_le _⟩ dX6_fromDepthsOf_34 (fun t_34 H locs hS h => ?_)
      refine lv_iload_n hx hb dX6_fromDepthsOf_37 rfl (lv_at hl 4 rfl) ?_
      refine lv_iconst (v := 0) hx hb dX6_fromDepthsOf_38 (by decide) ?_
      refine ez_cSpi (As := [.int x3, .int 0]) (rest := [.int t_34, .int x2]) h (fun _ q => c_X6_notch q) hC k_X6_notch ql_RX6_44 rfl (by decide) hS hl.1 rfl (Nat.le_of_ble_eq_true rfl) ⟨Nat.zero_le _, Nat.zero_le _⟩ dX6_fromDepthsOf_39 (fun t_39 H locs hS h => ?_)
      refine lv_isub hx hb dX6_fromDepthsOf_42 ?_
      refine ez_top h (fun t_42 h => ?_)
      refine lv_iload hx hb dX6_fromDepthsOf_43 (lv_at hl 0 rfl) ?_
      refine lv_iconst (v := -1) hx hb dX6_fromDepthsOf_45 (by decide) ?_
      refine lv_ixor hx hb dX6_fromDepthsOf_46 ?_
      refine ez_top h (fun t_46 h => ?_)
      refine lv_iand hx hb dX6_fromDepthsOf_47 ?_
      refine ez_top h (fun t_47 h => ?_)
      refine lv_ior hx hb dX6_fromDepthsOf_48 ?_
      refine ez_top h (fun t_48 h => ?_)
      refine lv_istore_n (lv' := [(2, .int t_48), (4, .int t_27), (0, .ref (B + h0)), (1, .int x1), (3, .int x3)]) hx hb dX6_fromDepthsOf_49 rfl hl (by decide) rfl (fun ls hl => ?_)
      obtain ⟨t_50, e_50, h⟩ := ez_let_sp h
      refine lv_iinc (v := t_50) (lv' := [(3, .int t_50), (2, .int t_48), (4, .int t_27), (0, .ref (B + h0)), (1, .int x1)]) hx hb dX6_fromDepthsOf_50 hl (k := 4) rfl (by rw [e_50]; rfl) (by decide) rfl (fun ls hl => ?_)
      refine lv_goto (tgt := 4) hx hb dX6_fromDepthsOf_53 (by decide) ?_
      exact hk_4 h0 x1 t_48 t_50 _ _ _ hS h (lv_sub hl [3, 4, 1, 0] rfl)
  have E_4 : ∀ (h0 : Nat) (x1 : Int32) (x2 : Int32) (x3 : Int32) (H : Heap) (locs : List Loc) (ls : Array Slot), ez_S X B s.heap (n0) σ H locs → (ez_fix (fun _ _ _ _ => none) (z_X6_fromDepthsOf_4 σ) ez_N) h0 x1 x2 x3 = some z → lv_has ls 5 [(0, .ref (B + h0)), (1, .int x1), (2, .int x2), (3, .int x3)] → W p l e R s m args below meth c H locs 0 0 Q (F0 m 4 ls []) := ez_fix_ind (fun k_4 : Nat → Int32 → Int32 → Int32 → Option (Int32) => ∀ (h0 : Nat) (x1 : Int32) (x2 : Int32) (x3 : Int32) (H : Heap) (locs : List Loc) (ls : Array Slot), ez_S X B s.heap (n0) σ H locs → k_4 h0 x1 x2 x3 = some z → lv_has ls 5 [(0, .ref (B + h0)), (1, .int x1), (2, .int x2), (3, .int x3)] → W p l e R s m args below meth c H locs 0 0 Q (F0 m 4 ls [])) (fun _ _ _ _ _ _ _ _ h _ => by cases h) (fun k_4 hk_4 => K_4 k_4 hk_4) ez_N
  refine lv_iconst (v := 0) hx hb dX6_fromDepthsOf_0 (by decide) ?_
  refine lv_istore_n (lv' := [(2, .int 0), (0, .ref (B + h0)), (1, .int x1)]) hx hb dX6_fromDepthsOf_1 rfl hl (by decide) rfl (fun ls hl => ?_)
  refine lv_iconst (v := 0) hx hb dX6_fromDepthsOf_2 (by decide) ?_
  refine lv_istore_n (lv' := [(3, .int 0), (2, .int 0), (0, .ref (B + h0)), (1, .int x1)]) hx hb dX6_fromDepthsOf_3 rfl hl (by decide) rfl (fun ls hl => ?_)
  exact E_4  h0 x1 (0 : Int32) (0 : Int32) _ _ _ hS h (lv_sub hl [2, 3, 1, 0] rfl)
set_option maxHeartbeats 4000000 in
set_option maxRecDepth 100000 in
theorem c_X6_cheapest {l : Launch} {X : ez_X} {B : Nat} {σ : ez_H} {h0 : Nat} {x1 : Int32} {x2 : Int32} {x3 : Int32} {z : Int32} (h : z_X6_cheapest σ h0 x1 x2 x3 = some z) : ez_M l X B σ yX6_cheapest cX6_cheapest 6 (some .int) 1 [.ref (B + h0), .int x1, .int x2, .int x3] (some (.int z)) σ := by
  refine ez_startip (z := z) (by decide) (Nat.le_of_ble_eq_true rfl) (fun p e R s m args below meth c Q hC hret hS ls hl => ?_)
  have hC : ez_C p R s m args c X B RX6 cX6_cheapest 6 1 := hC
  have hx := hC.1.1
  have hb := hC.1.2.1
  have hown := hC.1.2.2.2.1
  have hts := hC.1.2.2.2.2
  have hl : lv_has ls 6 [(0, .ref (B + h0)), (1, .int x1), (2, .int x2), (3, .int x3)] := hl
  obtain ⟨n0, e0⟩ : ∃ n0 : Nat, n0 = σ.length := ⟨_, rfl⟩
  rw [← e0] at hret hS
  obtain ⟨-, h⟩ := ez_in h
  have K_35 : ∀ (k_8 : Nat → Int32 → Int32 → Int32 → Int32 → Option (Int32)) (hk_8 : ∀ (h0 : Nat) (x1 : Int32) (x3 : Int32) (x4 : Int32) (x5 : Int32) (H : Heap) (locs : List Loc) (ls : Array Slot), ez_S X B s.heap (n0) σ H locs → k_8 h0 x1 x3 x4 x5 = some z → lv_has ls 6 [(0, .ref (B + h0)), (1, .int x1), (3, .int x3), (4, .int x4), (5, .int x5)] → W p l e R s m args below meth c H locs 0 0 Q (F0 m 8 ls [])), ∀ (h0 : Nat) (x1 : Int32) (x3 : Int32) (x4 : Int32) (x5 : Int32) (H : Heap) (locs : List Loc) (ls : Array Slot), ez_S X B s.heap (n0) σ H locs → z_X6_cheapest_35 σ k_8 h0 x1 x3 x4 x5 = some z → lv_has ls 6 [(0, .ref (B + h0)), (1, .int x1), (3, .int x3), (4, .int x4), (5, .int x5)] → W p l e R s m args below meth c H locs 0 0 Q (F0 m 35 ls []) := by
    intro k_8 hk_8 h0 x1 x3 x4 x5 H locs ls hS h hl
    obtain ⟨t_35, e_35, h⟩ := ez_let_sp h
    refine lv_iinc (v := t_35) (lv' := [(5, .int t_35), (0, .ref (B + h0)), (1, .int x1), (3, .int x3), (4, .int x4)]) hx hb dX6_cheapest_35 hl (k := 4) rfl (by rw [e_35]; rfl) (by decide) rfl (fun ls hl => ?_)
    refine lv_goto (tgt := 8) hx hb dX6_cheapest_38 (by decide) ?_
    exact hk_8 h0 x1 x3 x4 t_35 _ _ _ hS h (lv_sub hl [1, 2, 3, 4, 0] rfl)
  have K_8 : ∀ (k_8 : Nat → Int32 → Int32 → Int32 → Int32 → Option (Int32)) (hk_8 : ∀ (h0 : Nat) (x1 : Int32) (x3 : Int32) (x4 : Int32) (x5 : Int32) (H : Heap) (locs : List Loc) (ls : Array Slot), ez_S X B s.heap (n0) σ H locs → k_8 h0 x1 x3 x4 x5 = some z → lv_has ls 6 [(0, .ref (B + h0)), (1, .int x1), (3, .int x3), (4, .int x4), (5, .int x5)] → W p l e R s m args below meth c H locs 0 0 Q (F0 m 8 ls [])), ∀ (h0 : Nat) (x1 : Int32) (x3 : Int32) (x4 : Int32) (x5 : Int32) (H : Heap) (locs : List Loc) (ls : Array Slot), ez_S X B s.heap (n0) σ H locs → z_X6_cheapest_8 σ k_8 h0 x1 x3 x4 x5 = some z → lv_has ls 6 [(0, .ref (B + h0)), (1, .int x1), (3, .int x3), (4, .int x4), (5, .int x5)] → W p l e R s m args below meth c H locs 0 0 Q (F0 m 8 ls []) := by
    intro k_8 hk_8 h0 x1 x3 x4 x5 H locs ls hS h hl
    refine lv_iload hx hb dX6_cheapest_8 (lv_at hl 4 rfl) ?_
    refine lv_iload_n hx hb dX6_cheapest_10 rfl (lv_at hl 2 rfl) ?_
    refine lv_icmp_gt (tgt := 41) hx hb dX6_cheapest_11 (by decide) (fun c_11 => ?_) (fun c_11 => ?_)
    · replace h := ez_ifp h c_11
      refine lv_iload hx hb dX6_cheapest_41 (lv_at hl 3 rfl) ?_
      exact hret _ _ _ _ _ (Option.some.inj h) rfl hS dX6_cheapest_43
    · replace h := ez_ifn h c_11
      refine lv_aload_n hx hb dX6_cheapest_14 rfl (lv_at hl 0 rfl) ?_
      refine lv_iload_n hx hb dX6_cheapest_15 rfl (lv_at hl 1 rfl) ?_
      refine lv_iload hx hb dX6_cheapest_16 (lv_at hl 4 rfl) ?_
      refine ez_cVpi (As := [.int x1, .int x5]) (rest := []) h (fun _ q => c_X6_onwardAt q) hC k_X6_onwardAt ql_RX6_79 rfl (by decide) hS (fun _ q => ez_rcv q) rfl hl.1 rfl (Nat.le_of_ble_eq_true rfl) ⟨Nat.zero_le _, Nat.zero_le _⟩ dX6_cheapest_18 (fun t_18 H locs hS h => ?_)
      refine lv_aload_n hx hb dX6_cheapest_21 rfl (lv_at hl 0 rfl) ?_
      refine lv_iload_n hx hb dX6_cheapest_22 rfl (lv_at hl 1 rfl) ?_
      refine lv_iload hx hb dX6_cheapest_23 (lv_at hl 3 rfl) ?_
      refine ez_cVpi (As := [.int x1, .int x4]) (rest := [.int t_18]) h (fun _ q => c_X6_onwardAt q) hC k_X6_onwardAt ql_RX6_79 rfl (by decide) hS (fun _ q => ez_rcv q) rfl hl.1 rfl (Nat.le_of_ble_eq_true rfl) ⟨Nat.zero_le _, Nat.zero_le _⟩ dX6_cheapest_25 (fun t_25 H locs hS h => ?_)
      refine lv_icmp_ge (tgt := 35) hx hb dX6_cheapest_28 (by decide) (fun c_28 => ?_) (fun c_28 => ?_)
      · replace h := ez_ifp h c_28
        exact K_35 k_8 hk_8 h0 x1 x3 x4 x5 _ _ _ hS h (lv_sub hl [0, 1, 2, 3, 4] rfl)
      · replace h := ez_ifn h c_28
        refine lv_iload hx hb dX6_cheapest_31 (lv_at hl 4 rfl) ?_
        refine lv_istore (lv' := [(4, .int x5), (0, .ref (B + h0)), (1, .int x1), (3, .int x3), (5, .int x5)]) hx hb dX6_cheapest_33 hl (by decide) rfl (fun ls hl => ?_)
        exact K_35 k_8 hk_8 h0 x1 x3 x5 x5 _ _ _ hS h (lv_sub hl [1, 2, 3, 0, 4] rfl)
  have E_8 : ∀ (h0 : Nat) (x1 : Int32) (x3 : Int32) (x4 : Int32) (x5 : Int32) (H : Heap) (locs : List Loc) (ls : Array Slot), ez_S X B s.heap (n0) σ H locs → (ez_fix (fun _ _ _ _ _ => none) (z_X6_cheapest_8 σ) ez_N) h0 x1 x3 x4 x5 = some z → lv_has ls 6 [(0, .ref (B + h0)), (1, .int x1), (3, .int x3), (4, .int x4), (5, .int x5)] → W p l e R s m args below meth c H locs 0 0 Q (F0 m 8 ls []) := ez_fix_ind (fun k_8 : Nat → Int32 → Int32 → Int32 → Int32 → Option (Int32) => ∀ (h0 : Nat) (x1 : Int32) (x3 : Int32) (x4 : Int32) (x5 : Int32) (H : Heap) (locs : List Loc) (ls : Array Slot), ez_S X B s.heap (n0) σ H locs → k_8 h0 x1 x3 x4 x5 = some z → lv_has ls 6 [(0, .ref (B + h0)), (1, .int x1), (3, .int x3), (4, .int x4), (5, .int x5)] → W p l e R s m args below meth c H locs 0 0 Q (F0 m 8 ls [])) (fun _ _ _ _ _ _ _ _ _ h _ => by cases h) (fun k_8 hk_8 => K_8 k_8 hk_8) ez_N
  refine lv_iload_n hx hb dX6_cheapest_0 rfl (lv_at hl 2 rfl) ?_
  refine lv_istore (lv' := [(4, .int x2), (0, .ref (B + h0)), (1, .int x1), (2, .int x2), (3, .int x3)]) hx hb dX6_cheapest_1 hl (by decide) rfl (fun ls hl => ?_)
  refine lv_iload_n hx hb dX6_cheapest_3 rfl (lv_at hl 3 rfl) ?_
  refine lv_iconst (v := 1) hx hb dX6_cheapest_4 (by decide) ?_
  refine lv_iadd hx hb dX6_cheapest_5 ?_
  refine ez_top h (fun t_5 h => ?_)
  refine lv_istore (lv' := [(5, .int t_5), (4, .int x2), (0, .ref (B + h0)), (1, .int x1), (2, .int x2), (3, .int x3)]) hx hb dX6_cheapest_6 hl (by decide) rfl (fun ls hl => ?_)
  exact E_8  h0 x1 x3 x2 t_5 _ _ _ hS h (lv_sub hl [2, 3, 5, 1, 0] rfl)
set_option maxHeartbeats 4000000 in
set_option maxRecDepth 100000 in
theorem c_X6_depthBehind {l : Launch} {X : ez_X} {B : Nat} {σ : ez_H} {h0 : Nat} {x1 : Int32} {x2 : Int32} {z : Int32} (h : z_X6_depthBehind σ h0 x1 x2 = some z) : ez_M l X B σ yX6_depthBehind cX6_depthBehind 3 (some .int) 2 [.ref (B + h0), .int x1, .int x2] (some (.int z)) σ := by
  refine ez_startip (z := z) (by decide) (Nat.le_of_ble_eq_true rfl) (fun p e R s m args below meth c Q hC hret hS ls hl => ?_)
  have hC : ez_C p R s m args c X B RX6 cX6_depthBehind 3 2 := hC
  have hx := hC.1.1
  have hb := hC.1.2.1
  have hown := hC.1.2.2.2.1
  have hts := hC.1.2.2.2.2
  have hl : lv_has ls 3 [(0, .ref (B + h0)), (1, .int x1), (2, .int x2)] := hl
  obtain ⟨n0, e0⟩ : ∃ n0 : Nat, n0 = σ.length := ⟨_, rfl⟩
  rw [← e0] at hret hS
  obtain ⟨-, h⟩ := ez_in h
  refine lv_iload_n hx hb dX6_depthBehind_0 rfl (lv_at hl 1 rfl) ?_
  refine lv_iconst (v := 1) hx hb dX6_depthBehind_1 (by decide) ?_
  refine lv_iadd hx hb dX6_depthBehind_2 ?_
  refine ez_top h (fun t_2 h => ?_)
  refine lv_aload_n hx hb dX6_depthBehind_3 rfl (lv_at hl 0 rfl) ?_
  refine eg_RX6_18 hC hS h dX6_depthBehind_4 (fun t_4 h => ?_)
  refine lv_icmp_lt (tgt := 12) hx hb dX6_depthBehind_7 (by decide) (fun c_7 => ?_) (fun c_7 => ?_)
  · replace h := ez_ifp h c_7
    refine lv_aload_n hx hb dX6_depthBehind_12 rfl (lv_at hl 0 rfl) ?_
    refine lv_iload_n hx hb dX6_depthBehind_13 rfl (lv_at hl 1 rfl) ?_
    refine lv_iconst (v := 1) hx hb dX6_depthBehind_14 (by decide) ?_
    refine lv_iadd hx hb dX6_depthBehind_15 ?_
    refine ez_top h (fun t_15 h => ?_)
    refine lv_aload_n hx hb dX6_depthBehind_16 rfl (lv_at hl 0 rfl) ?_
    refine lv_iload_n hx hb dX6_depthBehind_17 rfl (lv_at hl 1 rfl) ?_
    refine lv_iconst (v := 1) hx hb dX6_depthBehind_18 (by decide) ?_
    refine lv_iadd hx hb dX6_depthBehind_19 ?_
    refine ez_top h (fun t_19 h => ?_)
    refine lv_aload_n hx hb dX6_depthBehind_20 rfl (lv_at hl 0 rfl) ?_
    refine lv_iload_n hx hb dX6_depthBehind_21 rfl (lv_at hl 2 rfl) ?_
    refine ez_cVpi (As := [.int x2]) (rest := [.int t_19, .ref (B + h0), .int t_15, .ref (B + h0)]) h (fun _ q => c_X6_lowest q) hC k_X6_lowest ql_RX6_66 rfl (by decide) hS (fun _ q => ez_rcv q) rfl hl.1 rfl (Nat.le_of_ble_eq_true rfl) ⟨Nat.zero_le _, Nat.zero_le _⟩ dX6_depthBehind_22 (fun t_22 H locs hS h => ?_)
    refine lv_aload_n hx hb dX6_depthBehind_25 rfl (lv_at hl 0 rfl) ?_
    refine lv_iload_n hx hb dX6_depthBehind_26 rfl (lv_at hl 2 rfl) ?_
    refine ez_cVpi (As := [.int x2]) (rest := [.int t_22, .int t_19, .ref (B + h0), .int t_15, .ref (B + h0)]) h (fun _ q => c_X6_highest q) hC k_X6_highest ql_RX6_69 rfl (by decide) hS (fun _ q => ez_rcv q) rfl hl.1 rfl (Nat.le_of_ble_eq_true rfl) ⟨Nat.zero_le _, Nat.zero_le _⟩ dX6_depthBehind_27 (fun t_27 H locs hS h => ?_)
    refine ez_cVpi (As := [.int t_19, .int t_22, .int t_27]) (rest := [.int t_15, .ref (B + h0)]) h (fun _ q => c_X6_cheapest q) hC k_X6_cheapest ql_RX6_92 rfl (by decide) hS (fun _ q => ez_rcv q) rfl hl.1 rfl (Nat.le_of_ble_eq_true rfl) ⟨Nat.zero_le _, Nat.zero_le _⟩ dX6_depthBehind_30 (fun t_30 H locs hS h => ?_)
    refine ez_cVpi (As := [.int t_15, .int t_30]) (rest := []) h (fun _ q => c_X6_onwardAt q) hC k_X6_onwardAt ql_RX6_79 rfl (by decide) hS (fun _ q => ez_rcv q) rfl hl.1 rfl (Nat.le_of_ble_eq_true rfl) ⟨Nat.zero_le _, Nat.zero_le _⟩ dX6_depthBehind_33 (fun t_33 H locs hS h => ?_)
    exact hret _ _ _ _ _ (Option.some.inj h) rfl hS dX6_depthBehind_36
  · replace h := ez_ifn h c_7
    refine lv_iconst (v := 0) hx hb dX6_depthBehind_10 (by decide) ?_
    exact hret _ _ _ _ _ (Option.some.inj h) rfl hS dX6_depthBehind_11
set_option maxHeartbeats 4000000 in
set_option maxRecDepth 100000 in
theorem c_X6_shallowest {l : Launch} {X : ez_X} {B : Nat} {σ : ez_H} {h0 : Nat} {x1 : Int32} {z : Int32 × ez_H} (h : z_X6_shallowest σ h0 x1 = some z) : ez_M l X B σ yX6_shallowest cX6_shallowest 7 (some .int) 3 [.ref (B + h0), .int x1] (some (.int z.1)) z.2 := by
  refine ez_starti (z := z) (by decide) (Nat.le_of_ble_eq_true rfl) (fun p e R s m args below meth c Q hC hret hS ls hl => ?_)
  have hC : ez_C p R s m args c X B RX6 cX6_shallowest 7 3 := hC
  have hx := hC.1.1
  have hb := hC.1.2.1
  have hown := hC.1.2.2.2.1
  have hts := hC.1.2.2.2.2
  have hl : lv_has ls 7 [(0, .ref (B + h0)), (1, .int x1)] := hl
  obtain ⟨σ0, eσ⟩ : ∃ σ0 : ez_H, σ0 = σ := ⟨_, rfl⟩
  rw [← eσ] at hret
  have hS : ez_S X B s.heap σ0.length σ s.heap [] := eσ ▸ hS
  obtain ⟨-, h⟩ := ez_in h
  have K_96 : ∀ (k_96 : ez_H → Nat → Int32 → Int32 → Int32 → Int32 → Option (Int32 × ez_H)) (hk_96 : ∀ (σ : ez_H) (h0 : Nat) (x2 : Int32) (x3 : Int32) (x4 : Int32) (x5 : Int32) (H : Heap) (locs : List Loc) (ls : Array Slot), ez_S X B s.heap (σ0.length) σ H locs → k_96 σ h0 x2 x3 x4 x5 = some z → lv_has ls 7 [(0, .ref (B + h0)), (2, .int x2), (3, .int x3), (4, .int x4), (5, .int x5)] → W p l e R s m args below meth c H locs 0 0 Q (F0 m 96 ls [])), ∀ (σ : ez_H) (h0 : Nat) (x2 : Int32) (x3 : Int32) (x4 : Int32) (x5 : Int32) (H : Heap) (locs : List Loc) (ls : Array Slot), ez_S X B s.heap (σ0.length) σ H locs → z_X6_shallowest_96 k_96 σ h0 x2 x3 x4 x5 = some z → lv_has ls 7 [(0, .ref (B + h0)), (2, .int x2), (3, .int x3), (4, .int x4), (5, .int x5)] → W p l e R s m args below meth c H locs 0 0 Q (F0 m 96 ls []) := by
    intro k_96 hk_96 σ h0 x2 x3 x4 x5 H locs ls hS h hl
    refine lv_iload hx hb dX6_shallowest_96 (lv_at hl 4 rfl) ?_
    refine lv_aload_n hx hb dX6_shallowest_98 rfl (lv_at hl 0 rfl) ?_
    refine eg_RX6_18 hC hS h dX6_shallowest_99 (fun t_99 h => ?_)
    refine lv_icmp_ge (tgt := 163) hx hb dX6_shallowest_102 (by decide) (fun c_102 => ?_) (fun c_102 => ?_)
    · replace h := ez_ifp h c_102
      refine lv_iload_n hx hb dX6_shallowest_163 rfl (lv_at hl 1 rfl) ?_
      exact hret _ _ _ _ _ _ (Option.some.inj h) rfl hS dX6_shallowest_164
    · replace h := ez_ifn h c_102
      refine lv_aload_n hx hb dX6_shallowest_105 rfl (lv_at hl 0 rfl) ?_
      refine lv_iload hx hb dX6_shallowest_106 (lv_at hl 4 rfl) ?_
      refine lv_iload_n hx hb dX6_shallowest_108 rfl (lv_at hl 2 rfl) ?_
      refine lv_iload hx hb dX6_shallowest_109 (lv_at hl 3 rfl) ?_
      refine ez_cVpi (As := [.int x5, .int x3, .int x4]) (rest := []) h (fun _ q => c_X6_cheapest q) hC k_X6_cheapest ql_RX6_92 rfl (by decide) hS (fun _ q => ez_rcv q) rfl hl.1 rfl (Nat.le_of_ble_eq_true rfl) ⟨Nat.zero_le _, Nat.zero_le _⟩ dX6_shallowest_111 (fun t_111 H locs hS h => ?_)
      refine lv_istore (lv' := [(6, .int t_111), (0, .ref (B + h0)), (2, .int x2), (3, .int x3), (4, .int x4), (5, .int x5)]) hx hb dX6_shallowest_114 hl (by decide) rfl (fun ls hl => ?_)
      refine lv_aload_n hx hb dX6_shallowest_116 rfl (lv_at hl 1 rfl) ?_
      refine lv_iload hx hb dX6_shallowest_117 (lv_at hl 5 rfl) ?_
      refine lv_iload hx hb dX6_shallowest_119 (lv_at hl 0 rfl) ?_
      refine ez_cVpi (As := [.int x5, .int t_111]) (rest := []) h (fun _ q => c_X6_onwardAt q) hC k_X6_onwardAt ql_RX6_79 rfl (by decide) hS (fun _ q => ez_rcv q) rfl hl.1 rfl (Nat.le_of_ble_eq_true rfl) ⟨Nat.zero_le _, Nat.zero_le _⟩ dX6_shallowest_121 (fun t_121 H locs hS h => ?_)
      refine lv_sipush (v := 1000) hx hb dX6_shallowest_124 (by decide) ?_
      refine lv_icmp_lt (tgt := 132) hx hb dX6_shallowest_127 (by decide) (fun c_127 => ?_) (fun c_127 => ?_)
      · replace h := ez_ifp h c_127
        refine lv_iload_n hx hb dX6_shallowest_132 rfl (lv_at hl 2 rfl) ?_
        refine lv_iload hx hb dX6_shallowest_133 (lv_at hl 5 rfl) ?_
        refine lv_iload hx hb dX6_shallowest_135 (lv_at hl 0 rfl) ?_
        refine ez_cSpi (As := [.int x5, .int t_111]) (rest := [.int x2]) h (fun _ q => c_X6_notch q) hC k_X6_notch ql_RX6_44 rfl (by decide) hS hl.1 rfl (Nat.le_of_ble_eq_true rfl) ⟨Nat.zero_le _, Nat.zero_le _⟩ dX6_shallowest_137 (fun t_137 H locs hS h => ?_)
        refine lv_ior hx hb dX6_shallowest_140 ?_
        refine ez_top h (fun t_140 h => ?_)
        refine lv_istore_n (lv' := [(2, .int t_140), (6, .int t_111), (0, .ref (B + h0)), (3, .int x3), (4, .int x4), (5, .int x5)]) hx hb dX6_shallowest_141 rfl hl (by decide) rfl (fun ls hl => ?_)
        refine lv_aload_n hx hb dX6_shallowest_142 rfl (lv_at hl 2 rfl) ?_
        refine lv_iload hx hb dX6_shallowest_143 (lv_at hl 1 rfl) ?_
        refine ez_cVpi (As := [.int t_111]) (rest := []) h (fun _ q => c_X6_lowest q) hC k_X6_lowest ql_RX6_66 rfl (by decide) hS (fun _ q => ez_rcv q) rfl hl.1 rfl (Nat.le_of_ble_eq_true rfl) ⟨Nat.zero_le _, Nat.zero_le _⟩ dX6_shallowest_145 (fun t_145 H locs hS h => ?_)
        refine lv_istore_n (lv' := [(3, .int t_145), (2, .int t_140), (6, .int t_111), (0, .ref (B + h0)), (4, .int x4), (5, .int x5)]) hx hb dX6_shallowest_148 rfl hl (by decide) rfl (fun ls hl => ?_)
        refine lv_aload_n hx hb dX6_shallowest_149 rfl (lv_at hl 3 rfl) ?_
        refine lv_iload hx hb dX6_shallowest_150 (lv_at hl 2 rfl) ?_
        refine ez_cVpi (As := [.int t_111]) (rest := []) h (fun _ q => c_X6_highest q) hC k_X6_highest ql_RX6_69 rfl (by decide) hS (fun _ q => ez_rcv q) rfl hl.1 rfl (Nat.le_of_ble_eq_true rfl) ⟨Nat.zero_le _, Nat.zero_le _⟩ dX6_shallowest_152 (fun t_152 H locs hS h => ?_)
        refine lv_istore (lv' := [(4, .int t_152), (3, .int t_145), (2, .int t_140), (6, .int t_111), (0, .ref (B + h0)), (5, .int x5)]) hx hb dX6_shallowest_155 hl (by decide) rfl (fun ls hl => ?_)
        obtain ⟨t_157, e_157, h⟩ := ez_let_sp h
        refine lv_iinc (v := t_157) (lv' := [(5, .int t_157), (4, .int t_152), (3, .int t_145), (2, .int t_140), (6, .int t_111), (0, .ref (B + h0))]) hx hb dX6_shallowest_157 hl (k := 5) rfl (by rw [e_157]; rfl) (by decide) rfl (fun ls hl => ?_)
        refine lv_goto (tgt := 96) hx hb dX6_shallowest_160 (by decide) ?_
        exact hk_96 σ h0 t_140 t_145 t_152 t_157 _ _ _ hS h (lv_sub hl [5, 3, 2, 1, 0] rfl)
      · replace h := ez_ifn h c_127
        refine lv_iconst (v := 0) hx hb dX6_shallowest_130 (by decide) ?_
        exact hret _ _ _ _ _ _ (Option.some.inj h) rfl hS dX6_shallowest_131
  have E_96 : ∀ (σ : ez_H) (h0 : Nat) (x2 : Int32) (x3 : Int32) (x4 : Int32) (x5 : Int32) (H : Heap) (locs : List Loc) (ls : Array Slot), ez_S X B s.heap (σ0.length) σ H locs → (ez_fix (fun _ _ _ _ _ _ => none) (z_X6_shallowest_96) ez_N) σ h0 x2 x3 x4 x5 = some z → lv_has ls 7 [(0, .ref (B + h0)), (2, .int x2), (3, .int x3), (4, .int x4), (5, .int x5)] → W p l e R s m args below meth c H locs 0 0 Q (F0 m 96 ls []) := ez_fix_ind (fun k_96 : ez_H → Nat → Int32 → Int32 → Int32 → Int32 → Option (Int32 × ez_H) => ∀ (σ : ez_H) (h0 : Nat) (x2 : Int32) (x3 : Int32) (x4 : Int32) (x5 : Int32) (H : Heap) (locs : List Loc) (ls : Array Slot), ez_S X B s.heap (σ0.length) σ H locs → k_96 σ h0 x2 x3 x4 x5 = some z → lv_has ls 7 [(0, .ref (B + h0)), (2, .int x2), (3, .int x3), (4, .int x4), (5, .int x5)] → W p l e R s m args below meth c H locs 0 0 Q (F0 m 96 ls [])) (fun _ _ _ _ _ _ _ _ _ _ h _ => by cases h) (fun k_96 hk_96 => K_96 k_96 hk_96) ez_N
  have K_66 : ∀ (k_7 : ez_H → Nat → Int32 → Int32 → Option (Int32 × ez_H)) (hk_7 : ∀ (σ : ez_H) (h0 : Nat) (x1 : Int32) (x2 : Int32) (H : Heap) (locs : List Loc) (ls : Array Slot), ez_S X B s.heap (σ0.length) σ H locs → k_7 σ h0 x1 x2 = some z → lv_has ls 7 [(0, .ref (B + h0)), (1, .int x1), (2, .int x2)] → W p l e R s m args below meth c H locs 0 0 Q (F0 m 7 ls [])) (k_13 : ez_H → Nat → Int32 → Int32 → Int32 → Option (Int32 × ez_H)) (hk_13 : ∀ (σ : ez_H) (h0 : Nat) (x1 : Int32) (x2 : Int32) (x3 : Int32) (H : Heap) (locs : List Loc) (ls : Array Slot), ez_S X B s.heap (σ0.length) σ H locs → k_13 σ h0 x1 x2 x3 = some z → lv_has ls 7 [(0, .ref (B + h0)), (1, .int x1), (2, .int x2), (3, .int x3)] → W p l e R s m args below meth c H locs 0 0 Q (F0 m 13 ls [])), ∀ (σ : ez_H) (h0 : Nat) (x1 : Int32) (x2 : Int32) (x3 : Int32) (y0 : Nat) (y1 : Int32) (y2 : Int32) (y3 : Int32) (H : Heap) (locs : List Loc) (ls : Array Slot), ez_S X B s.heap (σ0.length) σ H locs → z_X6_shallowest_66 k_7 k_13 σ h0 x1 x2 x3 y0 y1 y2 y3 = some z → lv_has ls 7 [(0, .ref (B + h0)), (1, .int x1), (2, .int x2), (3, .int x3)] → W p l e R s m args below meth c H locs 0 0 Q (F0 m 66 ls [.int y3, .int y2, .int y1, .ref (B + y0)]) := by
    intro k_7 hk_7 k_13 hk_13 σ h0 x1 x2 x3 y0 y1 y2 y3 H locs ls hS h hl
    refine ez_cVv (As := [.int y1, .int y2, .int y3]) (rest := []) h (fun _ q => c_X6_putOnward q) hC k_X6_putOnward ql_RX6_75 rfl (by decide) hS (fun _ q => ez_rcv q) rfl hl.1 rfl (Nat.le_of_ble_eq_true rfl) ⟨Nat.zero_le _, Nat.zero_le _⟩ dX6_shallowest_66 (fun _ σ H locs hS h => ?_)
    obtain ⟨t_69, e_69, h⟩ := ez_let_sp h
    refine lv_iinc (v := t_69) (lv' := [(3, .int t_69), (0, .ref (B + h0)), (1, .int x1), (2, .int x2)]) hx hb dX6_shallowest_69 hl (k := 3) rfl (by rw [e_69]; rfl) (by decide) rfl (fun ls hl => ?_)
    refine lv_goto (tgt := 13) hx hb dX6_shallowest_72 (by decide) ?_
    exact hk_13 σ h0 x1 x2 t_69 _ _ _ hS h (lv_sub hl [1, 2, 3, 0] rfl)
  have K_36 : ∀ (k_7 : ez_H → Nat → Int32 → Int32 → Option (Int32 × ez_H)) (hk_7 : ∀ (σ : ez_H) (h0 : Nat) (x1 : Int32) (x2 : Int32) (H : Heap) (locs : List Loc) (ls : Array Slot), ez_S X B s.heap (σ0.length) σ H locs → k_7 σ h0 x1 x2 = some z → lv_has ls 7 [(0, .ref (B + h0)), (1, .int x1), (2, .int x2)] → W p l e R s m args below meth c H locs 0 0 Q (F0 m 7 ls [])) (k_13 : ez_H → Nat → Int32 → Int32 → Int32 → Option (Int32 × ez_H)) (hk_13 : ∀ (σ : ez_H) (h0 : Nat) (x1 : Int32) (x2 : Int32) (x3 : Int32) (H : Heap) (locs : List Loc) (ls : Array Slot), ez_S X B s.heap (σ0.length) σ H locs → k_13 σ h0 x1 x2 x3 = some z → lv_has ls 7 [(0, .ref (B + h0)), (1, .int x1), (2, .int x2), (3, .int x3)] → W p l e R s m args below meth c H locs 0 0 Q (F0 m 13 ls [])), ∀ (σ : ez_H) (h0 : Nat) (x1 : Int32) (x2 : Int32) (x3 : Int32) (y0 : Int32) (H : Heap) (locs : List Loc) (ls : Array Slot), ez_S X B s.heap (σ0.length) σ H locs → z_X6_shallowest_36 k_7 k_13 σ h0 x1 x2 x3 y0 = some z → lv_has ls 7 [(0, .ref (B + h0)), (1, .int x1), (2, .int x2), (3, .int x3)] → W p l e R s m args below meth c H locs 0 0 Q (F0 m 36 ls [.int y0]) := by
    intro k_7 hk_7 k_13 hk_13 σ h0 x1 x2 x3 y0 H locs ls hS h hl
    refine lv_istore (lv' := [(4, .int y0), (0, .ref (B + h0)), (1, .int x1), (2, .int x2), (3, .int x3)]) hx hb dX6_shallowest_36 hl (by decide) rfl (fun ls hl => ?_)
    refine lv_aload_n hx hb dX6_shallowest_38 rfl (lv_at hl 1 rfl) ?_
    refine lv_iload_n hx hb dX6_shallowest_39 rfl (lv_at hl 3 rfl) ?_
    refine lv_iload_n hx hb dX6_shallowest_40 rfl (lv_at hl 4 rfl) ?_
    refine lv_iload hx hb dX6_shallowest_41 (lv_at hl 0 rfl) ?_
    refine lv_if_eq (tgt := 63) hx hb dX6_shallowest_43 (by decide) (fun c_43 => ?_) (fun c_43 => ?_)
    · replace h := ez_ifp h c_43
      refine lv_sipush (v := 1000) hx hb dX6_shallowest_63 (by decide) ?_
      exact K_66 k_7 hk_7 k_13 hk_13 σ h0 x1 x2 x3 h0 x2 x3 (1000 : Int32) _ _ _ hS h (lv_sub hl [1, 2, 3, 4] rfl)
    · replace h := ez_ifn h c_43
      refine lv_sipush (v := 1000) hx hb dX6_shallowest_46 (by decide) ?_
      refine lv_iload_n hx hb dX6_shallowest_49 rfl (lv_at hl 4 rfl) ?_
      refine lv_aload_n hx hb dX6_shallowest_50 rfl (lv_at hl 1 rfl) ?_
      refine lv_iload_n hx hb dX6_shallowest_51 rfl (lv_at hl 3 rfl) ?_
      refine lv_iload_n hx hb dX6_shallowest_52 rfl (lv_at hl 4 rfl) ?_
      refine ez_cVpi (As := [.int x2, .int x3]) (rest := [.int x3, .int 1000, .int x3, .int x2, .ref (B + h0)]) h (fun _ q => c_X6_depthBehind q) hC k_X6_depthBehind ql_RX6_89 rfl (by decide) hS (fun _ q => ez_rcv q) rfl hl.1 rfl (Nat.le_of_ble_eq_true rfl) ⟨Nat.zero_le _, Nat.zero_le _⟩ dX6_shallowest_53 (fun t_53 H locs hS h => ?_)
      refine lv_iadd hx hb dX6_shallowest_56 ?_
      refine ez_top h (fun t_56 h => ?_)
      refine va_mmin hx hb (hC.1.2.2.1.trans hl.1.symm) hown (hts _ ql_RX6_52) (hts _ qm_min_s) (hts _ qm_i) (hts _ qm_min_c) (Nat.le_trans (by decide) hC.2.2.1) (Nat.le_trans (Nat.le_of_ble_eq_true rfl) hC.2.2.2.1) (Nat.zero_le _) (Nat.zero_le _) dX6_shallowest_57 ?_
      refine ez_top h (fun t_57 h => ?_)
      refine lv_goto (tgt := 66) hx hb dX6_shallowest_60 (by decide) ?_
      exact K_66 k_7 hk_7 k_13 hk_13 σ h0 x1 x2 x3 h0 x2 x3 t_57 _ _ _ hS h (lv_sub hl [1, 2, 3, 4] rfl)
  have K_13 : ∀ (k_7 : ez_H → Nat → Int32 → Int32 → Option (Int32 × ez_H)) (hk_7 : ∀ (σ : ez_H) (h0 : Nat) (x1 : Int32) (x2 : Int32) (H : Heap) (locs : List Loc) (ls : Array Slot), ez_S X B s.heap (σ0.length) σ H locs → k_7 σ h0 x1 x2 = some z → lv_has ls 7 [(0, .ref (B + h0)), (1, .int x1), (2, .int x2)] → W p l e R s m args below meth c H locs 0 0 Q (F0 m 7 ls [])) (k_13 : ez_H → Nat → Int32 → Int32 → Int32 → Option (Int32 × ez_H)) (hk_13 : ∀ (σ : ez_H) (h0 : Nat) (x1 : Int32) (x2 : Int32) (x3 : Int32) (H : Heap) (locs : List Loc) (ls : Array Slot), ez_S X B s.heap (σ0.length) σ H locs → k_13 σ h0 x1 x2 x3 = some z → lv_has ls 7 [(0, .ref (B + h0)), (1, .int x1), (2, .int x2), (3, .int x3)] → W p l e R s m args below meth c H locs 0 0 Q (F0 m 13 ls [])), ∀ (σ : ez_H) (h0 : Nat) (x1 : Int32) (x2 : Int32) (x3 : Int32) (H : Heap) (locs : List Loc) (ls : Array Slot), ez_S X B s.heap (σ0.length) σ H locs → z_X6_shallowest_13 k_7 k_13 σ h0 x1 x2 x3 = some z → lv_has ls 7 [(0, .ref (B + h0)), (1, .int x1), (2, .int x2), (3, .int x3)] → W p l e R s m args below meth c H locs 0 0 Q (F0 m 13 ls []) := by
    intro k_7 hk_7 k_13 hk_13 σ h0 x1 x2 x3 H locs ls hS h hl
    refine lv_iload_n hx hb dX6_shallowest_13 rfl (lv_at hl 3 rfl) ?_
    refine lv_aload_n hx hb dX6_shallowest_14 rfl (lv_at hl 0 rfl) ?_
    refine eg_RX6_22 hC hS h dX6_shallowest_15 (fun t_15 h => ?_)
    refine lv_icmp_ge (tgt := 75) hx hb dX6_shallowest_18 (by decide) (fun c_18 => ?_) (fun c_18 => ?_)
    · replace h := ez_ifp h c_18
      obtain ⟨t_75, e_75, h⟩ := ez_let_sp h
      refine lv_iinc (v := t_75) (lv' := [(2, .int t_75), (0, .ref (B + h0)), (1, .int x1), (3, .int x3)]) hx hb dX6_shallowest_75 hl (k := 2) rfl (by rw [e_75]; rfl) (by decide) rfl (fun ls hl => ?_)
      refine lv_goto (tgt := 7) hx hb dX6_shallowest_78 (by decide) ?_
      exact hk_7 σ h0 x1 t_75 _ _ _ hS h (lv_sub hl [1, 2, 0] rfl)
    · replace h := ez_ifn h c_18
      refine lv_iload_n hx hb dX6_shallowest_21 rfl (lv_at hl 1 rfl) ?_
      refine lv_iload_n hx hb dX6_shallowest_22 rfl (lv_at hl 2 rfl) ?_
      refine lv_iload_n hx hb dX6_shallowest_23 rfl (lv_at hl 3 rfl) ?_
      refine ez_cSpi (As := [.int x2, .int x3]) (rest := [.int x1]) h (fun _ q => c_X6_notch q) hC k_X6_notch ql_RX6_44 rfl (by decide) hS hl.1 rfl (Nat.le_of_ble_eq_true rfl) ⟨Nat.zero_le _, Nat.zero_le _⟩ dX6_shallowest_24 (fun t_24 H locs hS h => ?_)
      refine lv_iand hx hb dX6_shallowest_27 ?_
      refine ez_top h (fun t_27 h => ?_)
      refine lv_if_eq (tgt := 35) hx hb dX6_shallowest_28 (by decide) (fun c_28 => ?_) (fun c_28 => ?_)
      · replace h := ez_ifp h c_28
        refine lv_iconst (v := 0) hx hb dX6_shallowest_35 (by decide) ?_
        exact K_36 k_7 hk_7 k_13 hk_13 σ h0 x1 x2 x3 (0 : Int32) _ _ _ hS h (lv_sub hl [0, 1, 2, 3] rfl)
      · replace h := ez_ifn h c_28
        refine lv_iconst (v := 1) hx hb dX6_shallowest_31 (by decide) ?_
        refine lv_goto (tgt := 36) hx hb dX6_shallowest_32 (by decide) ?_
        exact K_36 k_7 hk_7 k_13 hk_13 σ h0 x1 x2 x3 (1 : Int32) _ _ _ hS h (lv_sub hl [0, 1, 2, 3] rfl)
  have E_13 : ∀ (k_7 : ez_H → Nat → Int32 → Int32 → Option (Int32 × ez_H)) (hk_7 : ∀ (σ : ez_H) (h0 : Nat) (x1 : Int32) (x2 : Int32) (H : Heap) (locs : List Loc) (ls : Array Slot), ez_S X B s.heap (σ0.length) σ H locs → k_7 σ h0 x1 x2 = some z → lv_has ls 7 [(0, .ref (B + h0)), (1, .int x1), (2, .int x2)] → W p l e R s m args below meth c H locs 0 0 Q (F0 m 7 ls [])), ∀ (σ : ez_H) (h0 : Nat) (x1 : Int32) (x2 : Int32) (x3 : Int32) (H : Heap) (locs : List Loc) (ls : Array Slot), ez_S X B s.heap (σ0.length) σ H locs → (ez_fix (fun _ _ _ _ _ => none) (z_X6_shallowest_13 k_7) ez_N) σ h0 x1 x2 x3 = some z → lv_has ls 7 [(0, .ref (B + h0)), (1, .int x1), (2, .int x2), (3, .int x3)] → W p l e R s m args below meth c H locs 0 0 Q (F0 m 13 ls []) := fun k_7 hk_7 => ez_fix_ind (fun k_13 : ez_H → Nat → Int32 → Int32 → Int32 → Option (Int32 × ez_H) => ∀ (σ : ez_H) (h0 : Nat) (x1 : Int32) (x2 : Int32) (x3 : Int32) (H : Heap) (locs : List Loc) (ls : Array Slot), ez_S X B s.heap (σ0.length) σ H locs → k_13 σ h0 x1 x2 x3 = some z → lv_has ls 7 [(0, .ref (B + h0)), (1, .int x1), (2, .int x2), (3, .int x3)] → W p l e R s m args below meth c H locs 0 0 Q (F0 m 13 ls [])) (fun _ _ _ _ _ _ _ _ _ h _ => by cases h) (fun k_13 hk_13 => K_13 k_7 hk_7 k_13 hk_13) ez_N
  have K_7 : ∀ (k_7 : ez_H → Nat → Int32 → Int32 → Option (Int32 × ez_H)) (hk_7 : ∀ (σ : ez_H) (h0 : Nat) (x1 : Int32) (x2 : Int32) (H : Heap) (locs : List Loc) (ls : Array Slot), ez_S X B s.heap (σ0.length) σ H locs → k_7 σ h0 x1 x2 = some z → lv_has ls 7 [(0, .ref (B + h0)), (1, .int x1), (2, .int x2)] → W p l e R s m args below meth c H locs 0 0 Q (F0 m 7 ls [])), ∀ (σ : ez_H) (h0 : Nat) (x1 : Int32) (x2 : Int32) (H : Heap) (locs : List Loc) (ls : Array Slot), ez_S X B s.heap (σ0.length) σ H locs → z_X6_shallowest_7 k_7 σ h0 x1 x2 = some z → lv_has ls 7 [(0, .ref (B + h0)), (1, .int x1), (2, .int x2)] → W p l e R s m args below meth c H locs 0 0 Q (F0 m 7 ls []) := by
    intro k_7 hk_7 σ h0 x1 x2 H locs ls hS h hl
    refine lv_iload_n hx hb dX6_shallowest_7 rfl (lv_at hl 2 rfl) ?_
    refine lv_if_lt (tgt := 81) hx hb dX6_shallowest_8 (by decide) (fun c_8 => ?_) (fun c_8 => ?_)
    · replace h := ez_ifp h c_8
      refine lv_iconst (v := 0) hx hb dX6_shallowest_81 (by decide) ?_
      refine lv_istore_n (lv' := [(2, .int 0), (0, .ref (B + h0)), (1, .int x1)]) hx hb dX6_shallowest_82 rfl hl (by decide) rfl (fun ls hl => ?_)
      refine lv_iconst (v := 0) hx hb dX6_shallowest_83 (by decide) ?_
      refine lv_istore_n (lv' := [(3, .int 0), (2, .int 0), (0, .ref (B + h0)), (1, .int x1)]) hx hb dX6_shallowest_84 rfl hl (by decide) rfl (fun ls hl => ?_)
      refine lv_aload_n hx hb dX6_shallowest_85 rfl (lv_at hl 2 rfl) ?_
      refine eg_RX6_22 hC hS h dX6_shallowest_86 (fun t_86 h => ?_)
      refine lv_iconst (v := 1) hx hb dX6_shallowest_89 (by decide) ?_
      refine lv_isub hx hb dX6_shallowest_90 ?_
      refine ez_top h (fun t_90 h => ?_)
      refine lv_istore (lv' := [(4, .int t_90), (3, .int 0), (2, .int 0), (0, .ref (B + h0)), (1, .int x1)]) hx hb dX6_shallowest_91 hl (by decide) rfl (fun ls hl => ?_)
      refine lv_iconst (v := 0) hx hb dX6_shallowest_93 (by decide) ?_
      refine lv_istore (lv' := [(5, .int 0), (4, .int t_90), (3, .int 0), (2, .int 0), (0, .ref (B + h0)), (1, .int x1)]) hx hb dX6_shallowest_94 hl (by decide) rfl (fun ls hl => ?_)
      exact E_96  σ h0 (0 : Int32) (0 : Int32) t_90 (0 : Int32) _ _ _ hS h (lv_sub hl [4, 3, 2, 1, 0] rfl)
    · replace h := ez_ifn h c_8
      refine lv_iconst (v := 0) hx hb dX6_shallowest_11 (by decide) ?_
      refine lv_istore_n (lv' := [(3, .int 0), (0, .ref (B + h0)), (1, .int x1), (2, .int x2)]) hx hb dX6_shallowest_12 rfl hl (by decide) rfl (fun ls hl => ?_)
      exact E_13 k_7 hk_7 σ h0 x1 x2 (0 : Int32) _ _ _ hS h (lv_sub hl [1, 2, 3, 0] rfl)
  have E_7 : ∀ (σ : ez_H) (h0 : Nat) (x1 : Int32) (x2 : Int32) (H : Heap) (locs : List Loc) (ls : Array Slot), ez_S X B s.heap (σ0.length) σ H locs → (ez_fix (fun _ _ _ _ => none) (z_X6_shallowest_7) ez_N) σ h0 x1 x2 = some z → lv_has ls 7 [(0, .ref (B + h0)), (1, .int x1), (2, .int x2)] → W p l e R s m args below meth c H locs 0 0 Q (F0 m 7 ls []) := ez_fix_ind (fun k_7 : ez_H → Nat → Int32 → Int32 → Option (Int32 × ez_H) => ∀ (σ : ez_H) (h0 : Nat) (x1 : Int32) (x2 : Int32) (H : Heap) (locs : List Loc) (ls : Array Slot), ez_S X B s.heap (σ0.length) σ H locs → k_7 σ h0 x1 x2 = some z → lv_has ls 7 [(0, .ref (B + h0)), (1, .int x1), (2, .int x2)] → W p l e R s m args below meth c H locs 0 0 Q (F0 m 7 ls [])) (fun _ _ _ _ _ _ _ _ h _ => by cases h) (fun k_7 hk_7 => K_7 k_7 hk_7) ez_N
  refine lv_aload_n hx hb dX6_shallowest_0 rfl (lv_at hl 0 rfl) ?_
  refine eg_RX6_18 hC hS h dX6_shallowest_1 (fun t_1 h => ?_)
  refine lv_iconst (v := 1) hx hb dX6_shallowest_4 (by decide) ?_
  refine lv_isub hx hb dX6_shallowest_5 ?_
  refine ez_top h (fun t_5 h => ?_)
  refine lv_istore_n (lv' := [(2, .int t_5), (0, .ref (B + h0)), (1, .int x1)]) hx hb dX6_shallowest_6 rfl hl (by decide) rfl (fun ls hl => ?_)
  exact E_7  σ h0 x1 t_5 _ _ _ hS h (lv_sub hl [1, 2, 0] rfl)
set_option maxHeartbeats 4000000 in
set_option maxRecDepth 100000 in
theorem c_X6_apart {l : Launch} {X : ez_X} {B : Nat} {σ : ez_H} {h0 : Nat} {x1 : Int32} {x2 : Int32} {z : Int32} (h : z_X6_apart σ h0 x1 x2 = some z) : ez_M l X B σ yX6_apart cX6_apart 5 (some .int) 2 [.ref (B + h0), .int x1, .int x2] (some (.int z)) σ := by
  refine ez_startip (z := z) (by decide) (Nat.le_of_ble_eq_true rfl) (fun p e R s m args below meth c Q hC hret hS ls hl => ?_)
  have hC : ez_C p R s m args c X B RX6 cX6_apart 5 2 := hC
  have hx := hC.1.1
  have hb := hC.1.2.1
  have hown := hC.1.2.2.2.1
  have hts := hC.1.2.2.2.2
  have hl : lv_has ls 5 [(0, .ref (B + h0)), (1, .int x1), (2, .int x2)] := hl
  obtain ⟨n0, e0⟩ : ∃ n0 : Nat, n0 = σ.length := ⟨_, rfl⟩
  rw [← e0] at hret hS
  obtain ⟨-, h⟩ := ez_in h
  have K_5 : ∀ (k_5 : Nat → Int32 → Int32 → Int32 → Int32 → Option (Int32)) (hk_5 : ∀ (h0 : Nat) (x1 : Int32) (x2 : Int32) (x3 : Int32) (x4 : Int32) (H : Heap) (locs : List Loc) (ls : Array Slot), ez_S X B s.heap (n0) σ H locs → k_5 h0 x1 x2 x3 x4 = some z → lv_has ls 5 [(0, .ref (B + h0)), (1, .int x1), (2, .int x2), (3, .int x3), (4, .int x4)] → W p l e R s m args below meth c H locs 0 0 Q (F0 m 5 ls [])), ∀ (h0 : Nat) (x1 : Int32) (x2 : Int32) (x3 : Int32) (x4 : Int32) (H : Heap) (locs : List Loc) (ls : Array Slot), ez_S X B s.heap (n0) σ H locs → z_X6_apart_5 σ k_5 h0 x1 x2 x3 x4 = some z → lv_has ls 5 [(0, .ref (B + h0)), (1, .int x1), (2, .int x2), (3, .int x3), (4, .int x4)] → W p l e R s m args below meth c H locs 0 0 Q (F0 m 5 ls []) := by
    intro k_5 hk_5 h0 x1 x2 x3 x4 H locs ls hS h hl
    refine lv_iload hx hb dX6_apart_5 (lv_at hl 4 rfl) ?_
    refine lv_aload_n hx hb dX6_apart_7 rfl (lv_at hl 0 rfl) ?_
    refine eg_RX6_18 hC hS h dX6_apart_8 (fun t_8 h => ?_)
    refine lv_icmp_ge (tgt := 41) hx hb dX6_apart_11 (by decide) (fun c_11 => ?_) (fun c_11 => ?_)
    · replace h := ez_ifp h c_11
      refine lv_iload_n hx hb dX6_apart_41 rfl (lv_at hl 3 rfl) ?_
      exact hret _ _ _ _ _ (Option.some.inj h) rfl hS dX6_apart_42
    · replace h := ez_ifn h c_11
      refine lv_iload_n hx hb dX6_apart_14 rfl (lv_at hl 3 rfl) ?_
      refine lv_aload_n hx hb dX6_apart_15 rfl (lv_at hl 0 rfl) ?_
      refine lv_iload_n hx hb dX6_apart_16 rfl (lv_at hl 1 rfl) ?_
      refine lv_iload hx hb dX6_apart_17 (lv_at hl 4 rfl) ?_
      refine ez_cVpi (As := [.int x1, .int x4]) (rest := [.int x3]) h (fun _ q => c_X6_depthAt q) hC k_X6_depthAt ql_RX6_41 rfl (by decide) hS (fun _ q => ez_rcv q) rfl hl.1 rfl (Nat.le_of_ble_eq_true rfl) ⟨Nat.zero_le _, Nat.zero_le _⟩ dX6_apart_19 (fun t_19 H locs hS h => ?_)
      refine lv_aload_n hx hb dX6_apart_22 rfl (lv_at hl 0 rfl) ?_
      refine lv_iload_n hx hb dX6_apart_23 rfl (lv_at hl 2 rfl) ?_
      refine lv_iload hx hb dX6_apart_24 (lv_at hl 4 rfl) ?_
      refine ez_cVpi (As := [.int x2, .int x4]) (rest := [.int t_19, .int x3]) h (fun _ q => c_X6_depthAt q) hC k_X6_depthAt ql_RX6_41 rfl (by decide) hS (fun _ q => ez_rcv q) rfl hl.1 rfl (Nat.le_of_ble_eq_true rfl) ⟨Nat.zero_le _, Nat.zero_le _⟩ dX6_apart_26 (fun t_26 H locs hS h => ?_)
      refine lv_isub hx hb dX6_apart_29 ?_
      refine ez_top h (fun t_29 h => ?_)
      refine va_mabs hx hb (hC.1.2.2.1.trans hl.1.symm) hown (hts _ ql_RX6_59) (hts _ qm_abs_s) (hts _ qm_i) (hts _ qm_abs_c) (Nat.le_trans (by decide) hC.2.2.1) (Nat.le_trans (Nat.le_of_ble_eq_true rfl) hC.2.2.2.1) (Nat.zero_le _) (Nat.zero_le _) dX6_apart_30 ?_
      refine ez_top h (fun t_30 h => ?_)
      refine lv_iadd hx hb dX6_apart_33 ?_
      refine ez_top h (fun t_33 h => ?_)
      refine lv_istore_n (lv' := [(3, .int t_33), (0, .ref (B + h0)), (1, .int x1), (2, .int x2), (4, .int x4)]) hx hb dX6_apart_34 rfl hl (by decide) rfl (fun ls hl => ?_)
      obtain ⟨t_35, e_35, h⟩ := ez_let_sp h
      refine lv_iinc (v := t_35) (lv' := [(4, .int t_35), (3, .int t_33), (0, .ref (B + h0)), (1, .int x1), (2, .int x2)]) hx hb dX6_apart_35 hl (k := 4) rfl (by rw [e_35]; rfl) (by decide) rfl (fun ls hl => ?_)
      refine lv_goto (tgt := 5) hx hb dX6_apart_38 (by decide) ?_
      exact hk_5 h0 x1 x2 t_33 t_35 _ _ _ hS h (lv_sub hl [2, 3, 4, 1, 0] rfl)
  have E_5 : ∀ (h0 : Nat) (x1 : Int32) (x2 : Int32) (x3 : Int32) (x4 : Int32) (H : Heap) (locs : List Loc) (ls : Array Slot), ez_S X B s.heap (n0) σ H locs → (ez_fix (fun _ _ _ _ _ => none) (z_X6_apart_5 σ) ez_N) h0 x1 x2 x3 x4 = some z → lv_has ls 5 [(0, .ref (B + h0)), (1, .int x1), (2, .int x2), (3, .int x3), (4, .int x4)] → W p l e R s m args below meth c H locs 0 0 Q (F0 m 5 ls []) := ez_fix_ind (fun k_5 : Nat → Int32 → Int32 → Int32 → Int32 → Option (Int32) => ∀ (h0 : Nat) (x1 : Int32) (x2 : Int32) (x3 : Int32) (x4 : Int32) (H : Heap) (locs : List Loc) (ls : Array Slot), ez_S X B s.heap (n0) σ H locs → k_5 h0 x1 x2 x3 x4 = some z → lv_has ls 5 [(0, .ref (B + h0)), (1, .int x1), (2, .int x2), (3, .int x3), (4, .int x4)] → W p l e R s m args below meth c H locs 0 0 Q (F0 m 5 ls [])) (fun _ _ _ _ _ _ _ _ _ h _ => by cases h) (fun k_5 hk_5 => K_5 k_5 hk_5) ez_N
  refine lv_iconst (v := 0) hx hb dX6_apart_0 (by decide) ?_
  refine lv_istore_n (lv' := [(3, .int 0), (0, .ref (B + h0)), (1, .int x1), (2, .int x2)]) hx hb dX6_apart_1 rfl hl (by decide) rfl (fun ls hl => ?_)
  refine lv_iconst (v := 0) hx hb dX6_apart_2 (by decide) ?_
  refine lv_istore (lv' := [(4, .int 0), (3, .int 0), (0, .ref (B + h0)), (1, .int x1), (2, .int x2)]) hx hb dX6_apart_3 hl (by decide) rfl (fun ls hl => ?_)
  exact E_5  h0 x1 x2 (0 : Int32) (0 : Int32) _ _ _ hS h (lv_sub hl [2, 3, 4, 1, 0] rfl)
set_option maxHeartbeats 4000000 in
set_option maxRecDepth 100000 in
theorem c_X11_filing {l : Launch} {X : ez_X} {B : Nat} {σ : ez_H} {h0 : Nat} {x1 : Int32} {x2 : Int32} {x3 : Int32} {z : Int32 × ez_H} (h : z_X11_filing σ h0 x1 x2 x3 = some z) : ez_M l X B σ yX11_filing cX11_filing 6 (some .int) 4 [.ref (B + h0), .int x1, .int x2, .int x3] (some (.int z.1)) z.2 := by
  refine ez_starti (z := z) (by decide) (Nat.le_of_ble_eq_true rfl) (fun p e R s m args below meth c Q hC hret hS ls hl => ?_)
  have hC : ez_C p R s m args c X B RX11 cX11_filing 6 4 := hC
  have hx := hC.1.1
  have hb := hC.1.2.1
  have hown := hC.1.2.2.2.1
  have hts := hC.1.2.2.2.2
  have hl : lv_has ls 6 [(0, .ref (B + h0)), (1, .int x1), (2, .int x2), (3, .int x3)] := hl
  obtain ⟨σ0, eσ⟩ : ∃ σ0 : ez_H, σ0 = σ := ⟨_, rfl⟩
  rw [← eσ] at hret
  have hS : ez_S X B s.heap σ0.length σ s.heap [] := eσ ▸ hS
  obtain ⟨-, h⟩ := ez_in h
  have K_22 : ∀ (σ : ez_H) (H : Heap) (locs : List Loc) (ls : Array Slot), ez_S X B s.heap (σ0.length) σ H locs → z_X11_filing_22 σ = some z → lv_has ls 6 [] → W p l e R s m args below meth c H locs 0 0 Q (F0 m 22 ls []) := by
    intro σ H locs ls hS h hl
    refine lv_iconst (v := -1) hx hb dX11_filing_22 (by decide) ?_
    exact hret _ _ _ _ _ _ (Option.some.inj h) rfl hS dX11_filing_23
  refine lv_aload_n hx hb dX11_filing_0 rfl (lv_at hl 0 rfl) ?_
  refine eg_RX11_29 hC hS h dX11_filing_1 (fun t_1 h => ?_)
  refine lv_iload_n hx hb dX11_filing_4 rfl (lv_at hl 1 rfl) ?_
  refine ez_cVpi (As := [.int x1]) (rest := []) h (fun _ q => c_X3_hasKey q) hC k_X3_hasKey ql_RX11_137 rfl (by decide) hS (fun _ q => ez_rcv q) rfl hl.1 rfl (Nat.le_of_ble_eq_true rfl) ⟨Nat.zero_le _, Nat.zero_le _⟩ dX11_filing_5 (fun t_5 H locs hS h => ?_)
  refine lv_if_eq (tgt := 22) hx hb dX11_filing_8 (by decide) (fun c_8 => ?_) (fun c_8 => ?_)
  · replace h := ez_ifp h c_8
    exact K_22  σ _ _ _ hS h (lv_sub hl [] rfl)
  · replace h := ez_ifn h c_8
    refine lv_aload_n hx hb dX11_filing_11 rfl (lv_at hl 0 rfl) ?_
    refine eg_RX11_29 hC hS h dX11_filing_12 (fun t_12 h => ?_)
    refine lv_iload_n hx hb dX11_filing_15 rfl (lv_at hl 2 rfl) ?_
    refine ez_cVpi (As := [.int x2]) (rest := []) h (fun _ q => c_X3_hasLock q) hC k_X3_hasLock ql_RX11_165 rfl (by decide) hS (fun _ q => ez_rcv q) rfl hl.1 rfl (Nat.le_of_ble_eq_true rfl) ⟨Nat.zero_le _, Nat.zero_le _⟩ dX11_filing_16 (fun t_16 H locs hS h => ?_)
    refine lv_if_ne (tgt := 24) hx hb dX11_filing_19 (by decide) (fun c_19 => ?_) (fun c_19 => ?_)
    · replace h := ez_ifn h c_19
      refine lv_aload_n hx hb dX11_filing_24 rfl (lv_at hl 0 rfl) ?_
      refine eg_RX11_41 hC hS h dX11_filing_25 (fun t_25 h => ?_)
      refine lv_iload_n hx hb dX11_filing_28 rfl (lv_at hl 1 rfl) ?_
      refine ez_cVpi (As := [.int x1]) (rest := []) h (fun _ q => c_X7_bits q) hC k_X7_bits ql_RX11_140 rfl (by decide) hS (fun _ q => ez_rcv q) rfl hl.1 rfl (Nat.le_of_ble_eq_true rfl) ⟨Nat.zero_le _, Nat.zero_le _⟩ dX11_filing_29 (fun t_29 H locs hS h => ?_)
      refine lv_istore (lv' := [(4, .int t_29), (0, .ref (B + h0)), (1, .int x1), (2, .int x2), (3, .int x3)]) hx hb dX11_filing_32 hl (by decide) rfl (fun ls hl => ?_)
      refine lv_aload_n hx hb dX11_filing_34 rfl (lv_at hl 1 rfl) ?_
      refine eg_RX11_37 hC hS h dX11_filing_35 (fun t_35 h => ?_)
      refine lv_aload_n hx hb dX11_filing_38 rfl (lv_at hl 1 rfl) ?_
      refine eg_RX11_41 hC hS h dX11_filing_39 (fun t_39 h => ?_)
      refine lv_iload_n hx hb dX11_filing_42 rfl (lv_at hl 3 rfl) ?_
      refine ez_cVpi (As := [.int x2]) (rest := [.ref (B + t_35)]) h (fun _ q => c_X7_pins q) hC k_X7_pins ql_RX11_168 rfl (by decide) hS (fun _ q => ez_rcv q) rfl hl.1 rfl (Nat.le_of_ble_eq_true rfl) ⟨Nat.zero_le _, Nat.zero_le _⟩ dX11_filing_43 (fun t_43 H locs hS h => ?_)
      refine lv_aload_n hx hb dX11_filing_46 rfl (lv_at hl 1 rfl) ?_
      refine eg_RX11_37 hC hS h dX11_filing_47 (fun t_47 h => ?_)
      refine lv_iload hx hb dX11_filing_50 (lv_at hl 0 rfl) ?_
      refine ez_cVpi (As := [.int t_29]) (rest := [.int t_43, .ref (B + t_35)]) h (fun _ q => c_X6_fromDepthsOf q) hC k_X6_fromDepthsOf ql_RX11_337 rfl (by decide) hS (fun _ q => ez_rcv q) rfl hl.1 rfl (Nat.le_of_ble_eq_true rfl) ⟨Nat.zero_le _, Nat.zero_le _⟩ dX11_filing_52 (fun t_52 H locs hS h => ?_)
      refine lv_iand hx hb dX11_filing_55 ?_
      refine ez_top h (fun t_55 h => ?_)
      refine ez_cVi (As := [.int t_55]) (rest := []) h (fun _ q => c_X6_shallowest q) hC k_X6_shallowest ql_RX11_340 rfl (by decide) hS (fun _ q => ez_rcv q) rfl hl.1 rfl (Nat.le_of_ble_eq_true rfl) ⟨Nat.zero_le _, Nat.zero_le _⟩ dX11_filing_56 (fun t_56 σ H locs hS h => ?_)
      refine lv_istore (lv' := [(5, .int t_56), (4, .int t_29), (0, .ref (B + h0)), (1, .int x1), (2, .int x2), (3, .int x3)]) hx hb dX11_filing_59 hl (by decide) rfl (fun ls hl => ?_)
      refine lv_iload hx hb dX11_filing_61 (lv_at hl 0 rfl) ?_
      refine lv_if_ne (tgt := 68) hx hb dX11_filing_63 (by decide) (fun c_63 => ?_) (fun c_63 => ?_)
      · replace h := ez_ifn h c_63
        refine lv_iload_n hx hb dX11_filing_68 rfl (lv_at hl 5 rfl) ?_
        by_cases s_69_0 : x3 = 0
        · replace h := ez_ifp h s_69_0
          refine lv_lookup (tgt := 96) hx hb dX11_filing_69 (by decide) (by first | (rw [s_69_0]; done) | (rw [s_69_0]; rfl)) (by decide) ?_
          refine lv_aload_n hx hb dX11_filing_96 rfl (lv_at hl 2 rfl) ?_
          refine eg_RX11_37 hC hS h dX11_filing_97 (fun t_97 h => ?_)
          refine lv_iload hx hb dX11_filing_100 (lv_at hl 1 rfl) ?_
          refine lv_iload hx hb dX11_filing_102 (lv_at hl 0 rfl) ?_
          refine ez_cVpi (As := [.int t_29, .int t_56]) (rest := []) h (fun _ q => c_X6_apart q) hC k_X6_apart ql_RX11_343 rfl (by decide) hS (fun _ q => ez_rcv q) rfl hl.1 rfl (Nat.le_of_ble_eq_true rfl) ⟨Nat.zero_le _, Nat.zero_le _⟩ dX11_filing_104 (fun t_104 H locs hS h => ?_)
          exact hret _ _ _ _ _ _ (Option.some.inj h) rfl hS dX11_filing_107
        replace h := ez_ifn h s_69_0
        by_cases s_69_1 : x3 = 1
        · replace h := ez_ifp h s_69_1
          refine lv_lookup (tgt := 108) hx hb dX11_filing_69 (by decide) (by first | (rw [s_69_1]; done) | (rw [s_69_1]; rfl)) (by decide) ?_
          refine lv_aload_n hx hb dX11_filing_108 rfl (lv_at hl 2 rfl) ?_
          refine eg_RX11_37 hC hS h dX11_filing_109 (fun t_109 h => ?_)
          refine lv_iload hx hb dX11_filing_112 (lv_at hl 0 rfl) ?_
          refine ez_cVpi (As := [.int t_56]) (rest := []) h (fun _ q => c_X6_numberOf q) hC k_X6_numberOf ql_RX11_144 rfl (by decide) hS (fun _ q => ez_rcv q) rfl hl.1 rfl (Nat.le_of_ble_eq_true rfl) ⟨Nat.zero_le _, Nat.zero_le _⟩ dX11_filing_114 (fun t_114 H locs hS h => ?_)
          exact hret _ _ _ _ _ _ (Option.some.inj h) rfl hS dX11_filing_117
        replace h := ez_ifn h s_69_1
        refine lv_lookup (off := 49) (tgt := 118) hx hb dX11_filing_69 (by decide) (by simp only [Op.lookupswitch.offset_cons, Op.lookupswitch.offset_nil]; rw [if_neg (fun q => ez_toNe (k := 0) s_69_0 (by decide) q.symm), if_neg (fun q => ez_toNe (k := 1) s_69_1 (by decide) q.symm)]) (by decide) ?_
        refine lv_iconst (v := -1) hx hb dX11_filing_118 (by decide) ?_
        exact hret _ _ _ _ _ _ (Option.some.inj h) rfl hS dX11_filing_119
      · replace h := ez_ifp h c_63
        refine lv_iconst (v := -1) hx hb dX11_filing_66 (by decide) ?_
        exact hret _ _ _ _ _ _ (Option.some.inj h) rfl hS dX11_filing_67
    · replace h := ez_ifp h c_19
      exact K_22  σ _ _ _ hS h (lv_sub hl [] rfl)
set_option maxHeartbeats 4000000 in
set_option maxRecDepth 100000 in
theorem c_X3_hasPerson {l : Launch} {X : ez_X} {B : Nat} {σ : ez_H} {h0 : Nat} {x1 : Int32} {z : Int32} (h : z_X3_hasPerson σ h0 x1 = some z) : ez_M l X B σ yX3_hasPerson cX3_hasPerson 2 (some .boolean) 0 [.ref (B + h0), .int x1] (some (.int z)) σ := by
  refine ez_startip (z := z) (by decide) (Nat.le_of_ble_eq_true rfl) (fun p e R s m args below meth c Q hC hret hS ls hl => ?_)
  have hC : ez_C p R s m args c X B RX3 cX3_hasPerson 2 0 := hC
  have hx := hC.1.1
  have hb := hC.1.2.1
  have hown := hC.1.2.2.2.1
  have hts := hC.1.2.2.2.2
  have hl : lv_has ls 2 [(0, .ref (B + h0)), (1, .int x1)] := hl
  obtain ⟨n0, e0⟩ : ∃ n0 : Nat, n0 = σ.length := ⟨_, rfl⟩
  rw [← e0] at hret hS
  obtain ⟨-, h⟩ := ez_in h
  have K_17 : ∀ (y0 : Int32) (H : Heap) (locs : List Loc) (ls : Array Slot), ez_S X B s.heap (n0) σ H locs → z_X3_hasPerson_17 σ y0 = some z → lv_has ls 2 [] → W p l e R s m args below meth c H locs 0 0 Q (F0 m 17 ls [.int y0]) := by
    intro y0 H locs ls hS h hl
    obtain ⟨hn, h⟩ := ez_nr_sp rfl h
    exact hret _ _ _ _ _ (Option.some.inj h) hn hS dX3_hasPerson_17
  have K_16 : ∀ (H : Heap) (locs : List Loc) (ls : Array Slot), ez_S X B s.heap (n0) σ H locs → z_X3_hasPerson_16 σ = some z → lv_has ls 2 [] → W p l e R s m args below meth c H locs 0 0 Q (F0 m 16 ls []) := by
    intro  H locs ls hS h hl
    refine lv_iconst (v := 0) hx hb dX3_hasPerson_16 (by decide) ?_
    exact K_17  (0 : Int32) _ _ _ hS h (lv_sub hl [] rfl)
  refine lv_iload_n hx hb dX3_hasPerson_0 rfl (lv_at hl 1 rfl) ?_
  refine lv_if_lt (tgt := 16) hx hb dX3_hasPerson_1 (by decide) (fun c_1 => ?_) (fun c_1 => ?_)
  · replace h := ez_ifp h c_1
    exact K_16   _ _ _ hS h (lv_sub hl [] rfl)
  · replace h := ez_ifn h c_1
    refine lv_iload_n hx hb dX3_hasPerson_4 rfl (lv_at hl 1 rfl) ?_
    refine lv_aload_n hx hb dX3_hasPerson_5 rfl (lv_at hl 0 rfl) ?_
    refine eg_RX3_68 hC hS h dX3_hasPerson_6 (fun t_6 h => ?_)
    refine lv_icmp_ge (tgt := 16) hx hb dX3_hasPerson_9 (by decide) (fun c_9 => ?_) (fun c_9 => ?_)
    · replace h := ez_ifp h c_9
      exact K_16   _ _ _ hS h (lv_sub hl [] rfl)
    · replace h := ez_ifn h c_9
      refine lv_iconst (v := 1) hx hb dX3_hasPerson_12 (by decide) ?_
      refine lv_goto (tgt := 17) hx hb dX3_hasPerson_13 (by decide) ?_
      exact K_17  (1 : Int32) _ _ _ hS h (lv_sub hl [] rfl)
