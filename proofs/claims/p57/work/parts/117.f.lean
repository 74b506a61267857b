set_option maxHeartbeats 4000000 in
set_option maxRecDepth 100000 in
theorem c_X2_sharedReach {l : Launch} {X : ez_X} {B : Nat} {σ : ez_H} {h0 : Nat} {x1 : Int32} {z : Int32 × ez_H} (h : z_X2_sharedReach σ h0 x1 = some z) : ez_M l X B σ yX2_sharedReach cX2_sharedReach 6 (some .int) 5 [.ref (B + h0), .int x1] (some (.int z.1)) z.2 := by
  refine ez_starti (z := z) (by decide) (Nat.le_of_ble_eq_true rfl) (fun p e R s m args below meth c Q hC hret hS ls hl => ?_)
  have hC : ez_C p R s m args c X B RX2 cX2_sharedReach 6 5 := hC
  have hx := hC.1.1
  have hb := hC.1.2.1
  have hown := hC.1.2.2.2.1
  have hts := hC.1.2.2.2.2
  have hl : lv_has ls 6 [(0, .ref (B + h0)), (1, .int x1)] := hl
  obtain ⟨σ0, eσ⟩ : ∃ σ0 : ez_H, σ0 = σ := ⟨_, rfl⟩
  rw [← eσ] at hret
  have hS : ez_S X B s.heap σ0.length σ s.heap [] := eσ ▸ hS
  obtain ⟨-, h⟩ := ez_in h
  have K_115 : ∀ (σ : ez_H) (h0 : Nat) (x1 : Int32) (H : Heap) (locs : List Loc) (ls : Array Slot), ez_S X B s.heap (σ0.length) σ H locs → z_X2_sharedReach_115 σ h0 x1 = some z → lv_has ls 6 [(0, .ref (B + h0)), (1, .int x1)] → W p l e R s m args below meth c H locs 0 0 Q (F0 m 115 ls []) := by
    intro σ h0 x1 H locs ls hS h hl
    refine lv_aload_n hx hb dX2_sharedReach_115 rfl (lv_at hl 0 rfl) ?_
    refine lv_iload_n hx hb dX2_sharedReach_116 rfl (lv_at hl 1 rfl) ?_
    refine lv_aload_n hx hb dX2_sharedReach_117 rfl (lv_at hl 0 rfl) ?_
    refine lv_iload_n hx hb dX2_sharedReach_118 rfl (lv_at hl 1 rfl) ?_
    refine ez_cVpi (As := [.int x1]) (rest := [.int x1, .ref (B + h0)]) h (fun _ q => c_X2_bunchOf q) hC k_X2_bunchOf ql_RX2_126 rfl (by decide) hS (fun _ q => ez_rcv q) rfl hl.1 rfl (Nat.le_of_ble_eq_true rfl) ⟨Nat.zero_le _, Nat.zero_le _⟩ dX2_sharedReach_119 (fun t_119 H locs hS h => ?_)
    refine ez_cVpi (As := [.int x1, .int t_119]) (rest := []) h (fun _ q => c_X2_reachWith q) hC k_X2_reachWith ql_RX2_81 rfl (by decide) hS (fun _ q => ez_rcv q) rfl hl.1 rfl (Nat.le_of_ble_eq_true rfl) ⟨Nat.zero_le _, Nat.zero_le _⟩ dX2_sharedReach_122 (fun t_122 H locs hS h => ?_)
    exact hret _ _ _ _ _ _ (Option.some.inj h) rfl hS dX2_sharedReach_125
  have K_79 : ∀ (k_49 : ez_H → Nat → Int32 → Int32 → Int32 → Option (Int32 × ez_H)) (hk_49 : ∀ (σ : ez_H) (h0 : Nat) (x1 : Int32) (x2 : Int32) (x3 : Int32) (H : Heap) (locs : List Loc) (ls : Array Slot), ez_S X B s.heap (σ0.length) σ H locs → k_49 σ h0 x1 x2 x3 = some z → lv_has ls 6 [(0, .ref (B + h0)), (1, .int x1), (2, .int x2), (3, .int x3)] → W p l e R s m args below meth c H locs 0 0 Q (F0 m 49 ls [])) (k_64 : ez_H → Nat → Int32 → Int32 → Int32 → Int32 → Option (Int32 × ez_H)) (hk_64 : ∀ (σ : ez_H) (h0 : Nat) (x1 : Int32) (x2 : Int32) (x3 : Int32) (x4 : Int32) (H : Heap) (locs : List Loc) (ls : Array Slot), ez_S X B s.heap (σ0.length) σ H locs → k_64 σ h0 x1 x2 x3 x4 = some z → lv_has ls 6 [(0, .ref (B + h0)), (1, .int x1), (2, .int x2), (3, .int x3), (4, .int x4)] → W p l e R s m args below meth c H locs 0 0 Q (F0 m 64 ls [])) (k_79 : ez_H → Nat → Int32 → Int32 → Int32 → Int32 → Int32 → Option (Int32 × ez_H)) (hk_79 : ∀ (σ : ez_H) (h0 : Nat) (x1 : Int32) (x2 : Int32) (x3 : Int32) (x4 : Int32) (x5 : Int32) (H : Heap) (locs : List Loc) (ls : Array Slot), ez_S X B s.heap (σ0.length) σ H locs → k_79 σ h0 x1 x2 x3 x4 x5 = some z → lv_has ls 6 [(0, .ref (B + h0)), (1, .int x1), (2, .int x2), (3, .int x3), (4, .int x4), (5, .int x5)] → W p l e R s m args below meth c H locs 0 0 Q (F0 m 79 ls [])), ∀ (σ : ez_H) (h0 : Nat) (x1 : Int32) (x2 : Int32) (x3 : Int32) (x4 : Int32) (x5 : Int32) (H : Heap) (locs : List Loc) (ls : Array Slot), ez_S X B s.heap (σ0.length) σ H locs → z_X2_sharedReach_79 k_49 k_64 k_79 σ h0 x1 x2 x3 x4 x5 = some z → lv_has ls 6 [(0, .ref (B + h0)), (1, .int x1), (2, .int x2), (3, .int x3), (4, .int x4), (5, .int x5)] → W p l e R s m args below meth c H locs 0 0 Q (F0 m 79 ls []) := by
    intro k_49 hk_49 k_64 hk_64 k_79 hk_79 σ h0 x1 x2 x3 x4 x5 H locs ls hS h hl
    refine lv_iload hx hb dX2_sharedReach_79 (lv_at hl 5 rfl) ?_
    refine lv_iload hx hb dX2_sharedReach_81 (lv_at hl 4 rfl) ?_
    refine lv_icmp_ge (tgt := 103) hx hb dX2_sharedReach_83 (by decide) (fun c_83 => ?_) (fun c_83 => ?_)
    · replace h := ez_ifp h c_83
      obtain ⟨t_103, e_103, h⟩ := ez_let_sp h
      refine lv_iinc (v := t_103) (lv' := [(4, .int t_103), (0, .ref (B + h0)), (1, .int x1), (2, .int x2), (3, .int x3), (5, .int x5)]) hx hb dX2_sharedReach_103 hl (k := 4) rfl (by rw [e_103]; rfl) (by decide) rfl (fun ls hl => ?_)
      refine lv_goto (tgt := 64) hx hb dX2_sharedReach_106 (by decide) ?_
      exact hk_64 σ h0 x1 x2 x3 t_103 _ _ _ hS h (lv_sub hl [1, 2, 3, 4, 0] rfl)
    · replace h := ez_ifn h c_83
      refine lv_iload_n hx hb dX2_sharedReach_86 rfl (lv_at hl 2 rfl) ?_
      refine lv_aload_n hx hb dX2_sharedReach_87 rfl (lv_at hl 0 rfl) ?_
      refine lv_iload hx hb dX2_sharedReach_88 (lv_at hl 4 rfl) ?_
      refine lv_iload hx hb dX2_sharedReach_90 (lv_at hl 5 rfl) ?_
      refine ez_cVi (As := [.int x4, .int x5]) (rest := [.int x2]) h (fun _ q => c_X2_handOn q) hC k_X2_handOn ql_RX2_123 rfl (by decide) hS (fun _ q => ez_rcv q) rfl hl.1 rfl (Nat.le_of_ble_eq_true rfl) ⟨Nat.zero_le _, Nat.zero_le _⟩ dX2_sharedReach_92 (fun t_92 σ H locs hS h => ?_)
      refine lv_ior hx hb dX2_sharedReach_95 ?_
      refine ez_top h (fun t_95 h => ?_)
      refine lv_istore_n (lv' := [(2, .int t_95), (0, .ref (B + h0)), (1, .int x1), (3, .int x3), (4, .int x4), (5, .int x5)]) hx hb dX2_sharedReach_96 rfl hl (by decide) rfl (fun ls hl => ?_)
      obtain ⟨t_97, e_97, h⟩ := ez_let_sp h
      refine lv_iinc (v := t_97) (lv' := [(5, .int t_97), (2, .int t_95), (0, .ref (B + h0)), (1, .int x1), (3, .int x3), (4, .int x4)]) hx hb dX2_sharedReach_97 hl (k := 5) rfl (by rw [e_97]; rfl) (by decide) rfl (fun ls hl => ?_)
      refine lv_goto (tgt := 79) hx hb dX2_sharedReach_100 (by decide) ?_
      exact hk_79 σ h0 x1 t_95 x3 x4 t_97 _ _ _ hS h (lv_sub hl [2, 3, 1, 4, 5, 0] rfl)
  have E_79 : ∀ (k_49 : ez_H → Nat → Int32 → Int32 → Int32 → Option (Int32 × ez_H)) (hk_49 : ∀ (σ : ez_H) (h0 : Nat) (x1 : Int32) (x2 : Int32) (x3 : Int32) (H : Heap) (locs : List Loc) (ls : Array Slot), ez_S X B s.heap (σ0.length) σ H locs → k_49 σ h0 x1 x2 x3 = some z → lv_has ls 6 [(0, .ref (B + h0)), (1, .int x1), (2, .int x2), (3, .int x3)] → W p l e R s m args below meth c H locs 0 0 Q (F0 m 49 ls [])) (k_64 : ez_H → Nat → Int32 → Int32 → Int32 → Int32 → Option (Int32 × ez_H)) (hk_64 : ∀ (σ : ez_H) (h0 : Nat) (x1 : Int32) (x2 : Int32) (x3 : Int32) (x4 : Int32) (H : Heap) (locs : List Loc) (ls : Array Slot), ez_S X B s.heap (σ0.length) σ H locs → k_64 σ h0 x1 x2 x3 x4 = some z → lv_has ls 6 [(0, .ref (B + h0)), (1, .int x1), (2, .int x2), (3, .int x3), (4, .int x4)] → W p l e R s m args below meth c H locs 0 0 Q (F0 m 64 ls [])), ∀ (σ : ez_H) (h0 : Nat) (x1 : Int32) (x2 : Int32) (x3 : Int32) (x4 : Int32) (x5 : Int32) (H : Heap) (locs : List Loc) (ls : Array Slot), ez_S X B s.heap (σ0.length) σ H locs → (ez_fix (fun _ _ _ _ _ _ _ => none) (z_X2_sharedReach_79 k_49 k_64) ez_N) σ h0 x1 x2 x3 x4 x5 = some z → lv_has ls 6 [(0, .ref (B + h0)), (1, .int x1), (2, .int x2), (3, .int x3), (4, .int x4), (5, .int x5)] → W p l e R s m args below meth c H locs 0 0 Q (F0 m 79 ls []) := fun k_49 hk_49 k_64 hk_64 => ez_fix_ind (fun k_79 : ez_H → Nat → Int32 → Int32 → Int32 → Int32 → Int32 → Option (Int32 × ez_H) => ∀ (σ : ez_H) (h0 : Nat) (x1 : Int32) (x2 : Int32) (x3 : Int32) (x4 : Int32) (x5 : Int32) (H : Heap) (locs : List Loc) (ls : Array Slot), ez_S X B s.heap (σ0.length) σ H locs → k_79 σ h0 x1 x2 x3 x4 x5 = some z → lv_has ls 6 [(0, .ref (B + h0)), (1, .int x1), (2, .int x2), (3, .int x3), (4, .int x4), (5, .int x5)] → W p l e R s m args below meth c H locs 0 0 Q (F0 m 79 ls [])) (fun _ _ _ _ _ _ _ _ _ _ _ h _ => by cases h) (fun k_79 hk_79 => K_79 k_49 hk_49 k_64 hk_64 k_79 hk_79) ez_N
  have K_64 : ∀ (k_49 : ez_H → Nat → Int32 → Int32 → Int32 → Option (Int32 × ez_H)) (hk_49 : ∀ (σ : ez_H) (h0 : Nat) (x1 : Int32) (x2 : Int32) (x3 : Int32) (H : Heap) (locs : List Loc) (ls : Array Slot), ez_S X B s.heap (σ0.length) σ H locs → k_49 σ h0 x1 x2 x3 = some z → lv_has ls 6 [(0, .ref (B + h0)), (1, .int x1), (2, .int x2), (3, .int x3)] → W p l e R s m args below meth c H locs 0 0 Q (F0 m 49 ls [])) (k_64 : ez_H → Nat → Int32 → Int32 → Int32 → Int32 → Option (Int32 × ez_H)) (hk_64 : ∀ (σ : ez_H) (h0 : Nat) (x1 : Int32) (x2 : Int32) (x3 : Int32) (x4 : Int32) (H : Heap) (locs : List Loc) (ls : Array Slot), ez_S X B s.heap (σ0.length) σ H locs → k_64 σ h0 x1 x2 x3 x4 = some z → lv_has ls 6 [(0, .ref (B + h0)), (1, .int x1), (2, .int x2), (3, .int x3), (4, .int x4)] → W p l e R s m args below meth c H locs 0 0 Q (F0 m 64 ls [])), ∀ (σ : ez_H) (h0 : Nat) (x1 : Int32) (x2 : Int32) (x3 : Int32) (x4 : Int32) (H : Heap) (locs : List Loc) (ls : Array Slot), ez_S X B s.heap (σ0.length) σ H locs → z_X2_sharedReach_64 k_49 k_64 σ h0 x1 x2 x3 x4 = some z → lv_has ls 6 [(0, .ref (B + h0)), (1, .int x1), (2, .int x2), (3, .int x3), (4, .int x4)] → W p l e R s m args below meth c H locs 0 0 Q (F0 m 64 ls []) := by
    intro k_49 hk_49 k_64 hk_64 σ h0 x1 x2 x3 x4 H locs ls hS h hl
    refine lv_iload hx hb dX2_sharedReach_64 (lv_at hl 4 rfl) ?_
    refine lv_aload_n hx hb dX2_sharedReach_66 rfl (lv_at hl 0 rfl) ?_
    refine eg_RX2_9 hC hS h dX2_sharedReach_67 (fun t_67 h => ?_)
    refine eg_RX2_120 hC hS h dX2_sharedReach_70 (fun t_70 h => ?_)
    refine lv_icmp_ge (tgt := 109) hx hb dX2_sharedReach_73 (by decide) (fun c_73 => ?_) (fun c_73 => ?_)
    · replace h := ez_ifp h c_73
      obtain ⟨t_109, e_109, h⟩ := ez_let_sp h
      refine lv_iinc (v := t_109) (lv' := [(3, .int t_109), (0, .ref (B + h0)), (1, .int x1), (2, .int x2), (4, .int x4)]) hx hb dX2_sharedReach_109 hl (k := 3) rfl (by rw [e_109]; rfl) (by decide) rfl (fun ls hl => ?_)
      refine lv_goto (tgt := 49) hx hb dX2_sharedReach_112 (by decide) ?_
      exact hk_49 σ h0 x1 x2 t_109 _ _ _ hS h (lv_sub hl [1, 2, 3, 0] rfl)
    · replace h := ez_ifn h c_73
      refine lv_iconst (v := 0) hx hb dX2_sharedReach_76 (by decide) ?_
      refine lv_istore (lv' := [(5, .int 0), (0, .ref (B + h0)), (1, .int x1), (2, .int x2), (3, .int x3), (4, .int x4)]) hx hb dX2_sharedReach_77 hl (by decide) rfl (fun ls hl => ?_)
      exact E_79 k_49 hk_49 k_64 hk_64 σ h0 x1 x2 x3 x4 (0 : Int32) _ _ _ hS h (lv_sub hl [1, 2, 3, 4, 5, 0] rfl)
  have E_64 : ∀ (k_49 : ez_H → Nat → Int32 → Int32 → Int32 → Option (Int32 × ez_H)) (hk_49 : ∀ (σ : ez_H) (h0 : Nat) (x1 : Int32) (x2 : Int32) (x3 : Int32) (H : Heap) (locs : List Loc) (ls : Array Slot), ez_S X B s.heap (σ0.length) σ H locs → k_49 σ h0 x1 x2 x3 = some z → lv_has ls 6 [(0, .ref (B + h0)), (1, .int x1), (2, .int x2), (3, .int x3)] → W p l e R s m args below meth c H locs 0 0 Q (F0 m 49 ls [])), ∀ (σ : ez_H) (h0 : Nat) (x1 : Int32) (x2 : Int32) (x3 : Int32) (x4 : Int32) (H : Heap) (locs : List Loc) (ls : Array Slot), ez_S X B s.heap (σ0.length) σ H locs → (ez_fix (fun _ _ _ _ _ _ => none) (z_X2_sharedReach_64 k_49) ez_N) σ h0 x1 x2 x3 x4 = some z → lv_has ls 6 [(0, .ref (B + h0)), (1, .int x1), (2, .int x2), (3, .int x3), (4, .int x4)] → W p l e R s m args below meth c H locs 0 0 Q (F0 m 64 ls []) := fun k_49 hk_49 => ez_fix_ind (fun k_64 : ez_H → Nat → Int32 → Int32 → Int32 → Int32 → Option (Int32 × ez_H) => ∀ (σ : ez_H) (h0 : Nat) (x1 : Int32) (x2 : Int32) (x3 : Int32) (x4 : Int32) (H : Heap) (locs : List Loc) (ls : Array Slot), ez_S X B s.heap (σ0.length) σ H locs → k_64 σ h0 x1 x2 x3 x4 = some z → lv_has ls 6 [(0, .ref (B + h0)), (1, .int x1), (2, .int x2), (3, .int x3), (4, .int x4)] → W p l e R s m args below meth c H locs 0 0 Q (F0 m 64 ls [])) (fun _ _ _ _ _ _ _ _ _ _ h _ => by cases h) (fun k_64 hk_64 => K_64 k_49 hk_49 k_64 hk_64) ez_N
  have K_49 : ∀ (k_49 : ez_H → Nat → Int32 → Int32 → Int32 → Option (Int32 × ez_H)) (hk_49 : ∀ (σ : ez_H) (h0 : Nat) (x1 : Int32) (x2 : Int32) (x3 : Int32) (H : Heap) (locs : List Loc) (ls : Array Slot), ez_S X B s.heap (σ0.length) σ H locs → k_49 σ h0 x1 x2 x3 = some z → lv_has ls 6 [(0, .ref (B + h0)), (1, .int x1), (2, .int x2), (3, .int x3)] → W p l e R s m args below meth c H locs 0 0 Q (F0 m 49 ls [])), ∀ (σ : ez_H) (h0 : Nat) (x1 : Int32) (x2 : Int32) (x3 : Int32) (H : Heap) (locs : List Loc) (ls : Array Slot), ez_S X B s.heap (σ0.length) σ H locs → z_X2_sharedReach_49 k_49 σ h0 x1 x2 x3 = some z → lv_has ls 6 [(0, .ref (B + h0)), (1, .int x1), (2, .int x2), (3, .int x3)] → W p l e R s m args below meth c H locs 0 0 Q (F0 m 49 ls []) := by
    intro k_49 hk_49 σ h0 x1 x2 x3 H locs ls hS h hl
    refine lv_iload_n hx hb dX2_sharedReach_49 rfl (lv_at hl 3 rfl) ?_
    refine lv_bipush (v := 32) hx hb dX2_sharedReach_50 (by decide) ?_
    refine lv_icmp_gt (tgt := 115) hx hb dX2_sharedReach_52 (by decide) (fun c_52 => ?_) (fun c_52 => ?_)
    · replace h := ez_ifp h c_52
      exact K_115  σ h0 x1 _ _ _ hS h (lv_sub hl [0, 1] rfl)
    · replace h := ez_ifn h c_52
      refine lv_iload_n hx hb dX2_sharedReach_55 rfl (lv_at hl 2 rfl) ?_
      refine lv_if_eq (tgt := 115) hx hb dX2_sharedReach_56 (by decide) (fun c_56 => ?_) (fun c_56 => ?_)
      · replace h := ez_ifp h c_56
        exact K_115  σ h0 x1 _ _ _ hS h (lv_sub hl [0, 1] rfl)
      · replace h := ez_ifn h c_56
        refine lv_iconst (v := 0) hx hb dX2_sharedReach_59 (by decide) ?_
        refine lv_istore_n (lv' := [(2, .int 0), (0, .ref (B + h0)), (1, .int x1), (3, .int x3)]) hx hb dX2_sharedReach_60 rfl hl (by decide) rfl (fun ls hl => ?_)
        refine lv_iconst (v := 0) hx hb dX2_sharedReach_61 (by decide) ?_
        refine lv_istore (lv' := [(4, .int 0), (2, .int 0), (0, .ref (B + h0)), (1, .int x1), (3, .int x3)]) hx hb dX2_sharedReach_62 hl (by decide) rfl (fun ls hl => ?_)
        exact E_64 k_49 hk_49 σ h0 x1 (0 : Int32) x3 (0 : Int32) _ _ _ hS h (lv_sub hl [2, 3, 1, 4, 0] rfl)
  have E_49 : ∀ (σ : ez_H) (h0 : Nat) (x1 : Int32) (x2 : Int32) (x3 : Int32) (H : Heap) (locs : List Loc) (ls : Array Slot), ez_S X B s.heap (σ0.length) σ H locs → (ez_fix (fun _ _ _ _ _ => none) (z_X2_sharedReach_49) ez_N) σ h0 x1 x2 x3 = some z → lv_has ls 6 [(0, .ref (B + h0)), (1, .int x1), (2, .int x2), (3, .int x3)] → W p l e R s m args below meth c H locs 0 0 Q (F0 m 49 ls []) := ez_fix_ind (fun k_49 : ez_H → Nat → Int32 → Int32 → Int32 → Option (Int32 × ez_H) => ∀ (σ : ez_H) (h0 : Nat) (x1 : Int32) (x2 : Int32) (x3 : Int32) (H : Heap) (locs : List Loc) (ls : Array Slot), ez_S X B s.heap (σ0.length) σ H locs → k_49 σ h0 x1 x2 x3 = some z → lv_has ls 6 [(0, .ref (B + h0)), (1, .int x1), (2, .int x2), (3, .int x3)] → W p l e R s m args below meth c H locs 0 0 Q (F0 m 49 ls [])) (fun _ _ _ _ _ _ _ _ _ h _ => by cases h) (fun k_49 hk_49 => K_49 k_49 hk_49) ez_N
  have K_45 : ∀ (σ : ez_H) (h0 : Nat) (x1 : Int32) (H : Heap) (locs : List Loc) (ls : Array Slot), ez_S X B s.heap (σ0.length) σ H locs → z_X2_sharedReach_45 σ h0 x1 = some z → lv_has ls 6 [(0, .ref (B + h0)), (1, .int x1)] → W p l e R s m args below meth c H locs 0 0 Q (F0 m 45 ls []) := by
    intro σ h0 x1 H locs ls hS h hl
    refine lv_iconst (v := 1) hx hb dX2_sharedReach_45 (by decide) ?_
    refine lv_istore_n (lv' := [(2, .int 1), (0, .ref (B + h0)), (1, .int x1)]) hx hb dX2_sharedReach_46 rfl hl (by decide) rfl (fun ls hl => ?_)
    refine lv_iconst (v := 0) hx hb dX2_sharedReach_47 (by decide) ?_
    refine lv_istore_n (lv' := [(3, .int 0), (2, .int 1), (0, .ref (B + h0)), (1, .int x1)]) hx hb dX2_sharedReach_48 rfl hl (by decide) rfl (fun ls hl => ?_)
    exact E_49  σ h0 x1 (1 : Int32) (0 : Int32) _ _ _ hS h (lv_sub hl [2, 3, 1, 0] rfl)
  have K_2 : ∀ (k_2 : ez_H → Nat → Int32 → Int32 → Option (Int32 × ez_H)) (hk_2 : ∀ (σ : ez_H) (h0 : Nat) (x1 : Int32) (x2 : Int32) (H : Heap) (locs : List Loc) (ls : Array Slot), ez_S X B s.heap (σ0.length) σ H locs → k_2 σ h0 x1 x2 = some z → lv_has ls 6 [(0, .ref (B + h0)), (1, .int x1), (2, .int x2)] → W p l e R s m args below meth c H locs 0 0 Q (F0 m 2 ls [])), ∀ (σ : ez_H) (h0 : Nat) (x1 : Int32) (x2 : Int32) (H : Heap) (locs : List Loc) (ls : Array Slot), ez_S X B s.heap (σ0.length) σ H locs → z_X2_sharedReach_2 k_2 σ h0 x1 x2 = some z → lv_has ls 6 [(0, .ref (B + h0)), (1, .int x1), (2, .int x2)] → W p l e R s m args below meth c H locs 0 0 Q (F0 m 2 ls []) := by
    intro k_2 hk_2 σ h0 x1 x2 H locs ls hS h hl
    refine lv_iload_n hx hb dX2_sharedReach_2 rfl (lv_at hl 2 rfl) ?_
    refine lv_aload_n hx hb dX2_sharedReach_3 rfl (lv_at hl 0 rfl) ?_
    refine eg_RX2_9 hC hS h dX2_sharedReach_4 (fun t_4 h => ?_)
    refine eg_RX2_120 hC hS h dX2_sharedReach_7 (fun t_7 h => ?_)
    refine lv_icmp_ge (tgt := 45) hx hb dX2_sharedReach_10 (by decide) (fun c_10 => ?_) (fun c_10 => ?_)
    · replace h := ez_ifp h c_10
      exact K_45  σ h0 x1 _ _ _ hS h (lv_sub hl [0, 1] rfl)
    · replace h := ez_ifn h c_10
      refine lv_iload_n hx hb dX2_sharedReach_13 rfl (lv_at hl 2 rfl) ?_
      refine lv_iconst (v := 4) hx hb dX2_sharedReach_14 (by decide) ?_
      refine lv_icmp_ge (tgt := 45) hx hb dX2_sharedReach_15 (by decide) (fun c_15 => ?_) (fun c_15 => ?_)
      · replace h := ez_ifp h c_15
        exact K_45  σ h0 x1 _ _ _ hS h (lv_sub hl [0, 1] rfl)
      · replace h := ez_ifn h c_15
        refine lv_aload_n hx hb dX2_sharedReach_18 rfl (lv_at hl 0 rfl) ?_
        refine eg_RX2_23 hC hS h dX2_sharedReach_19 (fun t_19 h => ?_)
        refine lv_iload_n hx hb dX2_sharedReach_22 rfl (lv_at hl 2 rfl) ?_
        refine lv_aload_n hx hb dX2_sharedReach_23 rfl (lv_at hl 0 rfl) ?_
        refine eg_RX2_15 hC hS h dX2_sharedReach_24 (fun t_24 h => ?_)
        refine lv_iload_n hx hb dX2_sharedReach_27 rfl (lv_at hl 2 rfl) ?_
        refine lv_aload_n hx hb dX2_sharedReach_28 rfl (lv_at hl 0 rfl) ?_
        refine eg_RX2_9 hC hS h dX2_sharedReach_29 (fun t_29 h => ?_)
        refine eg_RX2_33 hC hS h dX2_sharedReach_32 (fun t_32 h => ?_)
        refine ez_cVpi (As := [.int x2, .int t_32]) (rest := [.int x2, .ref (B + t_19)]) h (fun _ q => c_X7_heldBy q) hC k_X7_heldBy ql_RX2_78 rfl (by decide) hS (fun _ q => ez_rcv q) rfl hl.1 rfl (Nat.le_of_ble_eq_true rfl) ⟨Nat.zero_le _, Nat.zero_le _⟩ dX2_sharedReach_35 (fun t_35 H locs hS h => ?_)
        refine ez_ias hC hS h dX2_sharedReach_38 (fun σ H locs hS h => ?_)
        obtain ⟨t_39, e_39, h⟩ := ez_let_sp h
        refine lv_iinc (v := t_39) (lv' := [(2, .int t_39), (0, .ref (B + h0)), (1, .int x1)]) hx hb dX2_sharedReach_39 hl (k := 2) rfl (by rw [e_39]; rfl) (by decide) rfl (fun ls hl => ?_)
        refine lv_goto (tgt := 2) hx hb dX2_sharedReach_42 (by decide) ?_
        exact hk_2 σ h0 x1 t_39 _ _ _ hS h (lv_sub hl [1, 2, 0] rfl)
  have E_2 : ∀ (σ : ez_H) (h0 : Nat) (x1 : Int32) (x2 : Int32) (H : Heap) (locs : List Loc) (ls : Array Slot), ez_S X B s.heap (σ0.length) σ H locs → (ez_fix (fun _ _ _ _ => none) (z_X2_sharedReach_2) ez_N) σ h0 x1 x2 = some z → lv_has ls 6 [(0, .ref (B + h0)), (1, .int x1), (2, .int x2)] → W p l e R s m args below meth c H locs 0 0 Q (F0 m 2 ls []) := ez_fix_ind (fun k_2 : ez_H → Nat → Int32 → Int32 → Option (Int32 × ez_H) => ∀ (σ : ez_H) (h0 : Nat) (x1 : Int32) (x2 : Int32) (H : Heap) (locs : List Loc) (ls : Array Slot), ez_S X B s.heap (σ0.length) σ H locs → k_2 σ h0 x1 x2 = some z → lv_has ls 6 [(0, .ref (B + h0)), (1, .int x1), (2, .int x2)] → W p l e R s m args below meth c H locs 0 0 Q (F0 m 2 ls [])) (fun _ _ _ _ _ _ _ _ h _ => by cases h) (fun k_2 hk_2 => K_2 k_2 hk_2) ez_N
  refine lv_iconst (v := 0) hx hb dX2_sharedReach_0 (by decide) ?_
  refine lv_istore_n (lv' := [(2, .int 0), (0, .ref (B + h0)), (1, .int x1)]) hx hb dX2_sharedReach_1 rfl hl (by decide) rfl (fun ls hl => ?_)
  exact E_2  σ h0 x1 (0 : Int32) _ _ _ hS h (lv_sub hl [1, 2, 0] rfl)
set_option maxHeartbeats 4000000 in
set_option maxRecDepth 100000 in
theorem c_X11_together {l : Launch} {X : ez_X} {B : Nat} {σ : ez_H} {h0 : Nat} {x1 : Int32} {z : Int32 × ez_H} (h : z_X11_together σ h0 x1 = some z) : ez_M l X B σ yX11_together cX11_together 2 (some .int) 6 [.ref (B + h0), .int x1] (some (.int z.1)) z.2 := by
  refine ez_starti (z := z) (by decide) (Nat.le_of_ble_eq_true rfl) (fun p e R s m args below meth c Q hC hret hS ls hl => ?_)
  have hC : ez_C p R s m args c X B RX11 cX11_together 2 6 := hC
  have hx := hC.1.1
  have hb := hC.1.2.1
  have hown := hC.1.2.2.2.1
  have hts := hC.1.2.2.2.2
  have hl : lv_has ls 2 [(0, .ref (B + h0)), (1, .int x1)] := hl
  obtain ⟨σ0, eσ⟩ : ∃ σ0 : ez_H, σ0 = σ := ⟨_, rfl⟩
  rw [← eσ] at hret
  have hS : ez_S X B s.heap σ0.length σ s.heap [] := eσ ▸ hS
  obtain ⟨-, h⟩ := ez_in h
  have K_23 : ∀ (σ : ez_H) (y0 : Int32) (H : Heap) (locs : List Loc) (ls : Array Slot), ez_S X B s.heap (σ0.length) σ H locs → z_X11_together_23 σ y0 = some z → lv_has ls 2 [] → W p l e R s m args below meth c H locs 0 0 Q (F0 m 23 ls [.int y0]) := by
    intro σ y0 H locs ls hS h hl
    exact hret _ _ _ _ _ _ (Option.some.inj h) rfl hS dX11_together_23
  refine lv_aload_n hx hb dX11_together_0 rfl (lv_at hl 0 rfl) ?_
  refine eg_RX11_29 hC hS h dX11_together_1 (fun t_1 h => ?_)
  refine lv_iload_n hx hb dX11_together_4 rfl (lv_at hl 1 rfl) ?_
  refine ez_cVpi (As := [.int x1]) (rest := []) h (fun _ q => c_X3_hasPerson q) hC k_X3_hasPerson ql_RX11_200 rfl (by decide) hS (fun _ q => ez_rcv q) rfl hl.1 rfl (Nat.le_of_ble_eq_true rfl) ⟨Nat.zero_le _, Nat.zero_le _⟩ dX11_together_5 (fun t_5 H locs hS h => ?_)
  refine lv_if_eq (tgt := 22) hx hb dX11_together_8 (by decide) (fun c_8 => ?_) (fun c_8 => ?_)
  · replace h := ez_ifp h c_8
    refine lv_iconst (v := -1) hx hb dX11_together_22 (by decide) ?_
    exact K_23  σ (-1 : Int32) _ _ _ hS h (lv_sub hl [] rfl)
  · replace h := ez_ifn h c_8
    refine lv_aload_n hx hb dX11_together_11 rfl (lv_at hl 0 rfl) ?_
    refine eg_RX11_79 hC hS h dX11_together_12 (fun t_12 h => ?_)
    refine lv_iload_n hx hb dX11_together_15 rfl (lv_at hl 1 rfl) ?_
    refine ez_cVi (As := [.int x1]) (rest := []) h (fun _ q => c_X2_sharedReach q) hC k_X2_sharedReach ql_RX11_365 rfl (by decide) hS (fun _ q => ez_rcv q) rfl hl.1 rfl (Nat.le_of_ble_eq_true rfl) ⟨Nat.zero_le _, Nat.zero_le _⟩ dX11_together_16 (fun t_16 σ H locs hS h => ?_)
    refine lv_goto (tgt := 23) hx hb dX11_together_19 (by decide) ?_
    exact K_23  σ t_16 _ _ _ hS h (lv_sub hl [] rfl)
set_option maxHeartbeats 4000000 in
set_option maxRecDepth 100000 in
theorem c_X2_exchange {l : Launch} {X : ez_X} {B : Nat} {σ : ez_H} {h0 : Nat} {x1 : Int32} {x2 : Int32} {z : Int32} (h : z_X2_exchange σ h0 x1 x2 = some z) : ez_M l X B σ yX2_exchange cX2_exchange 11 (some .int) 4 [.ref (B + h0), .int x1, .int x2] (some (.int z)) σ := by
  refine ez_startip (z := z) (by decide) (Nat.le_of_ble_eq_true rfl) (fun p e R s m args below meth c Q hC hret hS ls hl => ?_)
  have hC : ez_C p R s m args c X B RX2 cX2_exchange 11 4 := hC
  have hx := hC.1.1
  have hb := hC.1.2.1
  have hown := hC.1.2.2.2.1
  have hts := hC.1.2.2.2.2
  have hl : lv_has ls 11 [(0, .ref (B + h0)), (1, .int x1), (2, .int x2)] := hl
  obtain ⟨n0, e0⟩ : ∃ n0 : Nat, n0 = σ.length := ⟨_, rfl⟩
  rw [← e0] at hret hS
  obtain ⟨-, h⟩ := ez_in h
  have K_172 : ∀ (k_59 : Nat → Int32 → Int32 → Int32 → Int32 → Int32 → Int32 → Int32 → Option (Int32)) (hk_59 : ∀ (h0 : Nat) (x1 : Int32) (x2 : Int32) (x3 : Int32) (x4 : Int32) (x5 : Int32) (x6 : Int32) (x7 : Int32) (H : Heap) (locs : List Loc) (ls : Array Slot), ez_S X B s.heap (n0) σ H locs → k_59 h0 x1 x2 x3 x4 x5 x6 x7 = some z → lv_has ls 11 [(0, .ref (B + h0)), (1, .int x1), (2, .int x2), (3, .int x3), (4, .int x4), (5, .int x5), (6, .int x6), (7, .int x7)] → W p l e R s m args below meth c H locs 0 0 Q (F0 m 59 ls [])) (k_74 : Nat → Int32 → Int32 → Int32 → Int32 → Int32 → Int32 → Int32 → Int32 → Option (Int32)) (hk_74 : ∀ (h0 : Nat) (x1 : Int32) (x2 : Int32) (x3 : Int32) (x4 : Int32) (x5 : Int32) (x6 : Int32) (x7 : Int32) (x8 : Int32) (H : Heap) (locs : List Loc) (ls : Array Slot), ez_S X B s.heap (n0) σ H locs → k_74 h0 x1 x2 x3 x4 x5 x6 x7 x8 = some z → lv_has ls 11 [(0, .ref (B + h0)), (1, .int x1), (2, .int x2), (3, .int x3), (4, .int x4), (5, .int x5), (6, .int x6), (7, .int x7), (8, .int x8)] → W p l e R s m args below meth c H locs 0 0 Q (F0 m 74 ls [])), ∀ (h0 : Nat) (x1 : Int32) (x2 : Int32) (x3 : Int32) (x4 : Int32) (x5 : Int32) (x6 : Int32) (x7 : Int32) (x8 : Int32) (H : Heap) (locs : List Loc) (ls : Array Slot), ez_S X B s.heap (n0) σ H locs → z_X2_exchange_172 σ k_59 k_74 h0 x1 x2 x3 x4 x5 x6 x7 x8 = some z → lv_has ls 11 [(0, .ref (B + h0)), (1, .int x1), (2, .int x2), (3, .int x3), (4, .int x4), (5, .int x5), (6, .int x6), (7, .int x7), (8, .int x8)] → W p l e R s m args below meth c H locs 0 0 Q (F0 m 172 ls []) := by
    intro k_59 hk_59 k_74 hk_74 h0 x1 x2 x3 x4 x5 x6 x7 x8 H locs ls hS h hl
    obtain ⟨t_172, e_172, h⟩ := ez_let_sp h
    refine lv_iinc (v := t_172) (lv' := [(8, .int t_172), (0, .ref (B + h0)), (1, .int x1), (2, .int x2), (3, .int x3), (4, .int x4), (5, .int x5), (6, .int x6), (7, .int x7)]) hx hb dX2_exchange_172 hl (k := 8) rfl (by rw [e_172]; rfl) (by decide) rfl (fun ls hl => ?_)
    refine lv_goto (tgt := 74) hx hb dX2_exchange_175 (by decide) ?_
    exact hk_74 h0 x1 x2 x3 x4 x5 x6 x7 t_172 _ _ _ hS h (lv_sub hl [1, 2, 3, 4, 5, 6, 7, 8, 0] rfl)
  have K_121 : ∀ (k_59 : Nat → Int32 → Int32 → Int32 → Int32 → Int32 → Int32 → Int32 → Option (Int32)) (hk_59 : ∀ (h0 : Nat) (x1 : Int32) (x2 : Int32) (x3 : Int32) (x4 : Int32) (x5 : Int32) (x6 : Int32) (x7 : Int32) (H : Heap) (locs : List Loc) (ls : Array Slot), ez_S X B s.heap (n0) σ H locs → k_59 h0 x1 x2 x3 x4 x5 x6 x7 = some z → lv_has ls 11 [(0, .ref (B + h0)), (1, .int x1), (2, .int x2), (3, .int x3), (4, .int x4), (5, .int x5), (6, .int x6), (7, .int x7)] → W p l e R s m args below meth c H locs 0 0 Q (F0 m 59 ls [])) (k_74 : Nat → Int32 → Int32 → Int32 → Int32 → Int32 → Int32 → Int32 → Int32 → Option (Int32)) (hk_74 : ∀ (h0 : Nat) (x1 : Int32) (x2 : Int32) (x3 : Int32) (x4 : Int32) (x5 : Int32) (x6 : Int32) (x7 : Int32) (x8 : Int32) (H : Heap) (locs : List Loc) (ls : Array Slot), ez_S X B s.heap (n0) σ H locs → k_74 h0 x1 x2 x3 x4 x5 x6 x7 x8 = some z → lv_has ls 11 [(0, .ref (B + h0)), (1, .int x1), (2, .int x2), (3, .int x3), (4, .int x4), (5, .int x5), (6, .int x6), (7, .int x7), (8, .int x8)] → W p l e R s m args below meth c H locs 0 0 Q (F0 m 74 ls [])), ∀ (h0 : Nat) (x1 : Int32) (x2 : Int32) (x3 : Int32) (x4 : Int32) (x5 : Int32) (x6 : Int32) (x7 : Int32) (x8 : Int32) (x9 : Int32) (y0 : Int32) (H : Heap) (locs : List Loc) (ls : Array Slot), ez_S X B s.heap (n0) σ H locs → z_X2_exchange_121 σ k_59 k_74 h0 x1 x2 x3 x4 x5 x6 x7 x8 x9 y0 = some z → lv_has ls 11 [(0, .ref (B + h0)), (1, .int x1), (2, .int x2), (3, .int x3), (4, .int x4), (5, .int x5), (6, .int x6), (7, .int x7), (8, .int x8), (9, .int x9)] → W p l e R s m args below meth c H locs 0 0 Q (F0 m 121 ls [.int y0]) := by
    intro k_59 hk_59 k_74 hk_74 h0 x1 x2 x3 x4 x5 x6 x7 x8 x9 y0 H locs ls hS h hl
    refine lv_istore (lv' := [(10, .int y0), (0, .ref (B + h0)), (1, .int x1), (2, .int x2), (3, .int x3), (4, .int x4), (5, .int x5), (6, .int x6), (7, .int x7), (8, .int x8), (9, .int x9)]) hx hb dX2_exchange_121 hl (by decide) rfl (fun ls hl => ?_)
    refine lv_iload hx hb dX2_exchange_123 (lv_at hl 0 rfl) ?_
    refine lv_if_eq (tgt := 172) hx hb dX2_exchange_125 (by decide) (fun c_125 => ?_) (fun c_125 => ?_)
    · replace h := ez_ifp h c_125
      exact K_172 k_59 hk_59 k_74 hk_74 h0 x1 x2 x3 x4 x5 x6 x7 x8 _ _ _ hS h (lv_sub hl [1, 2, 3, 4, 5, 6, 7, 8, 9] rfl)
    · replace h := ez_ifn h c_125
      refine lv_aload_n hx hb dX2_exchange_128 rfl (lv_at hl 1 rfl) ?_
      refine lv_iload_n hx hb dX2_exchange_129 rfl (lv_at hl 2 rfl) ?_
      refine lv_iload_n hx hb dX2_exchange_130 rfl (lv_at hl 4 rfl) ?_
      refine lv_iload hx hb dX2_exchange_131 (lv_at hl 10 rfl) ?_
      refine lv_ixor hx hb dX2_exchange_133 ?_
      refine ez_top h (fun t_133 h => ?_)
      refine ez_cVpi (As := [.int x1, .int t_133]) (rest := []) h (fun _ q => c_X2_reachWith q) hC k_X2_reachWith ql_RX2_81 rfl (by decide) hS (fun _ q => ez_rcv q) rfl hl.1 rfl (Nat.le_of_ble_eq_true rfl) ⟨Nat.zero_le _, Nat.zero_le _⟩ dX2_exchange_134 (fun t_134 H locs hS h => ?_)
      refine ez_cSpi (As := [.int t_134]) (rest := []) h (fun _ q => c_J6_bitCount_0f7a4 q) hC k_J6_bitCount_0f7a4 ql_RX2_115 rfl (by decide) hS hl.1 rfl (Nat.le_of_ble_eq_true rfl) ⟨Nat.zero_le _, Nat.zero_le _⟩ dX2_exchange_137 (fun t_137 H locs hS h => ?_)
      refine lv_iload hx hb dX2_exchange_140 (lv_at hl 6 rfl) ?_
      refine lv_icmp_le (tgt := 172) hx hb dX2_exchange_142 (by decide) (fun c_142 => ?_) (fun c_142 => ?_)
      · replace h := ez_ifp h c_142
        exact K_172 k_59 hk_59 k_74 hk_74 h0 x1 x2 x3 x4 x5 x6 x7 x8 _ _ _ hS h (lv_sub hl [1, 2, 3, 4, 5, 6, 7, 8, 9] rfl)
      · replace h := ez_ifn h c_142
        refine lv_aload_n hx hb dX2_exchange_145 rfl (lv_at hl 1 rfl) ?_
        refine lv_iload_n hx hb dX2_exchange_146 rfl (lv_at hl 3 rfl) ?_
        refine lv_iload hx hb dX2_exchange_147 (lv_at hl 5 rfl) ?_
        refine lv_iload hx hb dX2_exchange_149 (lv_at hl 10 rfl) ?_
        refine lv_ixor hx hb dX2_exchange_151 ?_
        refine ez_top h (fun t_151 h => ?_)
        refine ez_cVpi (As := [.int x2, .int t_151]) (rest := []) h (fun _ q => c_X2_reachWith q) hC k_X2_reachWith ql_RX2_81 rfl (by decide) hS (fun _ q => ez_rcv q) rfl hl.1 rfl (Nat.le_of_ble_eq_true rfl) ⟨Nat.zero_le _, Nat.zero_le _⟩ dX2_exchange_152 (fun t_152 H locs hS h => ?_)
        refine ez_cSpi (As := [.int t_152]) (rest := []) h (fun _ q => c_J6_bitCount_0f7a4 q) hC k_J6_bitCount_0f7a4 ql_RX2_115 rfl (by decide) hS hl.1 rfl (Nat.le_of_ble_eq_true rfl) ⟨Nat.zero_le _, Nat.zero_le _⟩ dX2_exchange_155 (fun t_155 H locs hS h => ?_)
        refine lv_iload hx hb dX2_exchange_158 (lv_at hl 7 rfl) ?_
        refine lv_icmp_le (tgt := 172) hx hb dX2_exchange_160 (by decide) (fun c_160 => ?_) (fun c_160 => ?_)
        · replace h := ez_ifp h c_160
          exact K_172 k_59 hk_59 k_74 hk_74 h0 x1 x2 x3 x4 x5 x6 x7 x8 _ _ _ hS h (lv_sub hl [1, 2, 3, 4, 5, 6, 7, 8, 9] rfl)
        · replace h := ez_ifn h c_160
          refine lv_iload hx hb dX2_exchange_163 (lv_at hl 8 rfl) ?_
          refine lv_bipush (v := 8) hx hb dX2_exchange_165 (by decide) ?_
          refine lv_imul hx hb dX2_exchange_167 ?_
          refine ez_top h (fun t_167 h => ?_)
          refine lv_iload hx hb dX2_exchange_168 (lv_at hl 9 rfl) ?_
          refine lv_iadd hx hb dX2_exchange_170 ?_
          refine ez_top h (fun t_170 h => ?_)
          exact hret _ _ _ _ _ (Option.some.inj h) rfl hS dX2_exchange_171
  have K_120 : ∀ (k_59 : Nat → Int32 → Int32 → Int32 → Int32 → Int32 → Int32 → Int32 → Option (Int32)) (hk_59 : ∀ (h0 : Nat) (x1 : Int32) (x2 : Int32) (x3 : Int32) (x4 : Int32) (x5 : Int32) (x6 : Int32) (x7 : Int32) (H : Heap) (locs : List Loc) (ls : Array Slot), ez_S X B s.heap (n0) σ H locs → k_59 h0 x1 x2 x3 x4 x5 x6 x7 = some z → lv_has ls 11 [(0, .ref (B + h0)), (1, .int x1), (2, .int x2), (3, .int x3), (4, .int x4), (5, .int x5), (6, .int x6), (7, .int x7)] → W p l e R s m args below meth c H locs 0 0 Q (F0 m 59 ls [])) (k_74 : Nat → Int32 → Int32 → Int32 → Int32 → Int32 → Int32 → Int32 → Int32 → Option (Int32)) (hk_74 : ∀ (h0 : Nat) (x1 : Int32) (x2 : Int32) (x3 : Int32) (x4 : Int32) (x5 : Int32) (x6 : Int32) (x7 : Int32) (x8 : Int32) (H : Heap) (locs : List Loc) (ls : Array Slot), ez_S X B s.heap (n0) σ H locs → k_74 h0 x1 x2 x3 x4 x5 x6 x7 x8 = some z → lv_has ls 11 [(0, .ref (B + h0)), (1, .int x1), (2, .int x2), (3, .int x3), (4, .int x4), (5, .int x5), (6, .int x6), (7, .int x7), (8, .int x8)] → W p l e R s m args below meth c H locs 0 0 Q (F0 m 74 ls [])), ∀ (h0 : Nat) (x1 : Int32) (x2 : Int32) (x3 : Int32) (x4 : Int32) (x5 : Int32) (x6 : Int32) (x7 : Int32) (x8 : Int32) (x9 : Int32) (H : Heap) (locs : List Loc) (ls : Array Slot), ez_S X B s.heap (n0) σ H locs → z_X2_exchange_120 σ k_59 k_74 h0 x1 x2 x3 x4 x5 x6 x7 x8 x9 = some z → lv_has ls 11 [(0, .ref (B + h0)), (1, .int x1), (2, .int x2), (3, .int x3), (4, .int x4), (5, .int x5), (6, .int x6), (7, .int x7), (8, .int x8), (9, .int x9)] → W p l e R s m args below meth c H locs 0 0 Q (F0 m 120 ls []) := by
    intro k_59 hk_59 k_74 hk_74 h0 x1 x2 x3 x4 x5 x6 x7 x8 x9 H locs ls hS h hl
    refine lv_iconst (v := 0) hx hb dX2_exchange_120 (by decide) ?_
    exact K_121 k_59 hk_59 k_74 hk_74 h0 x1 x2 x3 x4 x5 x6 x7 x8 x9 (0 : Int32) _ _ _ hS h (lv_sub hl [0, 1, 2, 3, 4, 5, 6, 7, 8, 9] rfl)
  have K_74 : ∀ (k_59 : Nat → Int32 → Int32 → Int32 → Int32 → Int32 → Int32 → Int32 → Option (Int32)) (hk_59 : ∀ (h0 : Nat) (x1 : Int32) (x2 : Int32) (x3 : Int32) (x4 : Int32) (x5 : Int32) (x6 : Int32) (x7 : Int32) (H : Heap) (locs : List Loc) (ls : Array Slot), ez_S X B s.heap (n0) σ H locs → k_59 h0 x1 x2 x3 x4 x5 x6 x7 = some z → lv_has ls 11 [(0, .ref (B + h0)), (1, .int x1), (2, .int x2), (3, .int x3), (4, .int x4), (5, .int x5), (6, .int x6), (7, .int x7)] → W p l e R s m args below meth c H locs 0 0 Q (F0 m 59 ls [])) (k_74 : Nat → Int32 → Int32 → Int32 → Int32 → Int32 → Int32 → Int32 → Int32 → Option (Int32)) (hk_74 : ∀ (h0 : Nat) (x1 : Int32) (x2 : Int32) (x3 : Int32) (x4 : Int32) (x5 : Int32) (x6 : Int32) (x7 : Int32) (x8 : Int32) (H : Heap) (locs : List Loc) (ls : Array Slot), ez_S X B s.heap (n0) σ H locs → k_74 h0 x1 x2 x3 x4 x5 x6 x7 x8 = some z → lv_has ls 11 [(0, .ref (B + h0)), (1, .int x1), (2, .int x2), (3, .int x3), (4, .int x4), (5, .int x5), (6, .int x6), (7, .int x7), (8, .int x8)] → W p l e R s m args below meth c H locs 0 0 Q (F0 m 74 ls [])), ∀ (h0 : Nat) (x1 : Int32) (x2 : Int32) (x3 : Int32) (x4 : Int32) (x5 : Int32) (x6 : Int32) (x7 : Int32) (x8 : Int32) (H : Heap) (locs : List Loc) (ls : Array Slot), ez_S X B s.heap (n0) σ H locs → z_X2_exchange_74 σ k_59 k_74 h0 x1 x2 x3 x4 x5 x6 x7 x8 = some z → lv_has ls 11 [(0, .ref (B + h0)), (1, .int x1), (2, .int x2), (3, .int x3), (4, .int x4), (5, .int x5), (6, .int x6), (7, .int x7), (8, .int x8)] → W p l e R s m args below meth c H locs 0 0 Q (F0 m 74 ls []) := by
    intro k_59 hk_59 k_74 hk_74 h0 x1 x2 x3 x4 x5 x6 x7 x8 H locs ls hS h hl
    refine lv_iload hx hb dX2_exchange_74 (lv_at hl 8 rfl) ?_
    refine lv_aload_n hx hb dX2_exchange_76 rfl (lv_at hl 0 rfl) ?_
    refine eg_RX2_9 hC hS h dX2_exchange_77 (fun t_77 h => ?_)
    refine eg_RX2_33 hC hS h dX2_exchange_80 (fun t_80 h => ?_)
    refine lv_icmp_ge (tgt := 178) hx hb dX2_exchange_83 (by decide) (fun c_83 => ?_) (fun c_83 => ?_)
    · replace h := ez_ifp h c_83
      obtain ⟨t_178, e_178, h⟩ := ez_let_sp h
      refine lv_iinc (v := t_178) (lv' := [(7, .int t_178), (0, .ref (B + h0)), (1, .int x1), (2, .int x2), (3, .int x3), (4, .int x4), (5, .int x5), (6, .int x6), (8, .int x8)]) hx hb dX2_exchange_178 hl (k := 7) rfl (by rw [e_178]; rfl) (by decide) rfl (fun ls hl => ?_)
      refine lv_goto (tgt := 59) hx hb dX2_exchange_181 (by decide) ?_
      exact hk_59 h0 x1 x2 x3 x4 x5 x6 t_178 _ _ _ hS h (lv_sub hl [1, 2, 3, 4, 5, 6, 7, 0] rfl)
    · replace h := ez_ifn h c_83
      refine lv_iconst (v := 1) hx hb dX2_exchange_86 (by decide) ?_
      refine lv_iload hx hb dX2_exchange_87 (lv_at hl 7 rfl) ?_
      refine lv_ishl hx hb dX2_exchange_89 ?_
      refine ez_top h (fun t_89 h => ?_)
      refine lv_iconst (v := 1) hx hb dX2_exchange_90 (by decide) ?_
      refine lv_iload hx hb dX2_exchange_91 (lv_at hl 8 rfl) ?_
      refine lv_ishl hx hb dX2_exchange_93 ?_
      refine ez_top h (fun t_93 h => ?_)
      refine lv_ior hx hb dX2_exchange_94 ?_
      refine ez_top h (fun t_94 h => ?_)
      refine lv_istore (lv' := [(9, .int t_94), (0, .ref (B + h0)), (1, .int x1), (2, .int x2), (3, .int x3), (4, .int x4), (5, .int x5), (6, .int x6), (7, .int x7), (8, .int x8)]) hx hb dX2_exchange_95 hl (by decide) rfl (fun ls hl => ?_)
      refine lv_iload_n hx hb dX2_exchange_97 rfl (lv_at hl 4 rfl) ?_
      refine lv_iload hx hb dX2_exchange_98 (lv_at hl 8 rfl) ?_
      refine lv_ishr hx hb dX2_exchange_100 ?_
      refine ez_top h (fun t_100 h => ?_)
      refine lv_iconst (v := 1) hx hb dX2_exchange_101 (by decide) ?_
      refine lv_iand hx hb dX2_exchange_102 ?_
      refine ez_top h (fun t_102 h => ?_)
      refine lv_if_eq (tgt := 120) hx hb dX2_exchange_103 (by decide) (fun c_103 => ?_) (fun c_103 => ?_)
      · replace h := ez_ifp h c_103
        exact K_120 k_59 hk_59 k_74 hk_74 h0 x1 x2 x3 x4 x5 x6 x7 x8 t_94 _ _ _ hS h (lv_sub hl [1, 2, 3, 4, 5, 6, 7, 8, 9, 0] rfl)
      · replace h := ez_ifn h c_103
        refine lv_iload hx hb dX2_exchange_106 (lv_at hl 5 rfl) ?_
        refine lv_iload hx hb dX2_exchange_108 (lv_at hl 9 rfl) ?_
        refine lv_ishr hx hb dX2_exchange_110 ?_
        refine ez_top h (fun t_110 h => ?_)
        refine lv_iconst (v := 1) hx hb dX2_exchange_111 (by decide) ?_
        refine lv_iand hx hb dX2_exchange_112 ?_
        refine ez_top h (fun t_112 h => ?_)
        refine lv_if_eq (tgt := 120) hx hb dX2_exchange_113 (by decide) (fun c_113 => ?_) (fun c_113 => ?_)
        · replace h := ez_ifp h c_113
          exact K_120 k_59 hk_59 k_74 hk_74 h0 x1 x2 x3 x4 x5 x6 x7 x8 t_94 _ _ _ hS h (lv_sub hl [1, 2, 3, 4, 5, 6, 7, 8, 9, 0] rfl)
        · replace h := ez_ifn h c_113
          refine lv_iconst (v := 1) hx hb dX2_exchange_116 (by decide) ?_
          refine lv_goto (tgt := 121) hx hb dX2_exchange_117 (by decide) ?_
          exact K_121 k_59 hk_59 k_74 hk_74 h0 x1 x2 x3 x4 x5 x6 x7 x8 t_94 (1 : Int32) _ _ _ hS h (lv_sub hl [1, 2, 3, 4, 5, 6, 7, 8, 9, 0] rfl)
  have E_74 : ∀ (k_59 : Nat → Int32 → Int32 → Int32 → Int32 → Int32 → Int32 → Int32 → Option (Int32)) (hk_59 : ∀ (h0 : Nat) (x1 : Int32) (x2 : Int32) (x3 : Int32) (x4 : Int32) (x5 : Int32) (x6 : Int32) (x7 : Int32) (H : Heap) (locs : List Loc) (ls : Array Slot), ez_S X B s.heap (n0) σ H locs → k_59 h0 x1 x2 x3 x4 x5 x6 x7 = some z → lv_has ls 11 [(0, .ref (B + h0)), (1, .int x1), (2, .int x2), (3, .int x3), (4, .int x4), (5, .int x5), (6, .int x6), (7, .int x7)] → W p l e R s m args below meth c H locs 0 0 Q (F0 m 59 ls [])), ∀ (h0 : Nat) (x1 : Int32) (x2 : Int32) (x3 : Int32) (x4 : Int32) (x5 : Int32) (x6 : Int32) (x7 : Int32) (x8 : Int32) (H : Heap) (locs : List Loc) (ls : Array Slot), ez_S X B s.heap (n0) σ H locs → (ez_fix (fun _ _ _ _ _ _ _ _ _ => none) (z_X2_exchange_74 σ k_59) ez_N) h0 x1 x2 x3 x4 x5 x6 x7 x8 = some z → lv_has ls 11 [(0, .ref (B + h0)), (1, .int x1), (2, .int x2), (3, .int x3), (4, .int x4), (5, .int x5), (6, .int x6), (7, .int x7), (8, .int x8)] → W p l e R s m args below meth c H locs 0 0 Q (F0 m 74 ls []) := fun k_59 hk_59 => ez_fix_ind (fun k_74 : Nat → Int32 → Int32 → Int32 → Int32 → Int32 → Int32 → Int32 → Int32 → Option (Int32) => ∀ (h0 : Nat) (x1 : Int32) (x2 : Int32) (x3 : Int32) (x4 : Int32) (x5 : Int32) (x6 : Int32) (x7 : Int32) (x8 : Int32) (H : Heap) (locs : List Loc) (ls : Array Slot), ez_S X B s.heap (n0) σ H locs → k_74 h0 x1 x2 x3 x4 x5 x6 x7 x8 = some z → lv_has ls 11 [(0, .ref (B + h0)), (1, .int x1), (2, .int x2), (3, .int x3), (4, .int x4), (5, .int x5), (6, .int x6), (7, .int x7), (8, .int x8)] → W p l e R s m args below meth c H locs 0 0 Q (F0 m 74 ls [])) (fun _ _ _ _ _ _ _ _ _ _ _ _ _ h _ => by cases h) (fun k_74 hk_74 => K_74 k_59 hk_59 k_74 hk_74) ez_N
  have K_59 : ∀ (k_59 : Nat → Int32 → Int32 → Int32 → Int32 → Int32 → Int32 → Int32 → Option (Int32)) (hk_59 : ∀ (h0 : Nat) (x1 : Int32) (x2 : Int32) (x3 : Int32) (x4 : Int32) (x5 : Int32) (x6 : Int32) (x7 : Int32) (H : Heap) (locs : List Loc) (ls : Array Slot), ez_S X B s.heap (n0) σ H locs → k_59 h0 x1 x2 x3 x4 x5 x6 x7 = some z → lv_has ls 11 [(0, .ref (B + h0)), (1, .int x1), (2, .int x2), (3, .int x3), (4, .int x4), (5, .int x5), (6, .int x6), (7, .int x7)] → W p l e R s m args below meth c H locs 0 0 Q (F0 m 59 ls [])), ∀ (h0 : Nat) (x1 : Int32) (x2 : Int32) (x3 : Int32) (x4 : Int32) (x5 : Int32) (x6 : Int32) (x7 : Int32) (H : Heap) (locs : List Loc) (ls : Array Slot), ez_S X B s.heap (n0) σ H locs → z_X2_exchange_59 σ k_59 h0 x1 x2 x3 x4 x5 x6 x7 = some z → lv_has ls 11 [(0, .ref (B + h0)), (1, .int x1), (2, .int x2), (3, .int x3), (4, .int x4), (5, .int x5), (6, .int x6), (7, .int x7)] → W p l e R s m args below meth c H locs 0 0 Q (F0 m 59 ls []) := by
    intro k_59 hk_59 h0 x1 x2 x3 x4 x5 x6 x7 H locs ls hS h hl
    refine lv_iload hx hb dX2_exchange_59 (lv_at hl 7 rfl) ?_
    refine lv_aload_n hx hb dX2_exchange_61 rfl (lv_at hl 0 rfl) ?_
    refine eg_RX2_9 hC hS h dX2_exchange_62 (fun t_62 h => ?_)
    refine eg_RX2_33 hC hS h dX2_exchange_65 (fun t_65 h => ?_)
    refine lv_icmp_ge (tgt := 184) hx hb dX2_exchange_68 (by decide) (fun c_68 => ?_) (fun c_68 => ?_)
    · replace h := ez_ifp h c_68
      refine lv_iconst (v := -1) hx hb dX2_exchange_184 (by decide) ?_
      exact hret _ _ _ _ _ (Option.some.inj h) rfl hS dX2_exchange_185
    · replace h := ez_ifn h c_68
      refine lv_iconst (v := 0) hx hb dX2_exchange_71 (by decide) ?_
      refine lv_istore (lv' := [(8, .int 0), (0, .ref (B + h0)), (1, .int x1), (2, .int x2), (3, .int x3), (4, .int x4), (5, .int x5), (6, .int x6), (7, .int x7)]) hx hb dX2_exchange_72 hl (by decide) rfl (fun ls hl => ?_)
      exact E_74 k_59 hk_59 h0 x1 x2 x3 x4 x5 x6 x7 (0 : Int32) _ _ _ hS h (lv_sub hl [1, 2, 3, 4, 5, 6, 7, 8, 0] rfl)
  have E_59 : ∀ (h0 : Nat) (x1 : Int32) (x2 : Int32) (x3 : Int32) (x4 : Int32) (x5 : Int32) (x6 : Int32) (x7 : Int32) (H : Heap) (locs : List Loc) (ls : Array Slot), ez_S X B s.heap (n0) σ H locs → (ez_fix (fun _ _ _ _ _ _ _ _ => none) (z_X2_exchange_59 σ) ez_N) h0 x1 x2 x3 x4 x5 x6 x7 = some z → lv_has ls 11 [(0, .ref (B + h0)), (1, .int x1), (2, .int x2), (3, .int x3), (4, .int x4), (5, .int x5), (6, .int x6), (7, .int x7)] → W p l e R s m args below meth c H locs 0 0 Q (F0 m 59 ls []) := ez_fix_ind (fun k_59 : Nat → Int32 → Int32 → Int32 → Int32 → Int32 → Int32 → Int32 → Option (Int32) => ∀ (h0 : Nat) (x1 : Int32) (x2 : Int32) (x3 : Int32) (x4 : Int32) (x5 : Int32) (x6 : Int32) (x7 : Int32) (H : Heap) (locs : List Loc) (ls : Array Slot), ez_S X B s.heap (n0) σ H locs → k_59 h0 x1 x2 x3 x4 x5 x6 x7 = some z → lv_has ls 11 [(0, .ref (B + h0)), (1, .int x1), (2, .int x2), (3, .int x3), (4, .int x4), (5, .int x5), (6, .int x6), (7, .int x7)] → W p l e R s m args below meth c H locs 0 0 Q (F0 m 59 ls [])) (fun _ _ _ _ _ _ _ _ _ _ _ _ h _ => by cases h) (fun k_59 hk_59 => K_59 k_59 hk_59) ez_N
  refine lv_aload_n hx hb dX2_exchange_0 rfl (lv_at hl 0 rfl) ?_
  refine eg_RX2_15 hC hS h dX2_exchange_1 (fun t_1 h => ?_)
  refine lv_iload_n hx hb dX2_exchange_4 rfl (lv_at hl 1 rfl) ?_
  refine lv_aload_n hx hb dX2_exchange_5 rfl (lv_at hl 0 rfl) ?_
  refine eg_RX2_9 hC hS h dX2_exchange_6 (fun t_6 h => ?_)
  refine eg_RX2_33 hC hS h dX2_exchange_9 (fun t_9 h => ?_)
  refine ez_cVpi (As := [.int x1, .int t_9]) (rest := []) h (fun _ q => c_X7_heldBy q) hC k_X7_heldBy ql_RX2_78 rfl (by decide) hS (fun _ q => ez_rcv q) rfl hl.1 rfl (Nat.le_of_ble_eq_true rfl) ⟨Nat.zero_le _, Nat.zero_le _⟩ dX2_exchange_12 (fun t_12 H locs hS h => ?_)
  refine lv_istore_n (lv' := [(3, .int t_12), (0, .ref (B + h0)), (1, .int x1), (2, .int x2)]) hx hb dX2_exchange_15 rfl hl (by decide) rfl (fun ls hl => ?_)
  refine lv_aload_n hx hb dX2_exchange_16 rfl (lv_at hl 1 rfl) ?_
  refine eg_RX2_15 hC hS h dX2_exchange_17 (fun t_17 h => ?_)
  refine lv_iload_n hx hb dX2_exchange_20 rfl (lv_at hl 3 rfl) ?_
  refine lv_aload_n hx hb dX2_exchange_21 rfl (lv_at hl 1 rfl) ?_
  refine eg_RX2_9 hC hS h dX2_exchange_22 (fun t_22 h => ?_)
  refine eg_RX2_33 hC hS h dX2_exchange_25 (fun t_25 h => ?_)
  refine ez_cVpi (As := [.int x2, .int t_25]) (rest := []) h (fun _ q => c_X7_heldBy q) hC k_X7_heldBy ql_RX2_78 rfl (by decide) hS (fun _ q => ez_rcv q) rfl hl.1 rfl (Nat.le_of_ble_eq_true rfl) ⟨Nat.zero_le _, Nat.zero_le _⟩ dX2_exchange_28 (fun t_28 H locs hS h => ?_)
  refine lv_istore (lv' := [(4, .int t_28), (3, .int t_12), (0, .ref (B + h0)), (1, .int x1), (2, .int x2)]) hx hb dX2_exchange_31 hl (by decide) rfl (fun ls hl => ?_)
  refine lv_aload_n hx hb dX2_exchange_33 rfl (lv_at hl 2 rfl) ?_
  refine lv_iload_n hx hb dX2_exchange_34 rfl (lv_at hl 3 rfl) ?_
  refine lv_iload_n hx hb dX2_exchange_35 rfl (lv_at hl 1 rfl) ?_
  refine ez_cVpi (As := [.int x1, .int t_12]) (rest := []) h (fun _ q => c_X2_reachWith q) hC k_X2_reachWith ql_RX2_81 rfl (by decide) hS (fun _ q => ez_rcv q) rfl hl.1 rfl (Nat.le_of_ble_eq_true rfl) ⟨Nat.zero_le _, Nat.zero_le _⟩ dX2_exchange_36 (fun t_36 H locs hS h => ?_)
  refine ez_cSpi (As := [.int t_36]) (rest := []) h (fun _ q => c_J6_bitCount_0f7a4 q) hC k_J6_bitCount_0f7a4 ql_RX2_115 rfl (by decide) hS hl.1 rfl (Nat.le_of_ble_eq_true rfl) ⟨Nat.zero_le _, Nat.zero_le _⟩ dX2_exchange_39 (fun t_39 H locs hS h => ?_)
  refine lv_istore (lv' := [(5, .int t_39), (4, .int t_28), (3, .int t_12), (0, .ref (B + h0)), (1, .int x1), (2, .int x2)]) hx hb dX2_exchange_42 hl (by decide) rfl (fun ls hl => ?_)
  refine lv_aload_n hx hb dX2_exchange_44 rfl (lv_at hl 3 rfl) ?_
  refine lv_iload_n hx hb dX2_exchange_45 rfl (lv_at hl 5 rfl) ?_
  refine lv_iload hx hb dX2_exchange_46 (lv_at hl 1 rfl) ?_
  refine ez_cVpi (As := [.int x2, .int t_28]) (rest := []) h (fun _ q => c_X2_reachWith q) hC k_X2_reachWith ql_RX2_81 rfl (by decide) hS (fun _ q => ez_rcv q) rfl hl.1 rfl (Nat.le_of_ble_eq_true rfl) ⟨Nat.zero_le _, Nat.zero_le _⟩ dX2_exchange_48 (fun t_48 H locs hS h => ?_)
  refine ez_cSpi (As := [.int t_48]) (rest := []) h (fun _ q => c_J6_bitCount_0f7a4 q) hC k_J6_bitCount_0f7a4 ql_RX2_115 rfl (by decide) hS hl.1 rfl (Nat.le_of_ble_eq_true rfl) ⟨Nat.zero_le _, Nat.zero_le _⟩ dX2_exchange_51 (fun t_51 H locs hS h => ?_)
  refine lv_istore (lv' := [(6, .int t_51), (5, .int t_39), (4, .int t_28), (3, .int t_12), (0, .ref (B + h0)), (1, .int x1), (2, .int x2)]) hx hb dX2_exchange_54 hl (by decide) rfl (fun ls hl => ?_)
  refine lv_iconst (v := 0) hx hb dX2_exchange_56 (by decide) ?_
  refine lv_istore (lv' := [(7, .int 0), (6, .int t_51), (5, .int t_39), (4, .int t_28), (3, .int t_12), (0, .ref (B + h0)), (1, .int x1), (2, .int x2)]) hx hb dX2_exchange_57 hl (by decide) rfl (fun ls hl => ?_)
  exact E_59  h0 x1 x2 t_12 t_28 t_39 t_51 (0 : Int32) _ _ _ hS h (lv_sub hl [5, 6, 7, 4, 3, 2, 1, 0] rfl)
set_option maxHeartbeats 4000000 in
set_option maxRecDepth 100000 in
theorem c_X11_trade {l : Launch} {X : ez_X} {B : Nat} {σ : ez_H} {h0 : Nat} {x1 : Int32} {x2 : Int32} {x3 : Int32} {z : Int32} (h : z_X11_trade σ h0 x1 x2 x3 = some z) : ez_M l X B σ yX11_trade cX11_trade 5 (some .int) 5 [.ref (B + h0), .int x1, .int x2, .int x3] (some (.int z)) σ := by
  refine ez_startip (z := z) (by decide) (Nat.le_of_ble_eq_true rfl) (fun p e R s m args below meth c Q hC hret hS ls hl => ?_)
  have hC : ez_C p R s m args c X B RX11 cX11_trade 5 5 := hC
  have hx := hC.1.1
  have hb := hC.1.2.1
  have hown := hC.1.2.2.2.1
  have hts := hC.1.2.2.2.2
  have hl : lv_has ls 5 [(0, .ref (B + h0)), (1, .int x1), (2, .int x2), (3, .int x3)] := hl
  obtain ⟨n0, e0⟩ : ∃ n0 : Nat, n0 = σ.length := ⟨_, rfl⟩
  rw [← e0] at hret hS
  obtain ⟨-, h⟩ := ez_in h
  have K_36 : ∀ (H : Heap) (locs : List Loc) (ls : Array Slot), ez_S X B s.heap (n0) σ H locs → z_X11_trade_36 σ = some z → lv_has ls 5 [] → W p l e R s m args below meth c H locs 0 0 Q (F0 m 36 ls []) := by
    intro  H locs ls hS h hl
    refine lv_iconst (v := -1) hx hb dX11_trade_36 (by decide) ?_
    exact hret _ _ _ _ _ (Option.some.inj h) rfl hS dX11_trade_37
  have K_74 : ∀ (y0 : Int32) (H : Heap) (locs : List Loc) (ls : Array Slot), ez_S X B s.heap (n0) σ H locs → z_X11_trade_74 σ y0 = some z → lv_has ls 5 [] → W p l e R s m args below meth c H locs 0 0 Q (F0 m 74 ls [.int y0]) := by
    intro y0 H locs ls hS h hl
    exact hret _ _ _ _ _ (Option.some.inj h) rfl hS dX11_trade_74
  refine lv_aload_n hx hb dX11_trade_0 rfl (lv_at hl 0 rfl) ?_
  refine eg_RX11_29 hC hS h dX11_trade_1 (fun t_1 h => ?_)
  refine lv_iload_n hx hb dX11_trade_4 rfl (lv_at hl 1 rfl) ?_
  refine ez_cVpi (As := [.int x1]) (rest := []) h (fun _ q => c_X3_hasPerson q) hC k_X3_hasPerson ql_RX11_200 rfl (by decide) hS (fun _ q => ez_rcv q) rfl hl.1 rfl (Nat.le_of_ble_eq_true rfl) ⟨Nat.zero_le _, Nat.zero_le _⟩ dX11_trade_5 (fun t_5 H locs hS h => ?_)
  refine lv_if_eq (tgt := 36) hx hb dX11_trade_8 (by decide) (fun c_8 => ?_) (fun c_8 => ?_)
  · replace h := ez_ifp h c_8
    exact K_36   _ _ _ hS h (lv_sub hl [] rfl)
  · replace h := ez_ifn h c_8
    refine lv_aload_n hx hb dX11_trade_11 rfl (lv_at hl 0 rfl) ?_
    refine eg_RX11_29 hC hS h dX11_trade_12 (fun t_12 h => ?_)
    refine lv_iload_n hx hb dX11_trade_15 rfl (lv_at hl 2 rfl) ?_
    refine ez_cVpi (As := [.int x2]) (rest := []) h (fun _ q => c_X3_hasPerson q) hC k_X3_hasPerson ql_RX11_200 rfl (by decide) hS (fun _ q => ez_rcv q) rfl hl.1 rfl (Nat.le_of_ble_eq_true rfl) ⟨Nat.zero_le _, Nat.zero_le _⟩ dX11_trade_16 (fun t_16 H locs hS h => ?_)
    refine lv_if_eq (tgt := 36) hx hb dX11_trade_19 (by decide) (fun c_19 => ?_) (fun c_19 => ?_)
    · replace h := ez_ifp h c_19
      exact K_36   _ _ _ hS h (lv_sub hl [] rfl)
    · replace h := ez_ifn h c_19
      refine lv_iload_n hx hb dX11_trade_22 rfl (lv_at hl 1 rfl) ?_
      refine lv_iload_n hx hb dX11_trade_23 rfl (lv_at hl 2 rfl) ?_
      refine lv_icmp_eq (tgt := 36) hx hb dX11_trade_24 (by decide) (fun c_24 => ?_) (fun c_24 => ?_)
      · replace h := ez_ifp h c_24
        exact K_36   _ _ _ hS h (lv_sub hl [] rfl)
      · replace h := ez_ifn h c_24
        refine lv_iload_n hx hb dX11_trade_27 rfl (lv_at hl 3 rfl) ?_
        refine lv_if_lt (tgt := 36) hx hb dX11_trade_28 (by decide) (fun c_28 => ?_) (fun c_28 => ?_)
        · replace h := ez_ifp h c_28
          exact K_36   _ _ _ hS h (lv_sub hl [] rfl)
        · replace h := ez_ifn h c_28
          refine lv_iload_n hx hb dX11_trade_31 rfl (lv_at hl 3 rfl) ?_
          refine lv_iconst (v := 1) hx hb dX11_trade_32 (by decide) ?_
          refine lv_icmp_le (tgt := 38) hx hb dX11_trade_33 (by decide) (fun c_33 => ?_) (fun c_33 => ?_)
          · replace h := ez_ifp h c_33
            refine lv_aload_n hx hb dX11_trade_38 rfl (lv_at hl 0 rfl) ?_
            refine eg_RX11_79 hC hS h dX11_trade_39 (fun t_39 h => ?_)
            refine lv_iload_n hx hb dX11_trade_42 rfl (lv_at hl 1 rfl) ?_
            refine lv_iload_n hx hb dX11_trade_43 rfl (lv_at hl 2 rfl) ?_
            refine ez_cVpi (As := [.int x1, .int x2]) (rest := []) h (fun _ q => c_X2_exchange q) hC k_X2_exchange ql_RX11_371 rfl (by decide) hS (fun _ q => ez_rcv q) rfl hl.1 rfl (Nat.le_of_ble_eq_true rfl) ⟨Nat.zero_le _, Nat.zero_le _⟩ dX11_trade_44 (fun t_44 H locs hS h => ?_)
            refine lv_istore (lv' := [(4, .int t_44), (0, .ref (B + h0)), (1, .int x1), (2, .int x2), (3, .int x3)]) hx hb dX11_trade_47 hl (by decide) rfl (fun ls hl => ?_)
            refine lv_iload hx hb dX11_trade_49 (lv_at hl 0 rfl) ?_
            refine lv_iconst (v := -1) hx hb dX11_trade_51 (by decide) ?_
            refine lv_icmp_ne (tgt := 57) hx hb dX11_trade_52 (by decide) (fun c_52 => ?_) (fun c_52 => ?_)
            · replace h := ez_ifn h c_52
              refine lv_iload_n hx hb dX11_trade_57 rfl (lv_at hl 4 rfl) ?_
              refine lv_if_ne (tgt := 69) hx hb dX11_trade_58 (by decide) (fun c_58 => ?_) (fun c_58 => ?_)
              · replace h := ez_ifn h c_58
                refine lv_iload hx hb dX11_trade_69 (lv_at hl 0 rfl) ?_
                refine lv_bipush (v := 8) hx hb dX11_trade_71 (by decide) ?_
                obtain ⟨nz_73, h⟩ := ez_nz_sp h
                refine lv_irem hx hb dX11_trade_73 nz_73 ?_
                refine ez_top h (fun t_73 h => ?_)
                exact K_74  t_73 _ _ _ hS h (lv_sub hl [] rfl)
              · replace h := ez_ifp h c_58
                refine lv_iload hx hb dX11_trade_61 (lv_at hl 0 rfl) ?_
                refine lv_bipush (v := 8) hx hb dX11_trade_63 (by decide) ?_
                obtain ⟨nz_65, h⟩ := ez_nz_sp h
                refine lv_idiv hx hb dX11_trade_65 nz_65 ?_
                refine ez_top h (fun t_65 h => ?_)
                refine lv_goto (tgt := 74) hx hb dX11_trade_66 (by decide) ?_
                exact K_74  t_65 _ _ _ hS h (lv_sub hl [] rfl)
            · replace h := ez_ifp h c_52
              refine lv_iconst (v := -1) hx hb dX11_trade_55 (by decide) ?_
              exact hret _ _ _ _ _ (Option.some.inj h) rfl hS dX11_trade_56
          · replace h := ez_ifn h c_33
            exact K_36   _ _ _ hS h (lv_sub hl [] rfl)
set_option maxHeartbeats 4000000 in
set_option maxRecDepth 100000 in
theorem c_X10_tell {l : Launch} {X : ez_X} {B : Nat} {σ : ez_H} {h0 : Nat} {x1 : Int32} {x2 : Int32} {z : Int32 × ez_H} (h : z_X10_tell σ h0 x1 x2 = some z) : ez_M l X B σ yX10_tell cX10_tell 3 (some .int) 0 [.ref (B + h0), .int x1, .int x2] (some (.int z.1)) z.2 := by
  refine ez_starti (z := z) (by decide) (Nat.le_of_ble_eq_true rfl) (fun p e R s m args below meth c Q hC hret hS ls hl => ?_)
  have hC : ez_C p R s m args c X B RX10 cX10_tell 3 0 := hC
  have hx := hC.1.1
  have hb := hC.1.2.1
  have hown := hC.1.2.2.2.1
  have hts := hC.1.2.2.2.2
  have hl : lv_has ls 3 [(0, .ref (B + h0)), (1, .int x1), (2, .int x2)] := hl
  obtain ⟨σ0, eσ⟩ : ∃ σ0 : ez_H, σ0 = σ := ⟨_, rfl⟩
  rw [← eσ] at hret
  have hS : ez_S X B s.heap σ0.length σ s.heap [] := eσ ▸ hS
  obtain ⟨-, h⟩ := ez_in h
  have K_16 : ∀ (σ : ez_H) (H : Heap) (locs : List Loc) (ls : Array Slot), ez_S X B s.heap (σ0.length) σ H locs → z_X10_tell_16 σ = some z → lv_has ls 3 [] → W p l e R s m args below meth c H locs 0 0 Q (F0 m 16 ls []) := by
    intro σ H locs ls hS h hl
    refine lv_iconst (v := -1) hx hb dX10_tell_16 (by decide) ?_
    exact hret _ _ _ _ _ _ (Option.some.inj h) rfl hS dX10_tell_17
  refine lv_aload_n hx hb dX10_tell_0 rfl (lv_at hl 0 rfl) ?_
  refine eg_RX10_25 hC hS h dX10_tell_1 (fun t_1 h => ?_)
  refine lv_if_lt (tgt := 16) hx hb dX10_tell_4 (by decide) (fun c_4 => ?_) (fun c_4 => ?_)
  · replace h := ez_ifp h c_4
    exact K_16  σ _ _ _ hS h (lv_sub hl [] rfl)
  · replace h := ez_ifn h c_4
    refine lv_aload_n hx hb dX10_tell_7 rfl (lv_at hl 0 rfl) ?_
    refine eg_RX10_25 hC hS h dX10_tell_8 (fun t_8 h => ?_)
    refine lv_bipush (v := 30) hx hb dX10_tell_11 (by decide) ?_
    refine lv_icmp_lt (tgt := 18) hx hb dX10_tell_13 (by decide) (fun c_13 => ?_) (fun c_13 => ?_)
    · replace h := ez_ifp h c_13
      refine lv_aload_n hx hb dX10_tell_18 rfl (lv_at hl 0 rfl) ?_
      refine eg_RX10_11 hC hS h dX10_tell_19 (fun t_19 h => ?_)
      refine lv_aload_n hx hb dX10_tell_22 rfl (lv_at hl 0 rfl) ?_
      refine eg_RX10_25 hC hS h dX10_tell_23 (fun t_23 h => ?_)
      refine lv_iload_n hx hb dX10_tell_26 rfl (lv_at hl 1 rfl) ?_
      refine ez_ias hC hS h dX10_tell_27 (fun σ H locs hS h => ?_)
      refine lv_aload_n hx hb dX10_tell_28 rfl (lv_at hl 0 rfl) ?_
      refine eg_RX10_15 hC hS h dX10_tell_29 (fun t_29 h => ?_)
      refine lv_aload_n hx hb dX10_tell_32 rfl (lv_at hl 0 rfl) ?_
      refine eg_RX10_25 hC hS h dX10_tell_33 (fun t_33 h => ?_)
      refine lv_iload_n hx hb dX10_tell_36 rfl (lv_at hl 2 rfl) ?_
      refine ez_zas hC hS h dX10_tell_37 (fun σ H locs hS h => ?_)
      refine lv_aload_n hx hb dX10_tell_38 rfl (lv_at hl 0 rfl) ?_
      refine eg_RX10_19 hC hS h dX10_tell_39 (fun t_39 h => ?_)
      refine lv_aload_n hx hb dX10_tell_42 rfl (lv_at hl 0 rfl) ?_
      refine eg_RX10_25 hC hS h dX10_tell_43 (fun t_43 h => ?_)
      refine lv_aload_n hx hb dX10_tell_46 rfl (lv_at hl 0 rfl) ?_
      refine eg_RX10_29 hC hS h dX10_tell_47 (fun t_47 h => ?_)
      refine ez_ias hC hS h dX10_tell_50 (fun σ H locs hS h => ?_)
      refine lv_aload_n hx hb dX10_tell_51 rfl (lv_at hl 0 rfl) ?_
      refine eg_RX10_22 hC hS h dX10_tell_52 (fun t_52 h => ?_)
      refine lv_aload_n hx hb dX10_tell_55 rfl (lv_at hl 0 rfl) ?_
      refine eg_RX10_25 hC hS h dX10_tell_56 (fun t_56 h => ?_)
      refine lv_iconst (v := -1) hx hb dX10_tell_59 (by decide) ?_
      refine ez_ias hC hS h dX10_tell_60 (fun σ H locs hS h => ?_)
      refine lv_aload_n hx hb dX10_tell_61 rfl (lv_at hl 0 rfl) ?_
      refine lv_dup hx hb dX10_tell_62 rfl ?_
      refine eg_RX10_25 hC hS h dX10_tell_63 (fun t_63 h => ?_)
      refine lv_iconst (v := 1) hx hb dX10_tell_66 (by decide) ?_
      refine lv_iadd hx hb dX10_tell_67 ?_
      refine ez_top h (fun t_67 h => ?_)
      refine ep_RX10_25 hC hS h dX10_tell_68 (fun σ H locs hS h => ?_)
      refine lv_aload_n hx hb dX10_tell_71 rfl (lv_at hl 0 rfl) ?_
      refine eg_RX10_25 hC hS h dX10_tell_72 (fun t_72 h => ?_)
      refine lv_iconst (v := 1) hx hb dX10_tell_75 (by decide) ?_
      refine lv_isub hx hb dX10_tell_76 ?_
      refine ez_top h (fun t_76 h => ?_)
      exact hret _ _ _ _ _ _ (Option.some.inj h) rfl hS dX10_tell_77
    · replace h := ez_ifn h c_13
      exact K_16  σ _ _ _ hS h (lv_sub hl [] rfl)
set_option maxHeartbeats 4000000 in
set_option maxRecDepth 100000 in
theorem c_X11_tried {l : Launch} {X : ez_X} {B : Nat} {σ : ez_H} {h0 : Nat} {x1 : Int32} {x2 : Int32} {z : Int32 × ez_H} (h : z_X11_tried σ h0 x1 x2 = some z) : ez_M l X B σ yX11_tried cX11_tried 3 (some .int) 1 [.ref (B + h0), .int x1, .int x2] (some (.int z.1)) z.2 := by
  refine ez_starti (z := z) (by decide) (Nat.le_of_ble_eq_true rfl) (fun p e R s m args below meth c Q hC hret hS ls hl => ?_)
  have hC : ez_C p R s m args c X B RX11 cX11_tried 3 1 := hC
  have hx := hC.1.1
  have hb := hC.1.2.1
  have hown := hC.1.2.2.2.1
  have hts := hC.1.2.2.2.2
  have hl : lv_has ls 3 [(0, .ref (B + h0)), (1, .int x1), (2, .int x2)] := hl
  obtain ⟨σ0, eσ⟩ : ∃ σ0 : ez_H, σ0 = σ := ⟨_, rfl⟩
  rw [← eσ] at hret
  have hS : ez_S X B s.heap σ0.length σ s.heap [] := eσ ▸ hS
  obtain ⟨-, h⟩ := ez_in h
  have K_24 : ∀ (σ : ez_H) (y0 : Int32) (H : Heap) (locs : List Loc) (ls : Array Slot), ez_S X B s.heap (σ0.length) σ H locs → z_X11_tried_24 σ y0 = some z → lv_has ls 3 [] → W p l e R s m args below meth c H locs 0 0 Q (F0 m 24 ls [.int y0]) := by
    intro σ y0 H locs ls hS h hl
    exact hret _ _ _ _ _ _ (Option.some.inj h) rfl hS dX11_tried_24
  refine lv_aload_n hx hb dX11_tried_0 rfl (lv_at hl 0 rfl) ?_
  refine eg_RX11_29 hC hS h dX11_tried_1 (fun t_1 h => ?_)
  refine lv_iload_n hx hb dX11_tried_4 rfl (lv_at hl 1 rfl) ?_
  refine ez_cVpi (As := [.int x1]) (rest := []) h (fun _ q => c_X3_hasLock q) hC k_X3_hasLock ql_RX11_165 rfl (by decide) hS (fun _ q => ez_rcv q) rfl hl.1 rfl (Nat.le_of_ble_eq_true rfl) ⟨Nat.zero_le _, Nat.zero_le _⟩ dX11_tried_5 (fun t_5 H locs hS h => ?_)
  refine lv_if_eq (tgt := 23) hx hb dX11_tried_8 (by decide) (fun c_8 => ?_) (fun c_8 => ?_)
  · replace h := ez_ifp h c_8
    refine lv_iconst (v := -1) hx hb dX11_tried_23 (by decide) ?_
    exact K_24  σ (-1 : Int32) _ _ _ hS h (lv_sub hl [] rfl)
  · replace h := ez_ifn h c_8
    refine lv_aload_n hx hb dX11_tried_11 rfl (lv_at hl 0 rfl) ?_
    refine eg_RX11_93 hC hS h dX11_tried_12 (fun t_12 h => ?_)
    refine lv_iload_n hx hb dX11_tried_15 rfl (lv_at hl 1 rfl) ?_
    refine lv_iload_n hx hb dX11_tried_16 rfl (lv_at hl 2 rfl) ?_
    refine ez_cVi (As := [.int x1, .int x2]) (rest := []) h (fun _ q => c_X10_tell q) hC k_X10_tell ql_RX11_404 rfl (by decide) hS (fun _ q => ez_rcv q) rfl hl.1 rfl (Nat.le_of_ble_eq_true rfl) ⟨Nat.zero_le _, Nat.zero_le _⟩ dX11_tried_17 (fun t_17 σ H locs hS h => ?_)
    refine lv_goto (tgt := 24) hx hb dX11_tried_20 (by decide) ?_
    exact K_24  σ t_17 _ _ _ hS h (lv_sub hl [] rfl)
set_option maxHeartbeats 4000000 in
set_option maxRecDepth 100000 in
theorem c_X11_twin {l : Launch} {X : ez_X} {B : Nat} {σ : ez_H} {h0 : Nat} {x1 : Int32} {z : Int32} (h : z_X11_twin σ h0 x1 = some z) : ez_M l X B σ yX11_twin cX11_twin 6 (some .int) 3 [.ref (B + h0), .int x1] (some (.int z)) σ := by
  refine ez_startip (z := z) (by decide) (Nat.le_of_ble_eq_true rfl) (fun p e R s m args below meth c Q hC hret hS ls hl => ?_)
  have hC : ez_C p R s m args c X B RX11 cX11_twin 6 3 := hC
  have hx := hC.1.1
  have hb := hC.1.2.1
  have hown := hC.1.2.2.2.1
  have hts := hC.1.2.2.2.2
  have hl : lv_has ls 6 [(0, .ref (B + h0)), (1, .int x1)] := hl
  obtain ⟨n0, e0⟩ : ∃ n0 : Nat, n0 = σ.length := ⟨_, rfl⟩
  rw [← e0] at hret hS
  obtain ⟨-, h⟩ := ez_in h
  have K_81 : ∀ (k_20 : Nat → Int32 → Int32 → Int32 → Int32 → Option (Int32)) (hk_20 : ∀ (h0 : Nat) (x1 : Int32) (x2 : Int32) (x3 : Int32) (x4 : Int32) (H : Heap) (locs : List Loc) (ls : Array Slot), ez_S X B s.heap (n0) σ H locs → k_20 h0 x1 x2 x3 x4 = some z → lv_has ls 6 [(0, .ref (B + h0)), (1, .int x1), (2, .int x2), (3, .int x3), (4, .int x4)] → W p l e R s m args below meth c H locs 0 0 Q (F0 m 20 ls [])), ∀ (h0 : Nat) (x1 : Int32) (x2 : Int32) (x3 : Int32) (x4 : Int32) (H : Heap) (locs : List Loc) (ls : Array Slot), ez_S X B s.heap (n0) σ H locs → z_X11_twin_81 σ k_20 h0 x1 x2 x3 x4 = some z → lv_has ls 6 [(0, .ref (B + h0)), (1, .int x1), (2, .int x2), (3, .int x3), (4, .int x4)] → W p l e R s m args below meth c H locs 0 0 Q (F0 m 81 ls []) := by
    intro k_20 hk_20 h0 x1 x2 x3 x4 H locs ls hS h hl
    obtain ⟨t_81, e_81, h⟩ := ez_let_sp h
    refine lv_iinc (v := t_81) (lv' := [(4, .int t_81), (0, .ref (B + h0)), (1, .int x1), (2, .int x2), (3, .int x3)]) hx hb dX11_twin_81 hl (k := 4) rfl (by rw [e_81]; rfl) (by decide) rfl (fun ls hl => ?_)
    refine lv_goto (tgt := 20) hx hb dX11_twin_84 (by decide) ?_
    exact hk_20 h0 x1 x2 x3 t_81 _ _ _ hS h (lv_sub hl [1, 2, 3, 4, 0] rfl)
  have K_75 : ∀ (k_20 : Nat → Int32 → Int32 → Int32 → Int32 → Option (Int32)) (hk_20 : ∀ (h0 : Nat) (x1 : Int32) (x2 : Int32) (x3 : Int32) (x4 : Int32) (H : Heap) (locs : List Loc) (ls : Array Slot), ez_S X B s.heap (n0) σ H locs → k_20 h0 x1 x2 x3 x4 = some z → lv_has ls 6 [(0, .ref (B + h0)), (1, .int x1), (2, .int x2), (3, .int x3), (4, .int x4)] → W p l e R s m args below meth c H locs 0 0 Q (F0 m 20 ls [])), ∀ (h0 : Nat) (x1 : Int32) (x4 : Int32) (x5 : Int32) (H : Heap) (locs : List Loc) (ls : Array Slot), ez_S X B s.heap (n0) σ H locs → z_X11_twin_75 σ k_20 h0 x1 x4 x5 = some z → lv_has ls 6 [(0, .ref (B + h0)), (1, .int x1), (4, .int x4), (5, .int x5)] → W p l e R s m args below meth c H locs 0 0 Q (F0 m 75 ls []) := by
    intro k_20 hk_20 h0 x1 x4 x5 H locs ls hS h hl
    refine lv_iload hx hb dX11_twin_75 (lv_at hl 2 rfl) ?_
    refine lv_istore_n (lv' := [(2, .int x4), (0, .ref (B + h0)), (1, .int x1), (4, .int x4), (5, .int x5)]) hx hb dX11_twin_77 rfl hl (by decide) rfl (fun ls hl => ?_)
    refine lv_iload hx hb dX11_twin_78 (lv_at hl 4 rfl) ?_
    refine lv_istore_n (lv' := [(3, .int x5), (2, .int x4), (0, .ref (B + h0)), (1, .int x1), (4, .int x4), (5, .int x5)]) hx hb dX11_twin_80 rfl hl (by decide) rfl (fun ls hl => ?_)
    exact K_81 k_20 hk_20 h0 x1 x4 x5 x4 _ _ _ hS h (lv_sub hl [2, 3, 1, 0, 4] rfl)
  have K_20 : ∀ (k_20 : Nat → Int32 → Int32 → Int32 → Int32 → Option (Int32)) (hk_20 : ∀ (h0 : Nat) (x1 : Int32) (x2 : Int32) (x3 : Int32) (x4 : Int32) (H : Heap) (locs : List Loc) (ls : Array Slot), ez_S X B s.heap (n0) σ H locs → k_20 h0 x1 x2 x3 x4 = some z → lv_has ls 6 [(0, .ref (B + h0)), (1, .int x1), (2, .int x2), (3, .int x3), (4, .int x4)] → W p l e R s m args below meth c H locs 0 0 Q (F0 m 20 ls [])), ∀ (h0 : Nat) (x1 : Int32) (x2 : Int32) (x3 : Int32) (x4 : Int32) (H : Heap) (locs : List Loc) (ls : Array Slot), ez_S X B s.heap (n0) σ H locs → z_X11_twin_20 σ k_20 h0 x1 x2 x3 x4 = some z → lv_has ls 6 [(0, .ref (B + h0)), (1, .int x1), (2, .int x2), (3, .int x3), (4, .int x4)] → W p l e R s m args below meth c H locs 0 0 Q (F0 m 20 ls []) := by
    intro k_20 hk_20 h0 x1 x2 x3 x4 H locs ls hS h hl
    refine lv_iload hx hb dX11_twin_20 (lv_at hl 4 rfl) ?_
    refine lv_aload_n hx hb dX11_twin_22 rfl (lv_at hl 0 rfl) ?_
    refine eg_RX11_29 hC hS h dX11_twin_23 (fun t_23 h => ?_)
    refine eg_RX11_128 hC hS h dX11_twin_26 (fun t_26 h => ?_)
    refine lv_icmp_ge (tgt := 87) hx hb dX11_twin_29 (by decide) (fun c_29 => ?_) (fun c_29 => ?_)
    · replace h := ez_ifp h c_29
      refine lv_iload_n hx hb dX11_twin_87 rfl (lv_at hl 2 rfl) ?_
      exact hret _ _ _ _ _ (Option.some.inj h) rfl hS dX11_twin_88
    · replace h := ez_ifn h c_29
      refine lv_aload_n hx hb dX11_twin_32 rfl (lv_at hl 0 rfl) ?_
      refine eg_RX11_37 hC hS h dX11_twin_33 (fun t_33 h => ?_)
      refine lv_aload_n hx hb dX11_twin_36 rfl (lv_at hl 0 rfl) ?_
      refine eg_RX11_41 hC hS h dX11_twin_37 (fun t_37 h => ?_)
      refine lv_iload_n hx hb dX11_twin_40 rfl (lv_at hl 1 rfl) ?_
      refine ez_cVpi (As := [.int x1]) (rest := [.ref (B + t_33)]) h (fun _ q => c_X7_bits q) hC k_X7_bits ql_RX11_140 rfl (by decide) hS (fun _ q => ez_rcv q) rfl hl.1 rfl (Nat.le_of_ble_eq_true rfl) ⟨Nat.zero_le _, Nat.zero_le _⟩ dX11_twin_41 (fun t_41 H locs hS h => ?_)
      refine lv_aload_n hx hb dX11_twin_44 rfl (lv_at hl 0 rfl) ?_
      refine eg_RX11_41 hC hS h dX11_twin_45 (fun t_45 h => ?_)
      refine lv_iload hx hb dX11_twin_48 (lv_at hl 4 rfl) ?_
      refine ez_cVpi (As := [.int x4]) (rest := [.int t_41, .ref (B + t_33)]) h (fun _ q => c_X7_bits q) hC k_X7_bits ql_RX11_140 rfl (by decide) hS (fun _ q => ez_rcv q) rfl hl.1 rfl (Nat.le_of_ble_eq_true rfl) ⟨Nat.zero_le _, Nat.zero_le _⟩ dX11_twin_50 (fun t_50 H locs hS h => ?_)
      refine ez_cVpi (As := [.int t_41, .int t_50]) (rest := []) h (fun _ q => c_X6_apart q) hC k_X6_apart ql_RX11_343 rfl (by decide) hS (fun _ q => ez_rcv q) rfl hl.1 rfl (Nat.le_of_ble_eq_true rfl) ⟨Nat.zero_le _, Nat.zero_le _⟩ dX11_twin_53 (fun t_53 H locs hS h => ?_)
      refine lv_istore (lv' := [(5, .int t_53), (0, .ref (B + h0)), (1, .int x1), (2, .int x2), (3, .int x3), (4, .int x4)]) hx hb dX11_twin_56 hl (by decide) rfl (fun ls hl => ?_)
      refine lv_iload hx hb dX11_twin_58 (lv_at hl 5 rfl) ?_
      refine lv_iload_n hx hb dX11_twin_60 rfl (lv_at hl 2 rfl) ?_
      refine lv_icmp_eq (tgt := 81) hx hb dX11_twin_61 (by decide) (fun c_61 => ?_) (fun c_61 => ?_)
      · replace h := ez_ifp h c_61
        exact K_81 k_20 hk_20 h0 x1 x2 x3 x4 _ _ _ hS h (lv_sub hl [1, 2, 3, 4, 5] rfl)
      · replace h := ez_ifn h c_61
        refine lv_iload_n hx hb dX11_twin_64 rfl (lv_at hl 3 rfl) ?_
        refine lv_iconst (v := -1) hx hb dX11_twin_65 (by decide) ?_
        refine lv_icmp_eq (tgt := 75) hx hb dX11_twin_66 (by decide) (fun c_66 => ?_) (fun c_66 => ?_)
        · replace h := ez_ifp h c_66
          exact K_75 k_20 hk_20 h0 x1 x4 t_53 _ _ _ hS h (lv_sub hl [1, 2, 5, 0] rfl)
        · replace h := ez_ifn h c_66
          refine lv_iload hx hb dX11_twin_69 (lv_at hl 0 rfl) ?_
          refine lv_iload_n hx hb dX11_twin_71 rfl (lv_at hl 4 rfl) ?_
          refine lv_icmp_ge (tgt := 81) hx hb dX11_twin_72 (by decide) (fun c_72 => ?_) (fun c_72 => ?_)
          · replace h := ez_ifp h c_72
            exact K_81 k_20 hk_20 h0 x1 x2 x3 x4 _ _ _ hS h (lv_sub hl [1, 2, 3, 4, 5] rfl)
          · replace h := ez_ifn h c_72
            exact K_75 k_20 hk_20 h0 x1 x4 t_53 _ _ _ hS h (lv_sub hl [1, 2, 5, 0] rfl)
  have E_20 : ∀ (h0 : Nat) (x1 : Int32) (x2 : Int32) (x3 : Int32) (x4 : Int32) (H : Heap) (locs : List Loc) (ls : Array Slot), ez_S X B s.heap (n0) σ H locs → (ez_fix (fun _ _ _ _ _ => none) (z_X11_twin_20 σ) ez_N) h0 x1 x2 x3 x4 = some z → lv_has ls 6 [(0, .ref (B + h0)), (1, .int x1), (2, .int x2), (3, .int x3), (4, .int x4)] → W p l e R s m args below meth c H locs 0 0 Q (F0 m 20 ls []) := ez_fix_ind (fun k_20 : Nat → Int32 → Int32 → Int32 → Int32 → Option (Int32) => ∀ (h0 : Nat) (x1 : Int32) (x2 : Int32) (x3 : Int32) (x4 : Int32) (H : Heap) (locs : List Loc) (ls : Array Slot), ez_S X B s.heap (n0) σ H locs → k_20 h0 x1 x2 x3 x4 = some z → lv_has ls 6 [(0, .ref (B + h0)), (1, .int x1), (2, .int x2), (3, .int x3), (4, .int x4)] → W p l e R s m args below meth c H locs 0 0 Q (F0 m 20 ls [])) (fun _ _ _ _ _ _ _ _ _ h _ => by cases h) (fun k_20 hk_20 => K_20 k_20 hk_20) ez_N
  refine lv_aload_n hx hb dX11_twin_0 rfl (lv_at hl 0 rfl) ?_
  refine eg_RX11_29 hC hS h dX11_twin_1 (fun t_1 h => ?_)
  refine lv_iload_n hx hb dX11_twin_4 rfl (lv_at hl 1 rfl) ?_
  refine ez_cVpi (As := [.int x1]) (rest := []) h (fun _ q => c_X3_hasKey q) hC k_X3_hasKey ql_RX11_137 rfl (by decide) hS (fun _ q => ez_rcv q) rfl hl.1 rfl (Nat.le_of_ble_eq_true rfl) ⟨Nat.zero_le _, Nat.zero_le _⟩ dX11_twin_5 (fun t_5 H locs hS h => ?_)
  refine lv_if_ne (tgt := 13) hx hb dX11_twin_8 (by decide) (fun c_8 => ?_) (fun c_8 => ?_)
  · replace h := ez_ifn h c_8
    refine lv_iconst (v := -1) hx hb dX11_twin_13 (by decide) ?_
    refine lv_istore_n (lv' := [(2, .int (-1)), (0, .ref (B + h0)), (1, .int x1)]) hx hb dX11_twin_14 rfl hl (by decide) rfl (fun ls hl => ?_)
    refine lv_iconst (v := 0) hx hb dX11_twin_15 (by decide) ?_
    refine lv_istore_n (lv' := [(3, .int 0), (2, .int (-1)), (0, .ref (B + h0)), (1, .int x1)]) hx hb dX11_twin_16 rfl hl (by decide) rfl (fun ls hl => ?_)
    refine lv_iconst (v := 0) hx hb dX11_twin_17 (by decide) ?_
    refine lv_istore (lv' := [(4, .int 0), (3, .int 0), (2, .int (-1)), (0, .ref (B + h0)), (1, .int x1)]) hx hb dX11_twin_18 hl (by decide) rfl (fun ls hl => ?_)
    exact E_20  h0 x1 (-1 : Int32) (0 : Int32) (0 : Int32) _ _ _ hS h (lv_sub hl [3, 4, 2, 1, 0] rfl)
  · replace h := ez_ifp h c_8
    refine lv_iconst (v := -1) hx hb dX11_twin_11 (by decide) ?_
    exact hret _ _ _ _ _ (Option.some.inj h) rfl hS dX11_twin_12
set_option maxHeartbeats 4000000 in
set_option maxRecDepth 100000 in
theorem c_X1_goBack {l : Launch} {X : ez_X} {B : Nat} {σ : ez_H} {h0 : Nat} {h1 : Nat} {z : Int32 × ez_H} (h : z_X1_goBack σ h0 h1 = some z) : ez_M l X B σ yX1_goBack cX1_goBack 2 (some .boolean) 2 [.ref (B + h0), .ref (B + h1)] (some (.int z.1)) z.2 := by
  refine ez_starti (z := z) (by decide) (Nat.le_of_ble_eq_true rfl) (fun p e R s m args below meth c Q hC hret hS ls hl => ?_)
  have hC : ez_C p R s m args c X B RX1 cX1_goBack 2 2 := hC
  have hx := hC.1.1
  have hb := hC.1.2.1
  have hown := hC.1.2.2.2.1
  have hts := hC.1.2.2.2.2
  have hl : lv_has ls 2 [(0, .ref (B + h0)), (1, .ref (B + h1))] := hl
  obtain ⟨σ0, eσ⟩ : ∃ σ0 : ez_H, σ0 = σ := ⟨_, rfl⟩
  rw [← eσ] at hret
  have hS : ez_S X B s.heap σ0.length σ s.heap [] := eσ ▸ hS
  obtain ⟨-, h⟩ := ez_in h
  refine lv_aload_n hx hb dX1_goBack_0 rfl (lv_at hl 0 rfl) ?_
  refine eg_RX1_20 hC hS h dX1_goBack_1 (fun t_1 h => ?_)
  refine lv_if_gt (tgt := 9) hx hb dX1_goBack_4 (by decide) (fun c_4 => ?_) (fun c_4 => ?_)
  · replace h := ez_ifp h c_4
    refine lv_aload_n hx hb dX1_goBack_9 rfl (lv_at hl 0 rfl) ?_
    refine lv_aload_n hx hb dX1_goBack_10 rfl (lv_at hl 0 rfl) ?_
    refine eg_RX1_20 hC hS h dX1_goBack_11 (fun t_11 h => ?_)
    refine ez_cVpr (As := [.int t_11]) (rest := []) h (fun _ q => c_X1_slot q) hC k_X1_slot ql_RX1_32 rfl (by decide) hS (fun _ q => ez_rcv q) rfl hl.1 rfl (Nat.le_of_ble_eq_true rfl) ⟨Nat.zero_le _, Nat.zero_le _⟩ dX1_goBack_14 (fun t_14 H locs hS h => ?_)
    refine lv_aload_n hx hb dX1_goBack_17 rfl (lv_at hl 1 rfl) ?_
    refine ez_cVv (As := [.ref (B + h1)]) (rest := []) h (fun _ q => c_X7_copyFrom q) hC k_X7_copyFrom ql_RX1_36 rfl (by decide) hS (fun _ q => ez_rcv q) rfl hl.1 rfl (Nat.le_of_ble_eq_true rfl) ⟨Nat.zero_le _, Nat.zero_le _⟩ dX1_goBack_18 (fun _ σ H locs hS h => ?_)
    refine lv_aload_n hx hb dX1_goBack_21 rfl (lv_at hl 0 rfl) ?_
    refine lv_dup hx hb dX1_goBack_22 rfl ?_
    refine eg_RX1_20 hC hS h dX1_goBack_23 (fun t_23 h => ?_)
    refine lv_iconst (v := 1) hx hb dX1_goBack_26 (by decide) ?_
    refine lv_isub hx hb dX1_goBack_27 ?_
    refine ez_top h (fun t_27 h => ?_)
    refine ep_RX1_20 hC hS h dX1_goBack_28 (fun σ H locs hS h => ?_)
    refine lv_aload_n hx hb dX1_goBack_31 rfl (lv_at hl 1 rfl) ?_
    refine lv_aload_n hx hb dX1_goBack_32 rfl (lv_at hl 0 rfl) ?_
    refine lv_aload_n hx hb dX1_goBack_33 rfl (lv_at hl 0 rfl) ?_
    refine eg_RX1_20 hC hS h dX1_goBack_34 (fun t_34 h => ?_)
    refine ez_cVpr (As := [.int t_34]) (rest := [.ref (B + h1)]) h (fun _ q => c_X1_slot q) hC k_X1_slot ql_RX1_32 rfl (by decide) hS (fun _ q => ez_rcv q) rfl hl.1 rfl (Nat.le_of_ble_eq_true rfl) ⟨Nat.zero_le _, Nat.zero_le _⟩ dX1_goBack_37 (fun t_37 H locs hS h => ?_)
    refine ez_cVv (As := [.ref (B + t_37)]) (rest := []) h (fun _ q => c_X7_copyFrom q) hC k_X7_copyFrom ql_RX1_36 rfl (by decide) hS (fun _ q => ez_rcv q) rfl hl.1 rfl (Nat.le_of_ble_eq_true rfl) ⟨Nat.zero_le _, Nat.zero_le _⟩ dX1_goBack_40 (fun _ σ H locs hS h => ?_)
    refine lv_iconst (v := 1) hx hb dX1_goBack_43 (by decide) ?_
    have hn : narrow .boolean (.int 1) = .int 1 := by decide
    exact hret _ _ _ _ _ _ (Option.some.inj h) hn hS dX1_goBack_44
  · replace h := ez_ifn h c_4
    refine lv_iconst (v := 0) hx hb dX1_goBack_7 (by decide) ?_
    have hn : narrow .boolean (.int 0) = .int 0 := by decide
    exact hret _ _ _ _ _ _ (Option.some.inj h) hn hS dX1_goBack_8
set_option maxHeartbeats 4000000 in
set_option maxRecDepth 100000 in
theorem c_X11_undo {l : Launch} {X : ez_X} {B : Nat} {σ : ez_H} {h0 : Nat} {z : Int32 × ez_H} (h : z_X11_undo σ h0 = some z) : ez_M l X B σ yX11_undo cX11_undo 1 (some .boolean) 3 [.ref (B + h0)] (some (.int z.1)) z.2 := by
  refine ez_starti (z := z) (by decide) (Nat.le_of_ble_eq_true rfl) (fun p e R s m args below meth c Q hC hret hS ls hl => ?_)
  have hC : ez_C p R s m args c X B RX11 cX11_undo 1 3 := hC
  have hx := hC.1.1
  have hb := hC.1.2.1
  have hown := hC.1.2.2.2.1
  have hts := hC.1.2.2.2.2
  have hl : lv_has ls 1 [(0, .ref (B + h0))] := hl
  obtain ⟨σ0, eσ⟩ : ∃ σ0 : ez_H, σ0 = σ := ⟨_, rfl⟩
  rw [← eσ] at hret
  have hS : ez_S X B s.heap σ0.length σ s.heap [] := eσ ▸ hS
  obtain ⟨-, h⟩ := ez_in h
  refine lv_aload_n hx hb dX11_undo_0 rfl (lv_at hl 0 rfl) ?_
  refine eg_RX11_51 hC hS h dX11_undo_1 (fun t_1 h => ?_)
  refine lv_aload_n hx hb dX11_undo_4 rfl (lv_at hl 0 rfl) ?_
  refine eg_RX11_41 hC hS h dX11_undo_5 (fun t_5 h => ?_)
  refine ez_cVi (As := [.ref (B + t_5)]) (rest := []) h (fun _ q => c_X1_goBack q) hC k_X1_goBack ql_RX11_294 rfl (by decide) hS (fun _ q => ez_rcv q) rfl hl.1 rfl (Nat.le_of_ble_eq_true rfl) ⟨Nat.zero_le _, Nat.zero_le _⟩ dX11_undo_8 (fun t_8 σ H locs hS h => ?_)
  obtain ⟨hn, h⟩ := ez_nr_sp rfl h
  exact hret _ _ _ _ _ _ (Option.some.inj h) hn hS dX11_undo_11
set_option maxHeartbeats 4000000 in
set_option maxRecDepth 100000 in
theorem c_X10_takeBack {l : Launch} {X : ez_X} {B : Nat} {σ : ez_H} {h0 : Nat} {x1 : Int32} {z : Int32 × ez_H} (h : z_X10_takeBack σ h0 x1 = some z) : ez_M l X B σ yX10_takeBack cX10_takeBack 2 (some .boolean) 0 [.ref (B + h0), .int x1] (some (.int z.1)) z.2 := by
  refine ez_starti (z := z) (by decide) (Nat.le_of_ble_eq_true rfl) (fun p e R s m args below meth c Q hC hret hS ls hl => ?_)
  have hC : ez_C p R s m args c X B RX10 cX10_takeBack 2 0 := hC
  have hx := hC.1.1
  have hb := hC.1.2.1
  have hown := hC.1.2.2.2.1
  have hts := hC.1.2.2.2.2
  have hl : lv_has ls 2 [(0, .ref (B + h0)), (1, .int x1)] := hl
  obtain ⟨σ0, eσ⟩ : ∃ σ0 : ez_H, σ0 = σ := ⟨_, rfl⟩
  rw [← eσ] at hret
  have hS : ez_S X B s.heap σ0.length σ s.heap [] := eσ ▸ hS
  obtain ⟨-, h⟩ := ez_in h
  have K_28 : ∀ (σ : ez_H) (H : Heap) (locs : List Loc) (ls : Array Slot), ez_S X B s.heap (σ0.length) σ H locs → z_X10_takeBack_28 σ = some z → lv_has ls 2 [] → W p l e R s m args below meth c H locs 0 0 Q (F0 m 28 ls []) := by
    intro σ H locs ls hS h hl
    refine lv_iconst (v := 0) hx hb dX10_takeBack_28 (by decide) ?_
    have hn : narrow .boolean (.int 0) = .int 0 := by decide
    exact hret _ _ _ _ _ _ (Option.some.inj h) hn hS dX10_takeBack_29
  refine lv_iload_n hx hb dX10_takeBack_0 rfl (lv_at hl 1 rfl) ?_
  refine lv_if_lt (tgt := 28) hx hb dX10_takeBack_1 (by decide) (fun c_1 => ?_) (fun c_1 => ?_)
  · replace h := ez_ifp h c_1
    exact K_28  σ _ _ _ hS h (lv_sub hl [] rfl)
  · replace h := ez_ifn h c_1
    refine lv_iload_n hx hb dX10_takeBack_4 rfl (lv_at hl 1 rfl) ?_
    refine lv_aload_n hx hb dX10_takeBack_5 rfl (lv_at hl 0 rfl) ?_
    refine eg_RX10_25 hC hS h dX10_takeBack_6 (fun t_6 h => ?_)
    refine lv_icmp_ge (tgt := 28) hx hb dX10_takeBack_9 (by decide) (fun c_9 => ?_) (fun c_9 => ?_)
    · replace h := ez_ifp h c_9
      exact K_28  σ _ _ _ hS h (lv_sub hl [] rfl)
    · replace h := ez_ifn h c_9
      refine lv_iload_n hx hb dX10_takeBack_12 rfl (lv_at hl 1 rfl) ?_
      refine lv_bipush (v := 30) hx hb dX10_takeBack_13 (by decide) ?_
      refine lv_icmp_ge (tgt := 28) hx hb dX10_takeBack_15 (by decide) (fun c_15 => ?_) (fun c_15 => ?_)
      · replace h := ez_ifp h c_15
        exact K_28  σ _ _ _ hS h (lv_sub hl [] rfl)
      · replace h := ez_ifn h c_15
        refine lv_aload_n hx hb dX10_takeBack_18 rfl (lv_at hl 0 rfl) ?_
        refine eg_RX10_22 hC hS h dX10_takeBack_19 (fun t_19 h => ?_)
        refine lv_iload_n hx hb dX10_takeBack_22 rfl (lv_at hl 1 rfl) ?_
        refine ez_ial hC hS h dX10_takeBack_23 (fun t_23 h => ?_)
        refine lv_iconst (v := -1) hx hb dX10_takeBack_24 (by decide) ?_
        refine lv_icmp_eq (tgt := 30) hx hb dX10_takeBack_25 (by decide) (fun c_25 => ?_) (fun c_25 => ?_)
        · replace h := ez_ifp h c_25
          refine lv_aload_n hx hb dX10_takeBack_30 rfl (lv_at hl 0 rfl) ?_
          refine eg_RX10_22 hC hS h dX10_takeBack_31 (fun t_31 h => ?_)
          refine lv_iload_n hx hb dX10_takeBack_34 rfl (lv_at hl 1 rfl) ?_
          refine lv_aload_n hx hb dX10_takeBack_35 rfl (lv_at hl 0 rfl) ?_
          refine eg_RX10_29 hC hS h dX10_takeBack_36 (fun t_36 h => ?_)
          refine ez_ias hC hS h dX10_takeBack_39 (fun σ H locs hS h => ?_)
          refine lv_iconst (v := 1) hx hb dX10_takeBack_40 (by decide) ?_
          have hn : narrow .boolean (.int 1) = .int 1 := by decide
          exact hret _ _ _ _ _ _ (Option.some.inj h) hn hS dX10_takeBack_41
        · replace h := ez_ifn h c_25
          exact K_28  σ _ _ _ hS h (lv_sub hl [] rfl)
set_option maxHeartbeats 4000000 in
set_option maxRecDepth 100000 in
theorem c_X11_untell {l : Launch} {X : ez_X} {B : Nat} {σ : ez_H} {h0 : Nat} {x1 : Int32} {z : Int32 × ez_H} (h : z_X11_untell σ h0 x1 = some z) : ez_M l X B σ yX11_untell cX11_untell 2 (some .boolean) 1 [.ref (B + h0), .int x1] (some (.int z.1)) z.2 := by
  refine ez_starti (z := z) (by decide) (Nat.le_of_ble_eq_true rfl) (fun p e R s m args below meth c Q hC hret hS ls hl => ?_)
  have hC : ez_C p R s m args c X B RX11 cX11_untell 2 1 := hC
  have hx := hC.1.1
  have hb := hC.1.2.1
  have hown := hC.1.2.2.2.1
  have hts := hC.1.2.2.2.2
  have hl : lv_has ls 2 [(0, .ref (B + h0)), (1, .int x1)] := hl
  obtain ⟨σ0, eσ⟩ : ∃ σ0 : ez_H, σ0 = σ := ⟨_, rfl⟩
  rw [← eσ] at hret
  have hS : ez_S X B s.heap σ0.length σ s.heap [] := eσ ▸ hS
  obtain ⟨-, h⟩ := ez_in h
  refine lv_aload_n hx hb dX11_untell_0 rfl (lv_at hl 0 rfl) ?_
  refine eg_RX11_93 hC hS h dX11_untell_1 (fun t_1 h => ?_)
  refine lv_iload_n hx hb dX11_untell_4 rfl (lv_at hl 1 rfl) ?_
  refine ez_cVi (As := [.int x1]) (rest := []) h (fun _ q => c_X10_takeBack q) hC k_X10_takeBack ql_RX11_407 rfl (by decide) hS (fun _ q => ez_rcv q) rfl hl.1 rfl (Nat.le_of_ble_eq_true rfl) ⟨Nat.zero_le _, Nat.zero_le _⟩ dX11_untell_5 (fun t_5 σ H locs hS h => ?_)
  obtain ⟨hn, h⟩ := ez_nr_sp rfl h
  exact hret _ _ _ _ _ _ (Option.some.inj h) hn hS dX11_untell_8
set_option maxHeartbeats 4000000 in
set_option maxRecDepth 100000 in
theorem c_X11_walk {l : Launch} {X : ez_X} {B : Nat} {σ : ez_H} {h0 : Nat} {x1 : Int32} {x2 : Int32} {z : Int32 × ez_H} (h : z_X11_walk σ h0 x1 x2 = some z) : ez_M l X B σ yX11_walk cX11_walk 5 (some .int) 5 [.ref (B + h0), .int x1, .int x2] (some (.int z.1)) z.2 := by
  refine ez_starti (z := z) (by decide) (Nat.le_of_ble_eq_true rfl) (fun p e R s m args below meth c Q hC hret hS ls hl => ?_)
  have hC : ez_C p R s m args c X B RX11 cX11_walk 5 5 := hC
  have hx := hC.1.1
  have hb := hC.1.2.1
  have hown := hC.1.2.2.2.1
  have hts := hC.1.2.2.2.2
  have hl : lv_has ls 5 [(0, .ref (B + h0)), (1, .int x1), (2, .int x2)] := hl
  obtain ⟨σ0, eσ⟩ : ∃ σ0 : ez_H, σ0 = σ := ⟨_, rfl⟩
  rw [← eσ] at hret
  have hS : ez_S X B s.heap σ0.length σ s.heap [] := eσ ▸ hS
  obtain ⟨-, h⟩ := ez_in h
  have K_22 : ∀ (σ : ez_H) (H : Heap) (locs : List Loc) (ls : Array Slot), ez_S X B s.heap (σ0.length) σ H locs → z_X11_walk_22 σ = some z → lv_has ls 5 [] → W p l e R s m args below meth c H locs 0 0 Q (F0 m 22 ls []) := by
    intro σ H locs ls hS h hl
    refine lv_iconst (v := -1) hx hb dX11_walk_22 (by decide) ?_
    exact hret _ _ _ _ _ _ (Option.some.inj h) rfl hS dX11_walk_23
  have K_84 : ∀ (σ : ez_H) (H : Heap) (locs : List Loc) (ls : Array Slot), ez_S X B s.heap (σ0.length) σ H locs → z_X11_walk_84 σ = some z → lv_has ls 5 [] → W p l e R s m args below meth c H locs 0 0 Q (F0 m 84 ls []) := by
    intro σ H locs ls hS h hl
    refine lv_iconst (v := -1) hx hb dX11_walk_84 (by decide) ?_
    exact hret _ _ _ _ _ _ (Option.some.inj h) rfl hS dX11_walk_85
  refine lv_aload_n hx hb dX11_walk_0 rfl (lv_at hl 0 rfl) ?_
  refine eg_RX11_29 hC hS h dX11_walk_1 (fun t_1 h => ?_)
  refine lv_iload_n hx hb dX11_walk_4 rfl (lv_at hl 1 rfl) ?_
  refine ez_cVpi (As := [.int x1]) (rest := []) h (fun _ q => c_X3_hasPerson q) hC k_X3_hasPerson ql_RX11_200 rfl (by decide) hS (fun _ q => ez_rcv q) rfl hl.1 rfl (Nat.le_of_ble_eq_true rfl) ⟨Nat.zero_le _, Nat.zero_le _⟩ dX11_walk_5 (fun t_5 H locs hS h => ?_)
  refine lv_if_eq (tgt := 22) hx hb dX11_walk_8 (by decide) (fun c_8 => ?_) (fun c_8 => ?_)
  · replace h := ez_ifp h c_8
    exact K_22  σ _ _ _ hS h (lv_sub hl [] rfl)
  · replace h := ez_ifn h c_8
    refine lv_aload_n hx hb dX11_walk_11 rfl (lv_at hl 0 rfl) ?_
    refine eg_RX11_29 hC hS h dX11_walk_12 (fun t_12 h => ?_)
    refine lv_iload_n hx hb dX11_walk_15 rfl (lv_at hl 2 rfl) ?_
    refine ez_cVpi (As := [.int x2]) (rest := []) h (fun _ q => c_X3_hasDoor q) hC k_X3_hasDoor ql_RX11_188 rfl (by decide) hS (fun _ q => ez_rcv q) rfl hl.1 rfl (Nat.le_of_ble_eq_true rfl) ⟨Nat.zero_le _, Nat.zero_le _⟩ dX11_walk_16 (fun t_16 H locs hS h => ?_)
    refine lv_if_ne (tgt := 24) hx hb dX11_walk_19 (by decide) (fun c_19 => ?_) (fun c_19 => ?_)
    · replace h := ez_ifn h c_19
      refine lv_aload_n hx hb dX11_walk_24 rfl (lv_at hl 0 rfl) ?_
      refine eg_RX11_29 hC hS h dX11_walk_25 (fun t_25 h => ?_)
      refine lv_iload_n hx hb dX11_walk_28 rfl (lv_at hl 2 rfl) ?_
      refine lv_aload_n hx hb dX11_walk_29 rfl (lv_at hl 0 rfl) ?_
      refine eg_RX11_41 hC hS h dX11_walk_30 (fun t_30 h => ?_)
      refine lv_iload_n hx hb dX11_walk_33 rfl (lv_at hl 1 rfl) ?_
      refine ez_cVpi (As := [.int x1]) (rest := [.int x2, .ref (B + t_25)]) h (fun _ q => c_X7_room q) hC k_X7_room ql_RX11_203 rfl (by decide) hS (fun _ q => ez_rcv q) rfl hl.1 rfl (Nat.le_of_ble_eq_true rfl) ⟨Nat.zero_le _, Nat.zero_le _⟩ dX11_walk_34 (fun t_34 H locs hS h => ?_)
      refine ez_cVpi (As := [.int x2, .int t_34]) (rest := []) h (fun _ q => c_X3_otherSide q) hC k_X3_otherSide ql_RX11_219 rfl (by decide) hS (fun _ q => ez_rcv q) rfl hl.1 rfl (Nat.le_of_ble_eq_true rfl) ⟨Nat.zero_le _, Nat.zero_le _⟩ dX11_walk_37 (fun t_37 H locs hS h => ?_)
      refine lv_istore_n (lv' := [(3, .int t_37), (0, .ref (B + h0)), (1, .int x1), (2, .int x2)]) hx hb dX11_walk_40 rfl hl (by decide) rfl (fun ls hl => ?_)
      refine lv_aload_n hx hb dX11_walk_41 rfl (lv_at hl 1 rfl) ?_
      refine eg_RX11_79 hC hS h dX11_walk_42 (fun t_42 h => ?_)
      refine lv_aload_n hx hb dX11_walk_45 rfl (lv_at hl 1 rfl) ?_
      refine eg_RX11_29 hC hS h dX11_walk_46 (fun t_46 h => ?_)
      refine lv_iload_n hx hb dX11_walk_49 rfl (lv_at hl 3 rfl) ?_
      refine ez_cVpi (As := [.int x2]) (rest := [.ref (B + t_42)]) h (fun _ q => c_X3_doorLock q) hC k_X3_doorLock ql_RX11_197 rfl (by decide) hS (fun _ q => ez_rcv q) rfl hl.1 rfl (Nat.le_of_ble_eq_true rfl) ⟨Nat.zero_le _, Nat.zero_le _⟩ dX11_walk_50 (fun t_50 H locs hS h => ?_)
      refine ez_cVpi (As := [.int t_50]) (rest := []) h (fun _ q => c_X2_keysFor q) hC k_X2_keysFor ql_RX11_176 rfl (by decide) hS (fun _ q => ez_rcv q) rfl hl.1 rfl (Nat.le_of_ble_eq_true rfl) ⟨Nat.zero_le _, Nat.zero_le _⟩ dX11_walk_53 (fun t_53 H locs hS h => ?_)
      refine lv_aload_n hx hb dX11_walk_56 rfl (lv_at hl 1 rfl) ?_
      refine eg_RX11_41 hC hS h dX11_walk_57 (fun t_57 h => ?_)
      refine lv_iload_n hx hb dX11_walk_60 rfl (lv_at hl 2 rfl) ?_
      refine lv_aload_n hx hb dX11_walk_61 rfl (lv_at hl 1 rfl) ?_
      refine eg_RX11_29 hC hS h dX11_walk_62 (fun t_62 h => ?_)
      refine eg_RX11_128 hC hS h dX11_walk_65 (fun t_65 h => ?_)
      refine ez_cVpi (As := [.int x1, .int t_65]) (rest := [.int t_53]) h (fun _ q => c_X7_heldBy q) hC k_X7_heldBy ql_RX11_206 rfl (by decide) hS (fun _ q => ez_rcv q) rfl hl.1 rfl (Nat.le_of_ble_eq_true rfl) ⟨Nat.zero_le _, Nat.zero_le _⟩ dX11_walk_68 (fun t_68 H locs hS h => ?_)
      refine lv_iand hx hb dX11_walk_71 ?_
      refine ez_top h (fun t_71 h => ?_)
      refine lv_istore (lv' := [(4, .int t_71), (3, .int t_37), (0, .ref (B + h0)), (1, .int x1), (2, .int x2)]) hx hb dX11_walk_72 hl (by decide) rfl (fun ls hl => ?_)
      refine lv_iload_n hx hb dX11_walk_74 rfl (lv_at hl 1 rfl) ?_
      refine lv_iconst (v := -1) hx hb dX11_walk_75 (by decide) ?_
      refine lv_icmp_eq (tgt := 84) hx hb dX11_walk_76 (by decide) (fun c_76 => ?_) (fun c_76 => ?_)
      · replace h := ez_ifp h c_76
        exact K_84  σ _ _ _ hS h (lv_sub hl [] rfl)
      · replace h := ez_ifn h c_76
        refine lv_iload hx hb dX11_walk_79 (lv_at hl 0 rfl) ?_
        refine lv_if_ne (tgt := 86) hx hb dX11_walk_81 (by decide) (fun c_81 => ?_) (fun c_81 => ?_)
        · replace h := ez_ifn h c_81
          refine lv_aload_n hx hb dX11_walk_86 rfl (lv_at hl 2 rfl) ?_
          refine eg_RX11_51 hC hS h dX11_walk_87 (fun t_87 h => ?_)
          refine lv_aload_n hx hb dX11_walk_90 rfl (lv_at hl 2 rfl) ?_
          refine eg_RX11_41 hC hS h dX11_walk_91 (fun t_91 h => ?_)
          refine ez_cVv (As := [.ref (B + t_91)]) (rest := []) h (fun _ q => c_X1_keep q) hC k_X1_keep ql_RX11_222 rfl (by decide) hS (fun _ q => ez_rcv q) rfl hl.1 rfl (Nat.le_of_ble_eq_true rfl) ⟨Nat.zero_le _, Nat.zero_le _⟩ dX11_walk_94 (fun _ σ H locs hS h => ?_)
          refine lv_aload_n hx hb dX11_walk_97 rfl (lv_at hl 2 rfl) ?_
          refine lv_aload_n hx hb dX11_walk_98 rfl (lv_at hl 2 rfl) ?_
          refine eg_RX11_41 hC hS h dX11_walk_99 (fun t_99 h => ?_)
          refine lv_iload hx hb dX11_walk_102 (lv_at hl 0 rfl) ?_
          refine ez_cSpi (As := [.int t_71]) (rest := [.ref (B + t_99), .ref (B + h0)]) h (fun _ q => c_J6_numberOfTrailingZeros_0f7a4 q) hC k_J6_numberOfTrailingZeros_0f7a4 ql_RX11_225 rfl (by decide) hS hl.1 rfl (Nat.le_of_ble_eq_true rfl) ⟨Nat.zero_le _, Nat.zero_le _⟩ dX11_walk_104 (fun t_104 H locs hS h => ?_)
          refine ez_cVv (As := [.ref (B + t_99), .int t_104]) (rest := []) h (fun _ q => c_X11_useOnce q) hC k_X11_useOnce ql_RX11_228 rfl (by decide) hS (fun _ q => ez_rcv q) rfl hl.1 rfl (Nat.le_of_ble_eq_true rfl) ⟨Nat.zero_le _, Nat.zero_le _⟩ dX11_walk_107 (fun _ σ H locs hS h => ?_)
          refine lv_aload_n hx hb dX11_walk_110 rfl (lv_at hl 2 rfl) ?_
          refine eg_RX11_41 hC hS h dX11_walk_111 (fun t_111 h => ?_)
          refine lv_iload_n hx hb dX11_walk_114 rfl (lv_at hl 3 rfl) ?_
          refine lv_iload_n hx hb dX11_walk_115 rfl (lv_at hl 1 rfl) ?_
          refine ez_cVv (As := [.int x1, .int t_37]) (rest := []) h (fun _ q => c_X7_putRoom q) hC k_X7_putRoom ql_RX11_232 rfl (by decide) hS (fun _ q => ez_rcv q) rfl hl.1 rfl (Nat.le_of_ble_eq_true rfl) ⟨Nat.zero_le _, Nat.zero_le _⟩ dX11_walk_116 (fun _ σ H locs hS h => ?_)
          refine lv_iload_n hx hb dX11_walk_119 rfl (lv_at hl 1 rfl) ?_
          exact hret _ _ _ _ _ _ (Option.some.inj h) rfl hS dX11_walk_120
        · replace h := ez_ifp h c_81
          exact K_84  σ _ _ _ hS h (lv_sub hl [] rfl)
    · replace h := ez_ifp h c_19
      exact K_22  σ _ _ _ hS h (lv_sub hl [] rfl)
set_option maxHeartbeats 4000000 in
set_option maxRecDepth 100000 in
theorem c_X12_deep {l : Launch} {X : ez_X} {B : Nat} {σ : ez_H} {h0 : Nat} {z : Int32} (h : z_X12_deep σ h0 = some z) : ez_M l X B σ yX12_deep cX12_deep 1 (some .int) 0 [.ref (B + h0)] (some (.int z)) σ := by
  refine ez_startip (z := z) (by decide) (Nat.le_of_ble_eq_true rfl) (fun p e R s m args below meth c Q hC hret hS ls hl => ?_)
  have hC : ez_C p R s m args c X B RX12 cX12_deep 1 0 := hC
  have hx := hC.1.1
  have hb := hC.1.2.1
  have hown := hC.1.2.2.2.1
  have hts := hC.1.2.2.2.2
  have hl : lv_has ls 1 [(0, .ref (B + h0))] := hl
  obtain ⟨n0, e0⟩ : ∃ n0 : Nat, n0 = σ.length := ⟨_, rfl⟩
  rw [← e0] at hret hS
  obtain ⟨-, h⟩ := ez_in h
  refine lv_aload_n hx hb dX12_deep_0 rfl (lv_at hl 0 rfl) ?_
  refine eg_RX12_24 hC hS h dX12_deep_1 (fun t_1 h => ?_)
  refine lv_aload_n hx hb dX12_deep_4 rfl (lv_at hl 0 rfl) ?_
  refine eg_RX12_274 hC hS h dX12_deep_5 (fun t_5 h => ?_)
  refine ez_ial hC hS h dX12_deep_8 (fun t_8 h => ?_)
  exact hret _ _ _ _ _ (Option.some.inj h) rfl hS dX12_deep_9
set_option maxHeartbeats 4000000 in
set_option maxRecDepth 100000 in
theorem c_X12_wide {l : Launch} {X : ez_X} {B : Nat} {σ : ez_H} {h0 : Nat} {z : Int32} (h : z_X12_wide σ h0 = some z) : ez_M l X B σ yX12_wide cX12_wide 1 (some .int) 0 [.ref (B + h0)] (some (.int z)) σ := by
  refine ez_startip (z := z) (by decide) (Nat.le_of_ble_eq_true rfl) (fun p e R s m args below meth c Q hC hret hS ls hl => ?_)
  have hC : ez_C p R s m args c X B RX12 cX12_wide 1 0 := hC
  have hx := hC.1.1
  have hb := hC.1.2.1
  have hown := hC.1.2.2.2.1
  have hts := hC.1.2.2.2.2
  have hl : lv_has ls 1 [(0, .ref (B + h0))] := hl
  obtain ⟨n0, e0⟩ : ∃ n0 : Nat, n0 = σ.length := ⟨_, rfl⟩
  rw [← e0] at hret hS
  obtain ⟨-, h⟩ := ez_in h
  refine lv_aload_n hx hb dX12_wide_0 rfl (lv_at hl 0 rfl) ?_
  refine eg_RX12_20 hC hS h dX12_wide_1 (fun t_1 h => ?_)
  refine lv_aload_n hx hb dX12_wide_4 rfl (lv_at hl 0 rfl) ?_
  refine eg_RX12_274 hC hS h dX12_wide_5 (fun t_5 h => ?_)
  refine ez_ial hC hS h dX12_wide_8 (fun t_8 h => ?_)
  exact hret _ _ _ _ _ (Option.some.inj h) rfl hS dX12_wide_9
set_option maxHeartbeats 4000000 in
set_option maxRecDepth 100000 in
theorem c_X12_about {l : Launch} {X : ez_X} {B : Nat} {σ : ez_H} {h0 : Nat} {x1 : Int32} {z : Int32} (h : z_X12_about σ h0 x1 = some z) : ez_M l X B σ yX12_about cX12_about 2 (some .int) 1 [.ref (B + h0), .int x1] (some (.int z)) σ := by
  refine ez_startip (z := z) (by decide) (Nat.le_of_ble_eq_true rfl) (fun p e R s m args below meth c Q hC hret hS ls hl => ?_)
  have hC : ez_C p R s m args c X B RX12 cX12_about 2 1 := hC
  have hx := hC.1.1
  have hb := hC.1.2.1
  have hown := hC.1.2.2.2.1
  have hts := hC.1.2.2.2.2
  have hl : lv_has ls 2 [(0, .ref (B + h0)), (1, .int x1)] := hl
  obtain ⟨n0, e0⟩ : ∃ n0 : Nat, n0 = σ.length := ⟨_, rfl⟩
  rw [← e0] at hret hS
  obtain ⟨-, h⟩ := ez_in h
  refine lv_iload_n hx hb dX12_about_0 rfl (lv_at hl 1 rfl) ?_
  by_cases s_1_0 : x1 = 0
  · replace h := ez_ifp h s_1_0
    refine lv_tableIn (tgt := 80) hx hb dX12_about_1 (by rw [s_1_0]; decide) (by rw [s_1_0]; decide) (by first | (rw [s_1_0]; done) | (rw [s_1_0]; rfl)) (by decide) ?_
    refine lv_aload_n hx hb dX12_about_80 rfl (lv_at hl 0 rfl) ?_
    refine ez_cVpi (As := []) (rest := []) h (fun _ q => c_X12_many q) hC k_X12_many ql_RX12_404 rfl (by decide) hS (fun _ q => ez_rcv q) rfl hl.1 rfl (Nat.le_of_ble_eq_true rfl) ⟨Nat.zero_le _, Nat.zero_le _⟩ dX12_about_81 (fun t_81 H locs hS h => ?_)
    exact hret _ _ _ _ _ (Option.some.inj h) rfl hS dX12_about_84
  replace h := ez_ifn h s_1_0
  by_cases s_1_1 : x1 = 1
  · replace h := ez_ifp h s_1_1
    refine lv_tableIn (tgt := 85) hx hb dX12_about_1 (by rw [s_1_1]; decide) (by rw [s_1_1]; decide) (by first | (rw [s_1_1]; done) | (rw [s_1_1]; rfl)) (by decide) ?_
    refine lv_aload_n hx hb dX12_about_85 rfl (lv_at hl 0 rfl) ?_
    refine ez_cVpi (As := []) (rest := []) h (fun _ q => c_X12_bolts q) hC k_X12_bolts ql_RX12_411 rfl (by decide) hS (fun _ q => ez_rcv q) rfl hl.1 rfl (Nat.le_of_ble_eq_true rfl) ⟨Nat.zero_le _, Nat.zero_le _⟩ dX12_about_86 (fun t_86 H locs hS h => ?_)
    exact hret _ _ _ _ _ (Option.some.inj h) rfl hS dX12_about_89
  replace h := ez_ifn h s_1_1
  by_cases s_1_2 : x1 = 2
  · replace h := ez_ifp h s_1_2
    refine lv_tableIn (tgt := 90) hx hb dX12_about_1 (by rw [s_1_2]; decide) (by rw [s_1_2]; decide) (by first | (rw [s_1_2]; done) | (rw [s_1_2]; rfl)) (by decide) ?_
    refine lv_aload_n hx hb dX12_about_90 rfl (lv_at hl 0 rfl) ?_
    refine eg_RX12_36 hC hS h dX12_about_91 (fun t_91 h => ?_)
    refine lv_aload_n hx hb dX12_about_94 rfl (lv_at hl 0 rfl) ?_
    refine eg_RX12_274 hC hS h dX12_about_95 (fun t_95 h => ?_)
    refine ez_ial hC hS h dX12_about_98 (fun t_98 h => ?_)
    exact hret _ _ _ _ _ (Option.some.inj h) rfl hS dX12_about_99
  replace h := ez_ifn h s_1_2
  by_cases s_1_3 : x1 = 3
  · replace h := ez_ifp h s_1_3
    refine lv_tableIn (tgt := 100) hx hb dX12_about_1 (by rw [s_1_3]; decide) (by rw [s_1_3]; decide) (by first | (rw [s_1_3]; done) | (rw [s_1_3]; rfl)) (by decide) ?_
    refine lv_aload_n hx hb dX12_about_100 rfl (lv_at hl 0 rfl) ?_
    refine eg_RX12_39 hC hS h dX12_about_101 (fun t_101 h => ?_)
    refine lv_aload_n hx hb dX12_about_104 rfl (lv_at hl 0 rfl) ?_
    refine eg_RX12_274 hC hS h dX12_about_105 (fun t_105 h => ?_)
    refine ez_ial hC hS h dX12_about_108 (fun t_108 h => ?_)
    exact hret _ _ _ _ _ (Option.some.inj h) rfl hS dX12_about_109
  replace h := ez_ifn h s_1_3
  by_cases s_1_4 : x1 = 4
  · replace h := ez_ifp h s_1_4
    refine lv_tableIn (tgt := 110) hx hb dX12_about_1 (by rw [s_1_4]; decide) (by rw [s_1_4]; decide) (by first | (rw [s_1_4]; done) | (rw [s_1_4]; rfl)) (by decide) ?_
    refine lv_aload_n hx hb dX12_about_110 rfl (lv_at hl 0 rfl) ?_
    refine eg_RX12_42 hC hS h dX12_about_111 (fun t_111 h => ?_)
    refine lv_aload_n hx hb dX12_about_114 rfl (lv_at hl 0 rfl) ?_
    refine eg_RX12_274 hC hS h dX12_about_115 (fun t_115 h => ?_)
    refine ez_ial hC hS h dX12_about_118 (fun t_118 h => ?_)
    exact hret _ _ _ _ _ (Option.some.inj h) rfl hS dX12_about_119
  replace h := ez_ifn h s_1_4
  by_cases s_1_5 : x1 = 5
  · replace h := ez_ifp h s_1_5
    refine lv_tableIn (tgt := 120) hx hb dX12_about_1 (by rw [s_1_5]; decide) (by rw [s_1_5]; decide) (by first | (rw [s_1_5]; done) | (rw [s_1_5]; rfl)) (by decide) ?_
    refine lv_aload_n hx hb dX12_about_120 rfl (lv_at hl 0 rfl) ?_
    refine ez_cVpi (As := []) (rest := []) h (fun _ q => c_X12_wide q) hC k_X12_wide ql_RX12_414 rfl (by decide) hS (fun _ q => ez_rcv q) rfl hl.1 rfl (Nat.le_of_ble_eq_true rfl) ⟨Nat.zero_le _, Nat.zero_le _⟩ dX12_about_121 (fun t_121 H locs hS h => ?_)
    exact hret _ _ _ _ _ (Option.some.inj h) rfl hS dX12_about_124
  replace h := ez_ifn h s_1_5
  by_cases s_1_6 : x1 = 6
  · replace h := ez_ifp h s_1_6
    refine lv_tableIn (tgt := 125) hx hb dX12_about_1 (by rw [s_1_6]; decide) (by rw [s_1_6]; decide) (by first | (rw [s_1_6]; done) | (rw [s_1_6]; rfl)) (by decide) ?_
    refine lv_aload_n hx hb dX12_about_125 rfl (lv_at hl 0 rfl) ?_
    refine ez_cVpi (As := []) (rest := []) h (fun _ q => c_X12_deep q) hC k_X12_deep ql_RX12_429 rfl (by decide) hS (fun _ q => ez_rcv q) rfl hl.1 rfl (Nat.le_of_ble_eq_true rfl) ⟨Nat.zero_le _, Nat.zero_le _⟩ dX12_about_126 (fun t_126 H locs hS h => ?_)
    exact hret _ _ _ _ _ (Option.some.inj h) rfl hS dX12_about_129
  replace h := ez_ifn h s_1_6
  by_cases s_1_7 : x1 = 7
  · replace h := ez_ifp h s_1_7
    refine lv_tableIn (tgt := 130) hx hb dX12_about_1 (by rw [s_1_7]; decide) (by rw [s_1_7]; decide) (by first | (rw [s_1_7]; done) | (rw [s_1_7]; rfl)) (by decide) ?_
    refine lv_aload_n hx hb dX12_about_130 rfl (lv_at hl 0 rfl) ?_
    refine eg_RX12_27 hC hS h dX12_about_131 (fun t_131 h => ?_)
    refine lv_aload_n hx hb dX12_about_134 rfl (lv_at hl 0 rfl) ?_
    refine eg_RX12_274 hC hS h dX12_about_135 (fun t_135 h => ?_)
    refine ez_ial hC hS h dX12_about_138 (fun t_138 h => ?_)
    exact hret _ _ _ _ _ (Option.some.inj h) rfl hS dX12_about_139
  replace h := ez_ifn h s_1_7
  by_cases s_1_8 : x1 = 8
  · replace h := ez_ifp h s_1_8
    refine lv_tableIn (tgt := 140) hx hb dX12_about_1 (by rw [s_1_8]; decide) (by rw [s_1_8]; decide) (by first | (rw [s_1_8]; done) | (rw [s_1_8]; rfl)) (by decide) ?_
    refine lv_aload_n hx hb dX12_about_140 rfl (lv_at hl 0 rfl) ?_
    refine eg_RX12_118 hC hS h dX12_about_141 (fun t_141 h => ?_)
    refine lv_bipush (v := 90) hx hb dX12_about_144 (by decide) ?_
    refine ez_ial hC hS h dX12_about_146 (fun t_146 h => ?_)
    exact hret _ _ _ _ _ (Option.some.inj h) rfl hS dX12_about_147
  replace h := ez_ifn h s_1_8
  by_cases s_1_9 : x1 = 9
  · replace h := ez_ifp h s_1_9
    refine lv_tableIn (tgt := 148) hx hb dX12_about_1 (by rw [s_1_9]; decide) (by rw [s_1_9]; decide) (by first | (rw [s_1_9]; done) | (rw [s_1_9]; rfl)) (by decide) ?_
    refine lv_aload_n hx hb dX12_about_148 rfl (lv_at hl 0 rfl) ?_
    refine eg_RX12_417 hC hS h dX12_about_149 (fun t_149 h => ?_)
    exact hret _ _ _ _ _ (Option.some.inj h) rfl hS dX12_about_152
  replace h := ez_ifn h s_1_9
  by_cases s_1_10 : x1 = 10
  · replace h := ez_ifp h s_1_10
    refine lv_tableIn (tgt := 153) hx hb dX12_about_1 (by rw [s_1_10]; decide) (by rw [s_1_10]; decide) (by first | (rw [s_1_10]; done) | (rw [s_1_10]; rfl)) (by decide) ?_
    refine lv_aload_n hx hb dX12_about_153 rfl (lv_at hl 0 rfl) ?_
    refine eg_RX12_420 hC hS h dX12_about_154 (fun t_154 h => ?_)
    exact hret _ _ _ _ _ (Option.some.inj h) rfl hS dX12_about_157
  replace h := ez_ifn h s_1_10
  by_cases s_1_11 : x1 = 11
  · replace h := ez_ifp h s_1_11
    refine lv_tableIn (tgt := 158) hx hb dX12_about_1 (by rw [s_1_11]; decide) (by rw [s_1_11]; decide) (by first | (rw [s_1_11]; done) | (rw [s_1_11]; rfl)) (by decide) ?_
    refine lv_aload_n hx hb dX12_about_158 rfl (lv_at hl 0 rfl) ?_
    refine eg_RX12_423 hC hS h dX12_about_159 (fun t_159 h => ?_)
    exact hret _ _ _ _ _ (Option.some.inj h) rfl hS dX12_about_162
  replace h := ez_ifn h s_1_11
  by_cases s_1_12 : x1 = 12
  · replace h := ez_ifp h s_1_12
    refine lv_tableIn (tgt := 163) hx hb dX12_about_1 (by rw [s_1_12]; decide) (by rw [s_1_12]; decide) (by first | (rw [s_1_12]; done) | (rw [s_1_12]; rfl)) (by decide) ?_
    refine lv_aload_n hx hb dX12_about_163 rfl (lv_at hl 0 rfl) ?_
    refine eg_RX12_609 hC hS h dX12_about_164 (fun t_164 h => ?_)
    exact hret _ _ _ _ _ (Option.some.inj h) rfl hS dX12_about_167
  replace h := ez_ifn h s_1_12
  by_cases s_1_13 : x1 = 13
  · replace h := ez_ifp h s_1_13
    refine lv_tableIn (tgt := 168) hx hb dX12_about_1 (by rw [s_1_13]; decide) (by rw [s_1_13]; decide) (by first | (rw [s_1_13]; done) | (rw [s_1_13]; rfl)) (by decide) ?_
    refine lv_aload_n hx hb dX12_about_168 rfl (lv_at hl 0 rfl) ?_
    refine eg_RX12_271 hC hS h dX12_about_169 (fun t_169 h => ?_)
    exact hret _ _ _ _ _ (Option.some.inj h) rfl hS dX12_about_172
  replace h := ez_ifn h s_1_13
  by_cases s_1_14 : x1 = 14
  · replace h := ez_ifp h s_1_14
    refine lv_tableIn (tgt := 173) hx hb dX12_about_1 (by rw [s_1_14]; decide) (by rw [s_1_14]; decide) (by first | (rw [s_1_14]; done) | (rw [s_1_14]; rfl)) (by decide) ?_
    refine lv_aload_n hx hb dX12_about_173 rfl (lv_at hl 0 rfl) ?_
    refine eg_RX12_45 hC hS h dX12_about_174 (fun t_174 h => ?_)
    refine lv_aload_n hx hb dX12_about_177 rfl (lv_at hl 0 rfl) ?_
    refine eg_RX12_274 hC hS h dX12_about_178 (fun t_178 h => ?_)
    refine ez_ial hC hS h dX12_about_181 (fun t_181 h => ?_)
    exact hret _ _ _ _ _ (Option.some.inj h) rfl hS dX12_about_182
  replace h := ez_ifn h s_1_14
  by_cases s_1_15 : x1 = 15
  · replace h := ez_ifp h s_1_15
    refine lv_tableIn (tgt := 183) hx hb dX12_about_1 (by rw [s_1_15]; decide) (by rw [s_1_15]; decide) (by first | (rw [s_1_15]; done) | (rw [s_1_15]; rfl)) (by decide) ?_
    refine lv_aload_n hx hb dX12_about_183 rfl (lv_at hl 0 rfl) ?_
    refine eg_RX12_426 hC hS h dX12_about_184 (fun t_184 h => ?_)
    exact hret _ _ _ _ _ (Option.some.inj h) rfl hS dX12_about_187
  replace h := ez_ifn h s_1_15
  have w_1 : Int32.toInt x1 < 0 ∨ 15 < Int32.toInt x1 := by
    have q_0 := ez_toNe (k := 0) s_1_0 (by decide)
    have q_1 := ez_toNe (k := 1) s_1_1 (by decide)
    have q_2 := ez_toNe (k := 2) s_1_2 (by decide)
    have q_3 := ez_toNe (k := 3) s_1_3 (by decide)
    have q_4 := ez_toNe (k := 4) s_1_4 (by decide)
    have q_5 := ez_toNe (k := 5) s_1_5 (by decide)
    have q_6 := ez_toNe (k := 6) s_1_6 (by decide)
    have q_7 := ez_toNe (k := 7) s_1_7 (by decide)
    have q_8 := ez_toNe (k := 8) s_1_8 (by decide)
    have q_9 := ez_toNe (k := 9) s_1_9 (by decide)
    have q_10 := ez_toNe (k := 10) s_1_10 (by decide)
    have q_11 := ez_toNe (k := 11) s_1_11 (by decide)
    have q_12 := ez_toNe (k := 12) s_1_12 (by decide)
    have q_13 := ez_toNe (k := 13) s_1_13 (by decide)
    have q_14 := ez_toNe (k := 14) s_1_14 (by decide)
    have q_15 := ez_toNe (k := 15) s_1_15 (by decide)
    omega
  refine lv_tableOut (tgt := 188) hx hb dX12_about_1 w_1 (by decide) ?_
  refine lv_iconst (v := -1) hx hb dX12_about_188 (by decide) ?_
  exact hret _ _ _ _ _ (Option.some.inj h) rfl hS dX12_about_189
