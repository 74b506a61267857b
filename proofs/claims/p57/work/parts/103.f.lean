set_option maxHeartbeats 4000000 in
set_option maxRecDepth 100000 in
theorem c_X8_isSuch {l : Launch} {X : ez_X} {B : Nat} {σ : ez_H} {h0 : Nat} {x1 : Int32} {x2 : Int32} {x3 : Int32} {z : Int32} (h : z_X8_isSuch σ h0 x1 x2 x3 = some z) : ez_M l X B σ yX8_isSuch cX8_isSuch 4 (some .boolean) 0 [.ref (B + h0), .int x1, .int x2, .int x3] (some (.int z)) σ := by
  refine ez_startip (z := z) (by decide) (Nat.le_of_ble_eq_true rfl) (fun p e R s m args below meth c Q hC hret hS ls hl => ?_)
  have hC : ez_C p R s m args c X B RX8 cX8_isSuch 4 0 := hC
  have hx := hC.1.1
  have hb := hC.1.2.1
  have hown := hC.1.2.2.2.1
  have hts := hC.1.2.2.2.2
  have hl : lv_has ls 4 [(0, .ref (B + h0)), (1, .int x1), (2, .int x2), (3, .int x3)] := hl
  obtain ⟨n0, e0⟩ : ∃ n0 : Nat, n0 = σ.length := ⟨_, rfl⟩
  rw [← e0] at hret hS
  obtain ⟨-, h⟩ := ez_in h
  have K_27 : ∀ (y0 : Int32) (H : Heap) (locs : List Loc) (ls : Array Slot), ez_S X B s.heap (n0) σ H locs → z_X8_isSuch_27 σ y0 = some z → lv_has ls 4 [] → W p l e R s m args below meth c H locs 0 0 Q (F0 m 27 ls [.int y0]) := by
    intro y0 H locs ls hS h hl
    obtain ⟨hn, h⟩ := ez_nr_sp rfl h
    exact hret _ _ _ _ _ (Option.some.inj h) hn hS dX8_isSuch_27
  have K_26 : ∀ (H : Heap) (locs : List Loc) (ls : Array Slot), ez_S X B s.heap (n0) σ H locs → z_X8_isSuch_26 σ = some z → lv_has ls 4 [] → W p l e R s m args below meth c H locs 0 0 Q (F0 m 26 ls []) := by
    intro  H locs ls hS h hl
    refine lv_iconst (v := 0) hx hb dX8_isSuch_26 (by decide) ?_
    exact K_27  (0 : Int32) _ _ _ hS h (lv_sub hl [] rfl)
  refine lv_aload_n hx hb dX8_isSuch_0 rfl (lv_at hl 0 rfl) ?_
  refine eg_RX8_47 hC hS h dX8_isSuch_1 (fun t_1 h => ?_)
  refine lv_iload_n hx hb dX8_isSuch_4 rfl (lv_at hl 1 rfl) ?_
  refine ez_ial hC hS h dX8_isSuch_5 (fun t_5 h => ?_)
  refine lv_if_le (tgt := 26) hx hb dX8_isSuch_6 (by decide) (fun c_6 => ?_) (fun c_6 => ?_)
  · replace h := ez_ifp h c_6
    exact K_26   _ _ _ hS h (lv_sub hl [] rfl)
  · replace h := ez_ifn h c_6
    refine lv_iload_n hx hb dX8_isSuch_9 rfl (lv_at hl 1 rfl) ?_
    refine lv_iload_n hx hb dX8_isSuch_10 rfl (lv_at hl 2 rfl) ?_
    refine lv_iand hx hb dX8_isSuch_11 ?_
    refine ez_top h (fun t_11 h => ?_)
    refine lv_iload_n hx hb dX8_isSuch_12 rfl (lv_at hl 2 rfl) ?_
    refine lv_icmp_ne (tgt := 26) hx hb dX8_isSuch_13 (by decide) (fun c_13 => ?_) (fun c_13 => ?_)
    · replace h := ez_ifn h c_13
      exact K_26   _ _ _ hS h (lv_sub hl [] rfl)
    · replace h := ez_ifp h c_13
      refine lv_iload_n hx hb dX8_isSuch_16 rfl (lv_at hl 1 rfl) ?_
      refine lv_iload_n hx hb dX8_isSuch_17 rfl (lv_at hl 3 rfl) ?_
      refine lv_iand hx hb dX8_isSuch_18 ?_
      refine ez_top h (fun t_18 h => ?_)
      refine lv_if_ne (tgt := 26) hx hb dX8_isSuch_19 (by decide) (fun c_19 => ?_) (fun c_19 => ?_)
      · replace h := ez_ifn h c_19
        exact K_26   _ _ _ hS h (lv_sub hl [] rfl)
      · replace h := ez_ifp h c_19
        refine lv_iconst (v := 1) hx hb dX8_isSuch_22 (by decide) ?_
        refine lv_goto (tgt := 27) hx hb dX8_isSuch_23 (by decide) ?_
        exact K_27  (1 : Int32) _ _ _ hS h (lv_sub hl [] rfl)
set_option maxHeartbeats 4000000 in
set_option maxRecDepth 100000 in
theorem c_X8_total {l : Launch} {X : ez_X} {B : Nat} {σ : ez_H} {h0 : Nat} {x1 : Int32} {x2 : Int32} {z : Int32} (h : z_X8_total σ h0 x1 x2 = some z) : ez_M l X B σ yX8_total cX8_total 5 (some .int) 1 [.ref (B + h0), .int x1, .int x2] (some (.int z)) σ := by
  refine ez_startip (z := z) (by decide) (Nat.le_of_ble_eq_true rfl) (fun p e R s m args below meth c Q hC hret hS ls hl => ?_)
  have hC : ez_C p R s m args c X B RX8 cX8_total 5 1 := hC
  have hx := hC.1.1
  have hb := hC.1.2.1
  have hown := hC.1.2.2.2.1
  have hts := hC.1.2.2.2.2
  have hl : lv_has ls 5 [(0, .ref (B + h0)), (1, .int x1), (2, .int x2)] := hl
  obtain ⟨n0, e0⟩ : ∃ n0 : Nat, n0 = σ.length := ⟨_, rfl⟩
  rw [← e0] at hret hS
  obtain ⟨-, h⟩ := ez_in h
  have K_33 : ∀ (k_5 : Nat → Int32 → Int32 → Int32 → Int32 → Option (Int32)) (hk_5 : ∀ (h0 : Nat) (x1 : Int32) (x2 : Int32) (x3 : Int32) (x4 : Int32) (H : Heap) (locs : List Loc) (ls : Array Slot), ez_S X B s.heap (n0) σ H locs → k_5 h0 x1 x2 x3 x4 = some z → lv_has ls 5 [(0, .ref (B + h0)), (1, .int x1), (2, .int x2), (3, .int x3), (4, .int x4)] → W p l e R s m args below meth c H locs 0 0 Q (F0 m 5 ls [])), ∀ (h0 : Nat) (x1 : Int32) (x2 : Int32) (x3 : Int32) (x4 : Int32) (H : Heap) (locs : List Loc) (ls : Array Slot), ez_S X B s.heap (n0) σ H locs → z_X8_total_33 σ k_5 h0 x1 x2 x3 x4 = some z → lv_has ls 5 [(0, .ref (B + h0)), (1, .int x1), (2, .int x2), (3, .int x3), (4, .int x4)] → W p l e R s m args below meth c H locs 0 0 Q (F0 m 33 ls []) := by
    intro k_5 hk_5 h0 x1 x2 x3 x4 H locs ls hS h hl
    obtain ⟨t_33, e_33, h⟩ := ez_let_sp h
    refine lv_iinc (v := t_33) (lv' := [(4, .int t_33), (0, .ref (B + h0)), (1, .int x1), (2, .int x2), (3, .int x3)]) hx hb dX8_total_33 hl (k := 4) rfl (by rw [e_33]; rfl) (by decide) rfl (fun ls hl => ?_)
    refine lv_goto (tgt := 5) hx hb dX8_total_36 (by decide) ?_
    exact hk_5 h0 x1 x2 x3 t_33 _ _ _ hS h (lv_sub hl [1, 2, 3, 4, 0] rfl)
  have K_5 : ∀ (k_5 : Nat → Int32 → Int32 → Int32 → Int32 → Option (Int32)) (hk_5 : ∀ (h0 : Nat) (x1 : Int32) (x2 : Int32) (x3 : Int32) (x4 : Int32) (H : Heap) (locs : List Loc) (ls : Array Slot), ez_S X B s.heap (n0) σ H locs → k_5 h0 x1 x2 x3 x4 = some z → lv_has ls 5 [(0, .ref (B + h0)), (1, .int x1), (2, .int x2), (3, .int x3), (4, .int x4)] → W p l e R s m args below meth c H locs 0 0 Q (F0 m 5 ls [])), ∀ (h0 : Nat) (x1 : Int32) (x2 : Int32) (x3 : Int32) (x4 : Int32) (H : Heap) (locs : List Loc) (ls : Array Slot), ez_S X B s.heap (n0) σ H locs → z_X8_total_5 σ k_5 h0 x1 x2 x3 x4 = some z → lv_has ls 5 [(0, .ref (B + h0)), (1, .int x1), (2, .int x2), (3, .int x3), (4, .int x4)] → W p l e R s m args below meth c H locs 0 0 Q (F0 m 5 ls []) := by
    intro k_5 hk_5 h0 x1 x2 x3 x4 H locs ls hS h hl
    refine lv_iload hx hb dX8_total_5 (lv_at hl 4 rfl) ?_
    refine lv_bipush (v := 64) hx hb dX8_total_7 (by decide) ?_
    refine lv_icmp_ge (tgt := 39) hx hb dX8_total_9 (by decide) (fun c_9 => ?_) (fun c_9 => ?_)
    · replace h := ez_ifp h c_9
      refine lv_iload_n hx hb dX8_total_39 rfl (lv_at hl 3 rfl) ?_
      exact hret _ _ _ _ _ (Option.some.inj h) rfl hS dX8_total_40
    · replace h := ez_ifn h c_9
      refine lv_aload_n hx hb dX8_total_12 rfl (lv_at hl 0 rfl) ?_
      refine lv_iload hx hb dX8_total_13 (lv_at hl 4 rfl) ?_
      refine lv_iload_n hx hb dX8_total_15 rfl (lv_at hl 1 rfl) ?_
      refine lv_iload_n hx hb dX8_total_16 rfl (lv_at hl 2 rfl) ?_
      refine ez_cVpi (As := [.int x4, .int x1, .int x2]) (rest := []) h (fun _ q => c_X8_isSuch q) hC k_X8_isSuch ql_RX8_120 rfl (by decide) hS (fun _ q => ez_rcv q) rfl hl.1 rfl (Nat.le_of_ble_eq_true rfl) ⟨Nat.zero_le _, Nat.zero_le _⟩ dX8_total_17 (fun t_17 H locs hS h => ?_)
      refine lv_if_eq (tgt := 33) hx hb dX8_total_20 (by decide) (fun c_20 => ?_) (fun c_20 => ?_)
      · replace h := ez_ifp h c_20
        exact K_33 k_5 hk_5 h0 x1 x2 x3 x4 _ _ _ hS h (lv_sub hl [0, 1, 2, 3, 4] rfl)
      · replace h := ez_ifn h c_20
        refine lv_iload_n hx hb dX8_total_23 rfl (lv_at hl 3 rfl) ?_
        refine lv_aload_n hx hb dX8_total_24 rfl (lv_at hl 0 rfl) ?_
        refine eg_RX8_47 hC hS h dX8_total_25 (fun t_25 h => ?_)
        refine lv_iload hx hb dX8_total_28 (lv_at hl 4 rfl) ?_
        refine ez_ial hC hS h dX8_total_30 (fun t_30 h => ?_)
        refine lv_iadd hx hb dX8_total_31 ?_
        refine ez_top h (fun t_31 h => ?_)
        refine lv_istore_n (lv' := [(3, .int t_31), (0, .ref (B + h0)), (1, .int x1), (2, .int x2), (4, .int x4)]) hx hb dX8_total_32 rfl hl (by decide) rfl (fun ls hl => ?_)
        exact K_33 k_5 hk_5 h0 x1 x2 t_31 x4 _ _ _ hS h (lv_sub hl [1, 2, 3, 0, 4] rfl)
  have E_5 : ∀ (h0 : Nat) (x1 : Int32) (x2 : Int32) (x3 : Int32) (x4 : Int32) (H : Heap) (locs : List Loc) (ls : Array Slot), ez_S X B s.heap (n0) σ H locs → (ez_fix (fun _ _ _ _ _ => none) (z_X8_total_5 σ) ez_N) h0 x1 x2 x3 x4 = some z → lv_has ls 5 [(0, .ref (B + h0)), (1, .int x1), (2, .int x2), (3, .int x3), (4, .int x4)] → W p l e R s m args below meth c H locs 0 0 Q (F0 m 5 ls []) := ez_fix_ind (fun k_5 : Nat → Int32 → Int32 → Int32 → Int32 → Option (Int32) => ∀ (h0 : Nat) (x1 : Int32) (x2 : Int32) (x3 : Int32) (x4 : Int32) (H : Heap) (locs : List Loc) (ls : Array Slot), ez_S X B s.heap (n0) σ H locs → k_5 h0 x1 x2 x3 x4 = some z → lv_has ls 5 [(0, .ref (B + h0)), (1, .int x1), (2, .int x2), (3, .int x3), (4, .int x4)] → W p l e R s m args below meth c H locs 0 0 Q (F0 m 5 ls [])) (fun _ _ _ _ _ _ _ _ _ h _ => by cases h) (fun k_5 hk_5 => K_5 k_5 hk_5) ez_N
  refine lv_iconst (v := 0) hx hb dX8_total_0 (by decide) ?_
  refine lv_istore_n (lv' := [(3, .int 0), (0, .ref (B + h0)), (1, .int x1), (2, .int x2)]) hx hb dX8_total_1 rfl hl (by decide) rfl (fun ls hl => ?_)
  refine lv_iconst (v := 0) hx hb dX8_total_2 (by decide) ?_
  refine lv_istore (lv' := [(4, .int 0), (3, .int 0), (0, .ref (B + h0)), (1, .int x1), (2, .int x2)]) hx hb dX8_total_3 hl (by decide) rfl (fun ls hl => ?_)
  exact E_5  h0 x1 x2 (0 : Int32) (0 : Int32) _ _ _ hS h (lv_sub hl [2, 3, 4, 1, 0] rfl)
set_option maxHeartbeats 4000000 in
set_option maxRecDepth 100000 in
theorem c_X11_fits {l : Launch} {X : ez_X} {B : Nat} {σ : ez_H} {h0 : Nat} {x1 : Int32} {z : Int32 × ez_H} (h : z_X11_fits σ h0 x1 = some z) : ez_M l X B σ yX11_fits cX11_fits 2 (some .int) 4 [.ref (B + h0), .int x1] (some (.int z.1)) z.2 := by
  refine ez_starti (z := z) (by decide) (Nat.le_of_ble_eq_true rfl) (fun p e R s m args below meth c Q hC hret hS ls hl => ?_)
  have hC : ez_C p R s m args c X B RX11 cX11_fits 2 4 := hC
  have hx := hC.1.1
  have hb := hC.1.2.1
  have hown := hC.1.2.2.2.1
  have hts := hC.1.2.2.2.2
  have hl : lv_has ls 2 [(0, .ref (B + h0)), (1, .int x1)] := hl
  obtain ⟨σ0, eσ⟩ : ∃ σ0 : ez_H, σ0 = σ := ⟨_, rfl⟩
  rw [← eσ] at hret
  have hS : ez_S X B s.heap σ0.length σ s.heap [] := eσ ▸ hS
  obtain ⟨-, h⟩ := ez_in h
  refine lv_aload_n hx hb dX11_fits_0 rfl (lv_at hl 0 rfl) ?_
  refine eg_RX11_71 hC hS h dX11_fits_1 (fun t_1 h => ?_)
  refine lv_aload_n hx hb dX11_fits_4 rfl (lv_at hl 0 rfl) ?_
  refine eg_RX11_29 hC hS h dX11_fits_5 (fun t_5 h => ?_)
  refine eg_RX11_115 hC hS h dX11_fits_8 (fun t_8 h => ?_)
  refine ez_cVv (As := [.ref (B + t_8)]) (rest := []) h (fun _ q => c_X8_take q) hC k_X8_take ql_RX11_325 rfl (by decide) hS (fun _ q => ez_rcv q) rfl hl.1 rfl (Nat.le_of_ble_eq_true rfl) ⟨Nat.zero_le _, Nat.zero_le _⟩ dX11_fits_11 (fun _ σ H locs hS h => ?_)
  refine lv_aload_n hx hb dX11_fits_14 rfl (lv_at hl 0 rfl) ?_
  refine eg_RX11_71 hC hS h dX11_fits_15 (fun t_15 h => ?_)
  refine lv_aload_n hx hb dX11_fits_18 rfl (lv_at hl 0 rfl) ?_
  refine eg_RX11_93 hC hS h dX11_fits_19 (fun t_19 h => ?_)
  refine lv_iload_n hx hb dX11_fits_22 rfl (lv_at hl 1 rfl) ?_
  refine lv_iconst (v := 1) hx hb dX11_fits_23 (by decide) ?_
  refine ez_cVpi (As := [.int x1, .int 1]) (rest := [.ref (B + t_15)]) h (fun _ q => c_X10_knownAt q) hC k_X10_knownAt ql_RX11_412 rfl (by decide) hS (fun _ q => ez_rcv q) rfl hl.1 rfl (Nat.le_of_ble_eq_true rfl) ⟨Nat.zero_le _, Nat.zero_le _⟩ dX11_fits_24 (fun t_24 H locs hS h => ?_)
  refine lv_aload_n hx hb dX11_fits_27 rfl (lv_at hl 0 rfl) ?_
  refine eg_RX11_93 hC hS h dX11_fits_28 (fun t_28 h => ?_)
  refine lv_iload_n hx hb dX11_fits_31 rfl (lv_at hl 1 rfl) ?_
  refine lv_iconst (v := 0) hx hb dX11_fits_32 (by decide) ?_
  refine ez_cVpi (As := [.int x1, .int 0]) (rest := [.int t_24, .ref (B + t_15)]) h (fun _ q => c_X10_knownAt q) hC k_X10_knownAt ql_RX11_412 rfl (by decide) hS (fun _ q => ez_rcv q) rfl hl.1 rfl (Nat.le_of_ble_eq_true rfl) ⟨Nat.zero_le _, Nat.zero_le _⟩ dX11_fits_33 (fun t_33 H locs hS h => ?_)
  refine ez_cVpi (As := [.int t_24, .int t_33]) (rest := []) h (fun _ q => c_X8_total q) hC k_X8_total ql_RX11_328 rfl (by decide) hS (fun _ q => ez_rcv q) rfl hl.1 rfl (Nat.le_of_ble_eq_true rfl) ⟨Nat.zero_le _, Nat.zero_le _⟩ dX11_fits_36 (fun t_36 H locs hS h => ?_)
  exact hret _ _ _ _ _ _ (Option.some.inj h) rfl hS dX11_fits_39
set_option maxHeartbeats 4000000 in
set_option maxRecDepth 100000 in
theorem c_X11_ask {l : Launch} {X : ez_X} {B : Nat} {σ : ez_H} {h0 : Nat} {x1 : Int32} {x2 : Int32} {z : Int32 × ez_H} (h : z_X11_ask σ h0 x1 x2 = some z) : ez_M l X B σ yX11_ask cX11_ask 11 (some .int) 5 [.ref (B + h0), .int x1, .int x2] (some (.int z.1)) z.2 := by
  refine ez_starti (z := z) (by decide) (Nat.le_of_ble_eq_true rfl) (fun p e R s m args below meth c Q hC hret hS ls hl => ?_)
  have hC : ez_C p R s m args c X B RX11 cX11_ask 11 5 := hC
  have hx := hC.1.1
  have hb := hC.1.2.1
  have hown := hC.1.2.2.2.1
  have hts := hC.1.2.2.2.2
  have hl : lv_has ls 11 [(0, .ref (B + h0)), (1, .int x1), (2, .int x2)] := hl
  obtain ⟨σ0, eσ⟩ : ∃ σ0 : ez_H, σ0 = σ := ⟨_, rfl⟩
  rw [← eσ] at hret
  have hS : ez_S X B s.heap σ0.length σ s.heap [] := eσ ▸ hS
  obtain ⟨-, h⟩ := ez_in h
  have K_9 : ∀ (σ : ez_H) (H : Heap) (locs : List Loc) (ls : Array Slot), ez_S X B s.heap (σ0.length) σ H locs → z_X11_ask_9 σ = some z → lv_has ls 11 [] → W p l e R s m args below meth c H locs 0 0 Q (F0 m 9 ls []) := by
    intro σ H locs ls hS h hl
    refine lv_iconst (v := -1) hx hb dX11_ask_9 (by decide) ?_
    exact hret _ _ _ _ _ _ (Option.some.inj h) rfl hS dX11_ask_10
  have K_139 : ∀ (σ : ez_H) (y0 : Int32) (H : Heap) (locs : List Loc) (ls : Array Slot), ez_S X B s.heap (σ0.length) σ H locs → z_X11_ask_139 σ y0 = some z → lv_has ls 11 [] → W p l e R s m args below meth c H locs 0 0 Q (F0 m 139 ls [.int y0]) := by
    intro σ y0 H locs ls hS h hl
    exact hret _ _ _ _ _ _ (Option.some.inj h) rfl hS dX11_ask_139
  have K_132 : ∀ (σ : ez_H) (x6 : Int32) (H : Heap) (locs : List Loc) (ls : Array Slot), ez_S X B s.heap (σ0.length) σ H locs → z_X11_ask_132 σ x6 = some z → lv_has ls 11 [(6, .int x6)] → W p l e R s m args below meth c H locs 0 0 Q (F0 m 132 ls []) := by
    intro σ x6 H locs ls hS h hl
    refine lv_iload hx hb dX11_ask_132 (lv_at hl 0 rfl) ?_
    refine lv_goto (tgt := 139) hx hb dX11_ask_134 (by decide) ?_
    exact K_139  σ x6 _ _ _ hS h (lv_sub hl [] rfl)
  have K_116 : ∀ (k_54 : ez_H → Nat → Int32 → Int32 → Int32 → Int32 → Int32 → Int32 → Int32 → Option (Int32 × ez_H)) (hk_54 : ∀ (σ : ez_H) (h0 : Nat) (x1 : Int32) (x3 : Int32) (x4 : Int32) (x5 : Int32) (x6 : Int32) (x7 : Int32) (x8 : Int32) (H : Heap) (locs : List Loc) (ls : Array Slot), ez_S X B s.heap (σ0.length) σ H locs → k_54 σ h0 x1 x3 x4 x5 x6 x7 x8 = some z → lv_has ls 11 [(0, .ref (B + h0)), (1, .int x1), (3, .int x3), (4, .int x4), (5, .int x5), (6, .int x6), (7, .int x7), (8, .int x8)] → W p l e R s m args below meth c H locs 0 0 Q (F0 m 54 ls [])), ∀ (σ : ez_H) (h0 : Nat) (x1 : Int32) (x3 : Int32) (x4 : Int32) (x5 : Int32) (x6 : Int32) (x7 : Int32) (x8 : Int32) (H : Heap) (locs : List Loc) (ls : Array Slot), ez_S X B s.heap (σ0.length) σ H locs → z_X11_ask_116 k_54 σ h0 x1 x3 x4 x5 x6 x7 x8 = some z → lv_has ls 11 [(0, .ref (B + h0)), (1, .int x1), (3, .int x3), (4, .int x4), (5, .int x5), (6, .int x6), (7, .int x7), (8, .int x8)] → W p l e R s m args below meth c H locs 0 0 Q (F0 m 116 ls []) := by
    intro k_54 hk_54 σ h0 x1 x3 x4 x5 x6 x7 x8 H locs ls hS h hl
    obtain ⟨t_116, e_116, h⟩ := ez_let_sp h
    refine lv_iinc (v := t_116) (lv' := [(8, .int t_116), (0, .ref (B + h0)), (1, .int x1), (3, .int x3), (4, .int x4), (5, .int x5), (6, .int x6), (7, .int x7)]) hx hb dX11_ask_116 hl (k := 7) rfl (by rw [e_116]; rfl) (by decide) rfl (fun ls hl => ?_)
    refine lv_goto (tgt := 54) hx hb dX11_ask_119 (by decide) ?_
    exact hk_54 σ h0 x1 x3 x4 x5 x6 x7 t_116 _ _ _ hS h (lv_sub hl [1, 2, 3, 4, 5, 6, 7, 0] rfl)
  have K_108 : ∀ (k_54 : ez_H → Nat → Int32 → Int32 → Int32 → Int32 → Int32 → Int32 → Int32 → Option (Int32 × ez_H)) (hk_54 : ∀ (σ : ez_H) (h0 : Nat) (x1 : Int32) (x3 : Int32) (x4 : Int32) (x5 : Int32) (x6 : Int32) (x7 : Int32) (x8 : Int32) (H : Heap) (locs : List Loc) (ls : Array Slot), ez_S X B s.heap (σ0.length) σ H locs → k_54 σ h0 x1 x3 x4 x5 x6 x7 x8 = some z → lv_has ls 11 [(0, .ref (B + h0)), (1, .int x1), (3, .int x3), (4, .int x4), (5, .int x5), (6, .int x6), (7, .int x7), (8, .int x8)] → W p l e R s m args below meth c H locs 0 0 Q (F0 m 54 ls [])), ∀ (σ : ez_H) (h0 : Nat) (x1 : Int32) (x3 : Int32) (x4 : Int32) (x5 : Int32) (x8 : Int32) (x10 : Int32) (H : Heap) (locs : List Loc) (ls : Array Slot), ez_S X B s.heap (σ0.length) σ H locs → z_X11_ask_108 k_54 σ h0 x1 x3 x4 x5 x8 x10 = some z → lv_has ls 11 [(0, .ref (B + h0)), (1, .int x1), (3, .int x3), (4, .int x4), (5, .int x5), (8, .int x8), (10, .int x10)] → W p l e R s m args below meth c H locs 0 0 Q (F0 m 108 ls []) := by
    intro k_54 hk_54 σ h0 x1 x3 x4 x5 x8 x10 H locs ls hS h hl
    refine lv_iload hx hb dX11_ask_108 (lv_at hl 5 rfl) ?_
    refine lv_istore (lv' := [(6, .int x8), (0, .ref (B + h0)), (1, .int x1), (3, .int x3), (4, .int x4), (5, .int x5), (8, .int x8), (10, .int x10)]) hx hb dX11_ask_110 hl (by decide) rfl (fun ls hl => ?_)
    refine lv_iload hx hb dX11_ask_112 (lv_at hl 7 rfl) ?_
    refine lv_istore (lv' := [(7, .int x10), (6, .int x8), (0, .ref (B + h0)), (1, .int x1), (3, .int x3), (4, .int x4), (5, .int x5), (8, .int x8), (10, .int x10)]) hx hb dX11_ask_114 hl (by decide) rfl (fun ls hl => ?_)
    exact K_116 k_54 hk_54 σ h0 x1 x3 x4 x5 x8 x10 x8 _ _ _ hS h (lv_sub hl [2, 3, 4, 5, 6, 1, 0, 7] rfl)
  have K_54 : ∀ (k_54 : ez_H → Nat → Int32 → Int32 → Int32 → Int32 → Int32 → Int32 → Int32 → Option (Int32 × ez_H)) (hk_54 : ∀ (σ : ez_H) (h0 : Nat) (x1 : Int32) (x3 : Int32) (x4 : Int32) (x5 : Int32) (x6 : Int32) (x7 : Int32) (x8 : Int32) (H : Heap) (locs : List Loc) (ls : Array Slot), ez_S X B s.heap (σ0.length) σ H locs → k_54 σ h0 x1 x3 x4 x5 x6 x7 x8 = some z → lv_has ls 11 [(0, .ref (B + h0)), (1, .int x1), (3, .int x3), (4, .int x4), (5, .int x5), (6, .int x6), (7, .int x7), (8, .int x8)] → W p l e R s m args below meth c H locs 0 0 Q (F0 m 54 ls [])), ∀ (σ : ez_H) (h0 : Nat) (x1 : Int32) (x3 : Int32) (x4 : Int32) (x5 : Int32) (x6 : Int32) (x7 : Int32) (x8 : Int32) (H : Heap) (locs : List Loc) (ls : Array Slot), ez_S X B s.heap (σ0.length) σ H locs → z_X11_ask_54 k_54 σ h0 x1 x3 x4 x5 x6 x7 x8 = some z → lv_has ls 11 [(0, .ref (B + h0)), (1, .int x1), (3, .int x3), (4, .int x4), (5, .int x5), (6, .int x6), (7, .int x7), (8, .int x8)] → W p l e R s m args below meth c H locs 0 0 Q (F0 m 54 ls []) := by
    intro k_54 hk_54 σ h0 x1 x3 x4 x5 x6 x7 x8 H locs ls hS h hl
    refine lv_iload hx hb dX11_ask_54 (lv_at hl 7 rfl) ?_
    refine lv_aload_n hx hb dX11_ask_56 rfl (lv_at hl 0 rfl) ?_
    refine eg_RX11_29 hC hS h dX11_ask_57 (fun t_57 h => ?_)
    refine eg_RX11_392 hC hS h dX11_ask_60 (fun t_60 h => ?_)
    refine lv_icmp_ge (tgt := 122) hx hb dX11_ask_63 (by decide) (fun c_63 => ?_) (fun c_63 => ?_)
    · replace h := ez_ifp h c_63
      refine lv_iload_n hx hb dX11_ask_122 rfl (lv_at hl 1 rfl) ?_
      refine lv_if_eq (tgt := 132) hx hb dX11_ask_123 (by decide) (fun c_123 => ?_) (fun c_123 => ?_)
      · replace h := ez_ifp h c_123
        exact K_132  σ x6 _ _ _ hS h (lv_sub hl [5] rfl)
      · replace h := ez_ifn h c_123
        refine lv_iload hx hb dX11_ask_126 (lv_at hl 5 rfl) ?_
        refine lv_iconst (v := -1) hx hb dX11_ask_128 (by decide) ?_
        refine lv_icmp_ne (tgt := 137) hx hb dX11_ask_129 (by decide) (fun c_129 => ?_) (fun c_129 => ?_)
        · replace h := ez_ifn h c_129
          refine lv_iload hx hb dX11_ask_137 (lv_at hl 6 rfl) ?_
          exact K_139  σ x7 _ _ _ hS h (lv_sub hl [] rfl)
        · replace h := ez_ifp h c_129
          exact K_132  σ x6 _ _ _ hS h (lv_sub hl [5] rfl)
    · replace h := ez_ifn h c_63
      refine lv_aload_n hx hb dX11_ask_66 rfl (lv_at hl 0 rfl) ?_
      refine eg_RX11_71 hC hS h dX11_ask_67 (fun t_67 h => ?_)
      refine lv_iload hx hb dX11_ask_70 (lv_at hl 3 rfl) ?_
      refine lv_iconst (v := 1) hx hb dX11_ask_72 (by decide) ?_
      refine lv_iload hx hb dX11_ask_73 (lv_at hl 7 rfl) ?_
      refine lv_ishl hx hb dX11_ask_75 ?_
      refine ez_top h (fun t_75 h => ?_)
      refine lv_ior hx hb dX11_ask_76 ?_
      refine ez_top h (fun t_76 h => ?_)
      refine lv_iload hx hb dX11_ask_77 (lv_at hl 4 rfl) ?_
      refine ez_cVpi (As := [.int t_76, .int x5]) (rest := []) h (fun _ q => c_X8_total q) hC k_X8_total ql_RX11_328 rfl (by decide) hS (fun _ q => ez_rcv q) rfl hl.1 rfl (Nat.le_of_ble_eq_true rfl) ⟨Nat.zero_le _, Nat.zero_le _⟩ dX11_ask_79 (fun t_79 H locs hS h => ?_)
      refine lv_istore (lv' := [(9, .int t_79), (0, .ref (B + h0)), (1, .int x1), (3, .int x3), (4, .int x4), (5, .int x5), (6, .int x6), (7, .int x7), (8, .int x8)]) hx hb dX11_ask_82 hl (by decide) rfl (fun ls hl => ?_)
      refine lv_iload hx hb dX11_ask_84 (lv_at hl 0 rfl) ?_
      refine lv_iload_n hx hb dX11_ask_86 rfl (lv_at hl 3 rfl) ?_
      refine lv_iload hx hb dX11_ask_87 (lv_at hl 0 rfl) ?_
      refine lv_isub hx hb dX11_ask_89 ?_
      refine ez_top h (fun t_89 h => ?_)
      refine va_mmax hx hb (hC.1.2.2.1.trans hl.1.symm) hown (hts _ ql_RX11_246) (hts _ qm_max_s) (hts _ qm_i) (hts _ qm_max_c) (Nat.le_trans (by decide) hC.2.2.1) (Nat.le_trans (Nat.le_of_ble_eq_true rfl) hC.2.2.2.1) (Nat.zero_le _) (Nat.zero_le _) dX11_ask_90 ?_
      refine ez_top h (fun t_90 h => ?_)
      refine lv_istore (lv' := [(10, .int t_90), (9, .int t_79), (0, .ref (B + h0)), (1, .int x1), (3, .int x3), (4, .int x4), (5, .int x5), (6, .int x6), (7, .int x7), (8, .int x8)]) hx hb dX11_ask_93 hl (by decide) rfl (fun ls hl => ?_)
      refine lv_iload hx hb dX11_ask_95 (lv_at hl 7 rfl) ?_
      refine lv_iconst (v := -1) hx hb dX11_ask_97 (by decide) ?_
      refine lv_icmp_eq (tgt := 108) hx hb dX11_ask_98 (by decide) (fun c_98 => ?_) (fun c_98 => ?_)
      · replace h := ez_ifp h c_98
        exact K_108 k_54 hk_54 σ h0 x1 x3 x4 x5 x8 t_90 _ _ _ hS h (lv_sub hl [2, 3, 4, 5, 6, 9, 0] rfl)
      · replace h := ez_ifn h c_98
        refine lv_iload hx hb dX11_ask_101 (lv_at hl 0 rfl) ?_
        refine lv_iload hx hb dX11_ask_103 (lv_at hl 8 rfl) ?_
        refine lv_icmp_ge (tgt := 116) hx hb dX11_ask_105 (by decide) (fun c_105 => ?_) (fun c_105 => ?_)
        · replace h := ez_ifp h c_105
          exact K_116 k_54 hk_54 σ h0 x1 x3 x4 x5 x6 x7 x8 _ _ _ hS h (lv_sub hl [2, 3, 4, 5, 6, 7, 8, 9] rfl)
        · replace h := ez_ifn h c_105
          exact K_108 k_54 hk_54 σ h0 x1 x3 x4 x5 x8 t_90 _ _ _ hS h (lv_sub hl [2, 3, 4, 5, 6, 9, 0] rfl)
  have E_54 : ∀ (σ : ez_H) (h0 : Nat) (x1 : Int32) (x3 : Int32) (x4 : Int32) (x5 : Int32) (x6 : Int32) (x7 : Int32) (x8 : Int32) (H : Heap) (locs : List Loc) (ls : Array Slot), ez_S X B s.heap (σ0.length) σ H locs → (ez_fix (fun _ _ _ _ _ _ _ _ _ => none) (z_X11_ask_54) ez_N) σ h0 x1 x3 x4 x5 x6 x7 x8 = some z → lv_has ls 11 [(0, .ref (B + h0)), (1, .int x1), (3, .int x3), (4, .int x4), (5, .int x5), (6, .int x6), (7, .int x7), (8, .int x8)] → W p l e R s m args below meth c H locs 0 0 Q (F0 m 54 ls []) := ez_fix_ind (fun k_54 : ez_H → Nat → Int32 → Int32 → Int32 → Int32 → Int32 → Int32 → Int32 → Option (Int32 × ez_H) => ∀ (σ : ez_H) (h0 : Nat) (x1 : Int32) (x3 : Int32) (x4 : Int32) (x5 : Int32) (x6 : Int32) (x7 : Int32) (x8 : Int32) (H : Heap) (locs : List Loc) (ls : Array Slot), ez_S X B s.heap (σ0.length) σ H locs → k_54 σ h0 x1 x3 x4 x5 x6 x7 x8 = some z → lv_has ls 11 [(0, .ref (B + h0)), (1, .int x1), (3, .int x3), (4, .int x4), (5, .int x5), (6, .int x6), (7, .int x7), (8, .int x8)] → W p l e R s m args below meth c H locs 0 0 Q (F0 m 54 ls [])) (fun _ _ _ _ _ _ _ _ _ _ _ _ _ h _ => by cases h) (fun k_54 hk_54 => K_54 k_54 hk_54) ez_N
  refine lv_iload_n hx hb dX11_ask_0 rfl (lv_at hl 1 rfl) ?_
  refine lv_if_lt (tgt := 9) hx hb dX11_ask_1 (by decide) (fun c_1 => ?_) (fun c_1 => ?_)
  · replace h := ez_ifp h c_1
    exact K_9  σ _ _ _ hS h (lv_sub hl [] rfl)
  · replace h := ez_ifn h c_1
    refine lv_iload_n hx hb dX11_ask_4 rfl (lv_at hl 1 rfl) ?_
    refine lv_iconst (v := 1) hx hb dX11_ask_5 (by decide) ?_
    refine lv_icmp_le (tgt := 11) hx hb dX11_ask_6 (by decide) (fun c_6 => ?_) (fun c_6 => ?_)
    · replace h := ez_ifp h c_6
      refine lv_aload_n hx hb dX11_ask_11 rfl (lv_at hl 0 rfl) ?_
      refine lv_iload_n hx hb dX11_ask_12 rfl (lv_at hl 2 rfl) ?_
      refine ez_cVi (As := [.int x2]) (rest := []) h (fun _ q => c_X11_fits q) hC k_X11_fits ql_RX11_415 rfl (by decide) hS (fun _ q => ez_rcv q) rfl hl.1 rfl (Nat.le_of_ble_eq_true rfl) ⟨Nat.zero_le _, Nat.zero_le _⟩ dX11_ask_13 (fun t_13 σ H locs hS h => ?_)
      refine lv_istore_n (lv' := [(3, .int t_13), (0, .ref (B + h0)), (1, .int x1), (2, .int x2)]) hx hb dX11_ask_16 rfl hl (by decide) rfl (fun ls hl => ?_)
      refine lv_iload_n hx hb dX11_ask_17 rfl (lv_at hl 0 rfl) ?_
      refine lv_if_ne (tgt := 23) hx hb dX11_ask_18 (by decide) (fun c_18 => ?_) (fun c_18 => ?_)
      · replace h := ez_ifn h c_18
        refine lv_aload_n hx hb dX11_ask_23 rfl (lv_at hl 1 rfl) ?_
        refine eg_RX11_93 hC hS h dX11_ask_24 (fun t_24 h => ?_)
        refine lv_iload_n hx hb dX11_ask_27 rfl (lv_at hl 3 rfl) ?_
        refine lv_iconst (v := 1) hx hb dX11_ask_28 (by decide) ?_
        refine ez_cVpi (As := [.int x2, .int 1]) (rest := []) h (fun _ q => c_X10_knownAt q) hC k_X10_knownAt ql_RX11_412 rfl (by decide) hS (fun _ q => ez_rcv q) rfl hl.1 rfl (Nat.le_of_ble_eq_true rfl) ⟨Nat.zero_le _, Nat.zero_le _⟩ dX11_ask_29 (fun t_29 H locs hS h => ?_)
        refine lv_istore (lv' := [(4, .int t_29), (3, .int t_13), (0, .ref (B + h0)), (1, .int x1), (2, .int x2)]) hx hb dX11_ask_32 hl (by decide) rfl (fun ls hl => ?_)
        refine lv_aload_n hx hb dX11_ask_34 rfl (lv_at hl 2 rfl) ?_
        refine eg_RX11_93 hC hS h dX11_ask_35 (fun t_35 h => ?_)
        refine lv_iload_n hx hb dX11_ask_38 rfl (lv_at hl 4 rfl) ?_
        refine lv_iconst (v := 0) hx hb dX11_ask_39 (by decide) ?_
        refine ez_cVpi (As := [.int x2, .int 0]) (rest := []) h (fun _ q => c_X10_knownAt q) hC k_X10_knownAt ql_RX11_412 rfl (by decide) hS (fun _ q => ez_rcv q) rfl hl.1 rfl (Nat.le_of_ble_eq_true rfl) ⟨Nat.zero_le _, Nat.zero_le _⟩ dX11_ask_40 (fun t_40 H locs hS h => ?_)
        refine lv_istore (lv' := [(5, .int t_40), (4, .int t_29), (3, .int t_13), (0, .ref (B + h0)), (1, .int x1), (2, .int x2)]) hx hb dX11_ask_43 hl (by decide) rfl (fun ls hl => ?_)
        refine lv_iconst (v := -1) hx hb dX11_ask_45 (by decide) ?_
        refine lv_istore (lv' := [(6, .int (-1)), (5, .int t_40), (4, .int t_29), (3, .int t_13), (0, .ref (B + h0)), (1, .int x1), (2, .int x2)]) hx hb dX11_ask_46 hl (by decide) rfl (fun ls hl => ?_)
        refine lv_iconst (v := 0) hx hb dX11_ask_48 (by decide) ?_
        refine lv_istore (lv' := [(7, .int 0), (6, .int (-1)), (5, .int t_40), (4, .int t_29), (3, .int t_13), (0, .ref (B + h0)), (1, .int x1), (2, .int x2)]) hx hb dX11_ask_49 hl (by decide) rfl (fun ls hl => ?_)
        refine lv_iconst (v := 0) hx hb dX11_ask_51 (by decide) ?_
        refine lv_istore (lv' := [(8, .int 0), (7, .int 0), (6, .int (-1)), (5, .int t_40), (4, .int t_29), (3, .int t_13), (0, .ref (B + h0)), (1, .int x1), (2, .int x2)]) hx hb dX11_ask_52 hl (by decide) rfl (fun ls hl => ?_)
        exact E_54  σ h0 x1 t_13 t_29 t_40 (-1 : Int32) (0 : Int32) (0 : Int32) _ _ _ hS h (lv_sub hl [6, 7, 5, 4, 3, 2, 1, 0] rfl)
      · replace h := ez_ifp h c_18
        refine lv_iconst (v := -1) hx hb dX11_ask_21 (by decide) ?_
        exact hret _ _ _ _ _ _ (Option.some.inj h) rfl hS dX11_ask_22
    · replace h := ez_ifn h c_6
      exact K_9  σ _ _ _ hS h (lv_sub hl [] rfl)
set_option maxHeartbeats 4000000 in
set_option maxRecDepth 100000 in
theorem c_X7_copyFrom {l : Launch} {X : ez_X} {B : Nat} {σ : ez_H} {h0 : Nat} {h1 : Nat} {z : Unit × ez_H} (h : z_X7_copyFrom σ h0 h1 = some z) : ez_M l X B σ yX7_copyFrom cX7_copyFrom 2 (none) 1 [.ref (B + h0), .ref (B + h1)] (none) z.2 := by
  refine ez_startv (z := z) (by decide) (Nat.le_of_ble_eq_true rfl) (fun p e R s m args below meth c Q hC hret hS ls hl => ?_)
  have hC : ez_C p R s m args c X B RX7 cX7_copyFrom 2 1 := hC
  have hx := hC.1.1
  have hb := hC.1.2.1
  have hown := hC.1.2.2.2.1
  have hts := hC.1.2.2.2.2
  have hl : lv_has ls 2 [(0, .ref (B + h0)), (1, .ref (B + h1))] := hl
  obtain ⟨σ0, eσ⟩ : ∃ σ0 : ez_H, σ0 = σ := ⟨_, rfl⟩
  rw [← eσ] at hret
  have hS : ez_S X B s.heap σ0.length σ s.heap [] := eσ ▸ hS
  obtain ⟨-, h⟩ := ez_in h
  refine lv_aload_n hx hb dX7_copyFrom_0 rfl (lv_at hl 1 rfl) ?_
  refine eg_RX7_11 hC hS h dX7_copyFrom_1 (fun t_1 h => ?_)
  refine lv_iconst (v := 0) hx hb dX7_copyFrom_4 (by decide) ?_
  refine lv_aload_n hx hb dX7_copyFrom_5 rfl (lv_at hl 0 rfl) ?_
  refine eg_RX7_11 hC hS h dX7_copyFrom_6 (fun t_6 h => ?_)
  refine lv_iconst (v := 0) hx hb dX7_copyFrom_9 (by decide) ?_
  refine lv_bipush (v := 35) hx hb dX7_copyFrom_10 (by decide) ?_
  refine ez_copyi hC hS ql_RX7_21 rfl hl.1 (by decide) h dX7_copyFrom_12 (fun σ H locs hS h => ?_)
  exact hret _ _ _ _ _ _ (Option.some.inj h) hS dX7_copyFrom_15
set_option maxHeartbeats 4000000 in
set_option maxRecDepth 100000 in
theorem c_X1_forget {l : Launch} {X : ez_X} {B : Nat} {σ : ez_H} {h0 : Nat} {z : Unit × ez_H} (h : z_X1_forget σ h0 = some z) : ez_M l X B σ yX1_forget cX1_forget 1 (none) 0 [.ref (B + h0)] (none) z.2 := by
  refine ez_startv (z := z) (by decide) (Nat.le_of_ble_eq_true rfl) (fun p e R s m args below meth c Q hC hret hS ls hl => ?_)
  have hC : ez_C p R s m args c X B RX1 cX1_forget 1 0 := hC
  have hx := hC.1.1
  have hb := hC.1.2.1
  have hown := hC.1.2.2.2.1
  have hts := hC.1.2.2.2.2
  have hl : lv_has ls 1 [(0, .ref (B + h0))] := hl
  obtain ⟨σ0, eσ⟩ : ∃ σ0 : ez_H, σ0 = σ := ⟨_, rfl⟩
  rw [← eσ] at hret
  have hS : ez_S X B s.heap σ0.length σ s.heap [] := eσ ▸ hS
  obtain ⟨-, h⟩ := ez_in h
  refine lv_aload_n hx hb dX1_forget_0 rfl (lv_at hl 0 rfl) ?_
  refine lv_iconst (v := 0) hx hb dX1_forget_1 (by decide) ?_
  refine ep_RX1_16 hC hS h dX1_forget_2 (fun σ H locs hS h => ?_)
  refine lv_aload_n hx hb dX1_forget_5 rfl (lv_at hl 0 rfl) ?_
  refine lv_iconst (v := 0) hx hb dX1_forget_6 (by decide) ?_
  refine ep_RX1_20 hC hS h dX1_forget_7 (fun σ H locs hS h => ?_)
  refine lv_aload_n hx hb dX1_forget_10 rfl (lv_at hl 0 rfl) ?_
  refine lv_iconst (v := 0) hx hb dX1_forget_11 (by decide) ?_
  refine ep_RX1_23 hC hS h dX1_forget_12 (fun σ H locs hS h => ?_)
  exact hret _ _ _ _ _ _ (Option.some.inj h) hS dX1_forget_15
set_option maxHeartbeats 4000000 in
set_option maxRecDepth 100000 in
theorem c_X7_holder {l : Launch} {X : ez_X} {B : Nat} {σ : ez_H} {h0 : Nat} {x1 : Int32} {z : Int32} (h : z_X7_holder σ h0 x1 = some z) : ez_M l X B σ yX7_holder cX7_holder 2 (some .int) 1 [.ref (B + h0), .int x1] (some (.int z)) σ := by
  refine ez_startip (z := z) (by decide) (Nat.le_of_ble_eq_true rfl) (fun p e R s m args below meth c Q hC hret hS ls hl => ?_)
  have hC : ez_C p R s m args c X B RX7 cX7_holder 2 1 := hC
  have hx := hC.1.1
  have hb := hC.1.2.1
  have hown := hC.1.2.2.2.1
  have hts := hC.1.2.2.2.2
  have hl : lv_has ls 2 [(0, .ref (B + h0)), (1, .int x1)] := hl
  obtain ⟨n0, e0⟩ : ∃ n0 : Nat, n0 = σ.length := ⟨_, rfl⟩
  rw [← e0] at hret hS
  obtain ⟨-, h⟩ := ez_in h
  refine lv_aload_n hx hb dX7_holder_0 rfl (lv_at hl 0 rfl) ?_
  refine lv_bipush (v := 16) hx hb dX7_holder_1 (by decide) ?_
  refine lv_iload_n hx hb dX7_holder_3 rfl (lv_at hl 1 rfl) ?_
  refine lv_iadd hx hb dX7_holder_4 ?_
  refine ez_top h (fun t_4 h => ?_)
  refine ez_cVpi (As := [.int t_4]) (rest := []) h (fun _ q => c_X7_look q) hC k_X7_look ql_RX7_27 rfl (by decide) hS (fun _ q => ez_rcv q) rfl hl.1 rfl (Nat.le_of_ble_eq_true rfl) ⟨Nat.zero_le _, Nat.zero_le _⟩ dX7_holder_5 (fun t_5 H locs hS h => ?_)
  exact hret _ _ _ _ _ (Option.some.inj h) rfl hS dX7_holder_8
set_option maxHeartbeats 4000000 in
set_option maxRecDepth 100000 in
theorem c_X7_heldBy {l : Launch} {X : ez_X} {B : Nat} {σ : ez_H} {h0 : Nat} {x1 : Int32} {x2 : Int32} {z : Int32} (h : z_X7_heldBy σ h0 x1 x2 = some z) : ez_M l X B σ yX7_heldBy cX7_heldBy 5 (some .int) 2 [.ref (B + h0), .int x1, .int x2] (some (.int z)) σ := by
  refine ez_startip (z := z) (by decide) (Nat.le_of_ble_eq_true rfl) (fun p e R s m args below meth c Q hC hret hS ls hl => ?_)
  have hC : ez_C p R s m args c X B RX7 cX7_heldBy 5 2 := hC
  have hx := hC.1.1
  have hb := hC.1.2.1
  have hown := hC.1.2.2.2.1
  have hts := hC.1.2.2.2.2
  have hl : lv_has ls 5 [(0, .ref (B + h0)), (1, .int x1), (2, .int x2)] := hl
  obtain ⟨n0, e0⟩ : ∃ n0 : Nat, n0 = σ.length := ⟨_, rfl⟩
  rw [← e0] at hret hS
  obtain ⟨-, h⟩ := ez_in h
  have K_41 : ∀ (x3 : Int32) (H : Heap) (locs : List Loc) (ls : Array Slot), ez_S X B s.heap (n0) σ H locs → z_X7_heldBy_41 σ x3 = some z → lv_has ls 5 [(3, .int x3)] → W p l e R s m args below meth c H locs 0 0 Q (F0 m 41 ls []) := by
    intro x3 H locs ls hS h hl
    refine lv_iload_n hx hb dX7_heldBy_41 rfl (lv_at hl 0 rfl) ?_
    exact hret _ _ _ _ _ (Option.some.inj h) rfl hS dX7_heldBy_42
  have K_35 : ∀ (k_5 : Nat → Int32 → Int32 → Int32 → Int32 → Option (Int32)) (hk_5 : ∀ (h0 : Nat) (x1 : Int32) (x2 : Int32) (x3 : Int32) (x4 : Int32) (H : Heap) (locs : List Loc) (ls : Array Slot), ez_S X B s.heap (n0) σ H locs → k_5 h0 x1 x2 x3 x4 = some z → lv_has ls 5 [(0, .ref (B + h0)), (1, .int x1), (2, .int x2), (3, .int x3), (4, .int x4)] → W p l e R s m args below meth c H locs 0 0 Q (F0 m 5 ls [])), ∀ (h0 : Nat) (x1 : Int32) (x2 : Int32) (x3 : Int32) (x4 : Int32) (H : Heap) (locs : List Loc) (ls : Array Slot), ez_S X B s.heap (n0) σ H locs → z_X7_heldBy_35 σ k_5 h0 x1 x2 x3 x4 = some z → lv_has ls 5 [(0, .ref (B + h0)), (1, .int x1), (2, .int x2), (3, .int x3), (4, .int x4)] → W p l e R s m args below meth c H locs 0 0 Q (F0 m 35 ls []) := by
    intro k_5 hk_5 h0 x1 x2 x3 x4 H locs ls hS h hl
    obtain ⟨t_35, e_35, h⟩ := ez_let_sp h
    refine lv_iinc (v := t_35) (lv' := [(4, .int t_35), (0, .ref (B + h0)), (1, .int x1), (2, .int x2), (3, .int x3)]) hx hb dX7_heldBy_35 hl (k := 4) rfl (by rw [e_35]; rfl) (by decide) rfl (fun ls hl => ?_)
    refine lv_goto (tgt := 5) hx hb dX7_heldBy_38 (by decide) ?_
    exact hk_5 h0 x1 x2 x3 t_35 _ _ _ hS h (lv_sub hl [1, 2, 3, 4, 0] rfl)
  have K_5 : ∀ (k_5 : Nat → Int32 → Int32 → Int32 → Int32 → Option (Int32)) (hk_5 : ∀ (h0 : Nat) (x1 : Int32) (x2 : Int32) (x3 : Int32) (x4 : Int32) (H : Heap) (locs : List Loc) (ls : Array Slot), ez_S X B s.heap (n0) σ H locs → k_5 h0 x1 x2 x3 x4 = some z → lv_has ls 5 [(0, .ref (B + h0)), (1, .int x1), (2, .int x2), (3, .int x3), (4, .int x4)] → W p l e R s m args below meth c H locs 0 0 Q (F0 m 5 ls [])), ∀ (h0 : Nat) (x1 : Int32) (x2 : Int32) (x3 : Int32) (x4 : Int32) (H : Heap) (locs : List Loc) (ls : Array Slot), ez_S X B s.heap (n0) σ H locs → z_X7_heldBy_5 σ k_5 h0 x1 x2 x3 x4 = some z → lv_has ls 5 [(0, .ref (B + h0)), (1, .int x1), (2, .int x2), (3, .int x3), (4, .int x4)] → W p l e R s m args below meth c H locs 0 0 Q (F0 m 5 ls []) := by
    intro k_5 hk_5 h0 x1 x2 x3 x4 H locs ls hS h hl
    refine lv_iload hx hb dX7_heldBy_5 (lv_at hl 4 rfl) ?_
    refine lv_iload_n hx hb dX7_heldBy_7 rfl (lv_at hl 2 rfl) ?_
    refine lv_icmp_ge (tgt := 41) hx hb dX7_heldBy_8 (by decide) (fun c_8 => ?_) (fun c_8 => ?_)
    · replace h := ez_ifp h c_8
      exact K_41  x3 _ _ _ hS h (lv_sub hl [3] rfl)
    · replace h := ez_ifn h c_8
      refine lv_iload hx hb dX7_heldBy_11 (lv_at hl 4 rfl) ?_
      refine lv_bipush (v := 8) hx hb dX7_heldBy_13 (by decide) ?_
      refine lv_icmp_ge (tgt := 41) hx hb dX7_heldBy_15 (by decide) (fun c_15 => ?_) (fun c_15 => ?_)
      · replace h := ez_ifp h c_15
        exact K_41  x3 _ _ _ hS h (lv_sub hl [3] rfl)
      · replace h := ez_ifn h c_15
        refine lv_aload_n hx hb dX7_heldBy_18 rfl (lv_at hl 0 rfl) ?_
        refine lv_iload hx hb dX7_heldBy_19 (lv_at hl 4 rfl) ?_
        refine ez_cVpi (As := [.int x4]) (rest := []) h (fun _ q => c_X7_holder q) hC k_X7_holder ql_RX7_35 rfl (by decide) hS (fun _ q => ez_rcv q) rfl hl.1 rfl (Nat.le_of_ble_eq_true rfl) ⟨Nat.zero_le _, Nat.zero_le _⟩ dX7_heldBy_21 (fun t_21 H locs hS h => ?_)
        refine lv_iload_n hx hb dX7_heldBy_24 rfl (lv_at hl 1 rfl) ?_
        refine lv_icmp_ne (tgt := 35) hx hb dX7_heldBy_25 (by decide) (fun c_25 => ?_) (fun c_25 => ?_)
        · replace h := ez_ifn h c_25
          exact K_35 k_5 hk_5 h0 x1 x2 x3 x4 _ _ _ hS h (lv_sub hl [0, 1, 2, 3, 4] rfl)
        · replace h := ez_ifp h c_25
          refine lv_iload_n hx hb dX7_heldBy_28 rfl (lv_at hl 3 rfl) ?_
          refine lv_iconst (v := 1) hx hb dX7_heldBy_29 (by decide) ?_
          refine lv_iload hx hb dX7_heldBy_30 (lv_at hl 4 rfl) ?_
          refine lv_ishl hx hb dX7_heldBy_32 ?_
          refine ez_top h (fun t_32 h => ?_)
          refine lv_ior hx hb dX7_heldBy_33 ?_
          refine ez_top h (fun t_33 h => ?_)
          refine lv_istore_n (lv' := [(3, .int t_33), (0, .ref (B + h0)), (1, .int x1), (2, .int x2), (4, .int x4)]) hx hb dX7_heldBy_34 rfl hl (by decide) rfl (fun ls hl => ?_)
          exact K_35 k_5 hk_5 h0 x1 x2 t_33 x4 _ _ _ hS h (lv_sub hl [1, 2, 3, 0, 4] rfl)
  have E_5 : ∀ (h0 : Nat) (x1 : Int32) (x2 : Int32) (x3 : Int32) (x4 : Int32) (H : Heap) (locs : List Loc) (ls : Array Slot), ez_S X B s.heap (n0) σ H locs → (ez_fix (fun _ _ _ _ _ => none) (z_X7_heldBy_5 σ) ez_N) h0 x1 x2 x3 x4 = some z → lv_has ls 5 [(0, .ref (B + h0)), (1, .int x1), (2, .int x2), (3, .int x3), (4, .int x4)] → W p l e R s m args below meth c H locs 0 0 Q (F0 m 5 ls []) := ez_fix_ind (fun k_5 : Nat → Int32 → Int32 → Int32 → Int32 → Option (Int32) => ∀ (h0 : Nat) (x1 : Int32) (x2 : Int32) (x3 : Int32) (x4 : Int32) (H : Heap) (locs : List Loc) (ls : Array Slot), ez_S X B s.heap (n0) σ H locs → k_5 h0 x1 x2 x3 x4 = some z → lv_has ls 5 [(0, .ref (B + h0)), (1, .int x1), (2, .int x2), (3, .int x3), (4, .int x4)] → W p l e R s m args below meth c H locs 0 0 Q (F0 m 5 ls [])) (fun _ _ _ _ _ _ _ _ _ h _ => by cases h) (fun k_5 hk_5 => K_5 k_5 hk_5) ez_N
  refine lv_iconst (v := 0) hx hb dX7_heldBy_0 (by decide) ?_
  refine lv_istore_n (lv' := [(3, .int 0), (0, .ref (B + h0)), (1, .int x1), (2, .int x2)]) hx hb dX7_heldBy_1 rfl hl (by decide) rfl (fun ls hl => ?_)
  refine lv_iconst (v := 0) hx hb dX7_heldBy_2 (by decide) ?_
  refine lv_istore (lv' := [(4, .int 0), (3, .int 0), (0, .ref (B + h0)), (1, .int x1), (2, .int x2)]) hx hb dX7_heldBy_3 hl (by decide) rfl (fun ls hl => ?_)
  exact E_5  h0 x1 x2 (0 : Int32) (0 : Int32) _ _ _ hS h (lv_sub hl [2, 3, 4, 1, 0] rfl)
set_option maxHeartbeats 4000000 in
set_option maxRecDepth 100000 in
theorem c_J6_bitCount_0f7a4 {l : Launch} {X : ez_X} {B : Nat} {σ : ez_H} {x0 : Int32} {z : Int32} (h : z_J6_bitCount_0f7a4 σ x0 = some z) : ez_M l X B σ yJ6_bitCount_0f7a4 cJ6_bitCount_0f7a4 1 (some .int) 0 [.int x0] (some (.int z)) σ := by
  refine ez_startip (z := z) (by decide) (Nat.le_of_ble_eq_true rfl) (fun p e R s m args below meth c Q hC hret hS ls hl => ?_)
  have hC : ez_C p R s m args c X B RJ6 cJ6_bitCount_0f7a4 1 0 := hC
  have hx := hC.1.1
  have hb := hC.1.2.1
  have hown := hC.1.2.2.2.1
  have hts := hC.1.2.2.2.2
  have hl : lv_has ls 1 [(0, .int x0)] := hl
  obtain ⟨n0, e0⟩ : ∃ n0 : Nat, n0 = σ.length := ⟨_, rfl⟩
  rw [← e0] at hret hS
  refine lv_iload_n hx hb dJ6_bitCount_0f7a4_0 rfl (lv_at hl 0 rfl) ?_
  refine lv_iload_n hx hb dJ6_bitCount_0f7a4_1 rfl (lv_at hl 0 rfl) ?_
  refine lv_iconst (v := 1) hx hb dJ6_bitCount_0f7a4_2 (by decide) ?_
  refine lv_iushr hx hb dJ6_bitCount_0f7a4_3 rfl ?_
  refine ez_top h (fun t_3 h => ?_)
  refine lv_ldcw hx hb hown (hts _ qc_RJ6_265) dJ6_bitCount_0f7a4_4 ?_
  refine lv_iand hx hb dJ6_bitCount_0f7a4_7 ?_
  refine ez_top h (fun t_7 h => ?_)
  refine lv_isub hx hb dJ6_bitCount_0f7a4_8 ?_
  refine ez_top h (fun t_8 h => ?_)
  refine lv_istore_n (lv' := [(0, .int t_8)]) hx hb dJ6_bitCount_0f7a4_9 rfl hl (by decide) rfl (fun ls hl => ?_)
  refine lv_iload_n hx hb dJ6_bitCount_0f7a4_10 rfl (lv_at hl 0 rfl) ?_
  refine lv_ldcw hx hb hown (hts _ qc_RJ6_266) dJ6_bitCount_0f7a4_11 ?_
  refine lv_iand hx hb dJ6_bitCount_0f7a4_14 ?_
  refine ez_top h (fun t_14 h => ?_)
  refine lv_iload_n hx hb dJ6_bitCount_0f7a4_15 rfl (lv_at hl 0 rfl) ?_
  refine lv_iconst (v := 2) hx hb dJ6_bitCount_0f7a4_16 (by decide) ?_
  refine lv_iushr hx hb dJ6_bitCount_0f7a4_17 rfl ?_
  refine ez_top h (fun t_17 h => ?_)
  refine lv_ldcw hx hb hown (hts _ qc_RJ6_266) dJ6_bitCount_0f7a4_18 ?_
  refine lv_iand hx hb dJ6_bitCount_0f7a4_21 ?_
  refine ez_top h (fun t_21 h => ?_)
  refine lv_iadd hx hb dJ6_bitCount_0f7a4_22 ?_
  refine ez_top h (fun t_22 h => ?_)
  refine lv_istore_n (lv' := [(0, .int t_22)]) hx hb dJ6_bitCount_0f7a4_23 rfl hl (by decide) rfl (fun ls hl => ?_)
  refine lv_iload_n hx hb dJ6_bitCount_0f7a4_24 rfl (lv_at hl 0 rfl) ?_
  refine lv_iload_n hx hb dJ6_bitCount_0f7a4_25 rfl (lv_at hl 0 rfl) ?_
  refine lv_iconst (v := 4) hx hb dJ6_bitCount_0f7a4_26 (by decide) ?_
  refine lv_iushr hx hb dJ6_bitCount_0f7a4_27 rfl ?_
  refine ez_top h (fun t_27 h => ?_)
  refine lv_iadd hx hb dJ6_bitCount_0f7a4_28 ?_
  refine ez_top h (fun t_28 h => ?_)
  refine lv_ldcw hx hb hown (hts _ qc_RJ6_267) dJ6_bitCount_0f7a4_29 ?_
  refine lv_iand hx hb dJ6_bitCount_0f7a4_32 ?_
  refine ez_top h (fun t_32 h => ?_)
  refine lv_istore_n (lv' := [(0, .int t_32)]) hx hb dJ6_bitCount_0f7a4_33 rfl hl (by decide) rfl (fun ls hl => ?_)
  refine lv_iload_n hx hb dJ6_bitCount_0f7a4_34 rfl (lv_at hl 0 rfl) ?_
  refine lv_iload_n hx hb dJ6_bitCount_0f7a4_35 rfl (lv_at hl 0 rfl) ?_
  refine lv_bipush (v := 8) hx hb dJ6_bitCount_0f7a4_36 (by decide) ?_
  refine lv_iushr hx hb dJ6_bitCount_0f7a4_38 rfl ?_
  refine ez_top h (fun t_38 h => ?_)
  refine lv_iadd hx hb dJ6_bitCount_0f7a4_39 ?_
  refine ez_top h (fun t_39 h => ?_)
  refine lv_istore_n (lv' := [(0, .int t_39)]) hx hb dJ6_bitCount_0f7a4_40 rfl hl (by decide) rfl (fun ls hl => ?_)
  refine lv_iload_n hx hb dJ6_bitCount_0f7a4_41 rfl (lv_at hl 0 rfl) ?_
  refine lv_iload_n hx hb dJ6_bitCount_0f7a4_42 rfl (lv_at hl 0 rfl) ?_
  refine lv_bipush (v := 16) hx hb dJ6_bitCount_0f7a4_43 (by decide) ?_
  refine lv_iushr hx hb dJ6_bitCount_0f7a4_45 rfl ?_
  refine ez_top h (fun t_45 h => ?_)
  refine lv_iadd hx hb dJ6_bitCount_0f7a4_46 ?_
  refine ez_top h (fun t_46 h => ?_)
  refine lv_istore_n (lv' := [(0, .int t_46)]) hx hb dJ6_bitCount_0f7a4_47 rfl hl (by decide) rfl (fun ls hl => ?_)
  refine lv_iload_n hx hb dJ6_bitCount_0f7a4_48 rfl (lv_at hl 0 rfl) ?_
  refine lv_bipush (v := 63) hx hb dJ6_bitCount_0f7a4_49 (by decide) ?_
  refine lv_iand hx hb dJ6_bitCount_0f7a4_51 ?_
  refine ez_top h (fun t_51 h => ?_)
  exact hret _ _ _ _ _ (Option.some.inj h) rfl hS dJ6_bitCount_0f7a4_52
set_option maxHeartbeats 4000000 in
set_option maxRecDepth 100000 in
theorem c_X11_back {l : Launch} {X : ez_X} {B : Nat} {σ : ez_H} {h0 : Nat} {x1 : Int32} {z : Int32 × ez_H} (h : z_X11_back σ h0 x1 = some z) : ez_M l X B σ yX11_back cX11_back 2 (some .int) 3 [.ref (B + h0), .int x1] (some (.int z.1)) z.2 := by
  refine ez_starti (z := z) (by decide) (Nat.le_of_ble_eq_true rfl) (fun p e R s m args below meth c Q hC hret hS ls hl => ?_)
  have hC : ez_C p R s m args c X B RX11 cX11_back 2 3 := hC
  have hx := hC.1.1
  have hb := hC.1.2.1
  have hown := hC.1.2.2.2.1
  have hts := hC.1.2.2.2.2
  have hl : lv_has ls 2 [(0, .ref (B + h0)), (1, .int x1)] := hl
  obtain ⟨σ0, eσ⟩ : ∃ σ0 : ez_H, σ0 = σ := ⟨_, rfl⟩
  rw [← eσ] at hret
  have hS : ez_S X B s.heap σ0.length σ s.heap [] := eσ ▸ hS
  obtain ⟨-, h⟩ := ez_in h
  have K_20 : ∀ (σ : ez_H) (H : Heap) (locs : List Loc) (ls : Array Slot), ez_S X B s.heap (σ0.length) σ H locs → z_X11_back_20 σ = some z → lv_has ls 2 [] → W p l e R s m args below meth c H locs 0 0 Q (F0 m 20 ls []) := by
    intro σ H locs ls hS h hl
    refine lv_iconst (v := -1) hx hb dX11_back_20 (by decide) ?_
    exact hret _ _ _ _ _ _ (Option.some.inj h) rfl hS dX11_back_21
  refine lv_iload_n hx hb dX11_back_0 rfl (lv_at hl 1 rfl) ?_
  refine lv_if_lt (tgt := 20) hx hb dX11_back_1 (by decide) (fun c_1 => ?_) (fun c_1 => ?_)
  · replace h := ez_ifp h c_1
    exact K_20  σ _ _ _ hS h (lv_sub hl [] rfl)
  · replace h := ez_ifn h c_1
    refine lv_iload_n hx hb dX11_back_4 rfl (lv_at hl 1 rfl) ?_
    refine lv_iconst (v := 3) hx hb dX11_back_5 (by decide) ?_
    refine lv_icmp_ge (tgt := 20) hx hb dX11_back_6 (by decide) (fun c_6 => ?_) (fun c_6 => ?_)
    · replace h := ez_ifp h c_6
      exact K_20  σ _ _ _ hS h (lv_sub hl [] rfl)
    · replace h := ez_ifn h c_6
      refine lv_aload_n hx hb dX11_back_9 rfl (lv_at hl 0 rfl) ?_
      refine eg_RX11_59 hC hS h dX11_back_10 (fun t_10 h => ?_)
      refine lv_iload_n hx hb dX11_back_13 rfl (lv_at hl 1 rfl) ?_
      refine lv_ishr hx hb dX11_back_14 ?_
      refine ez_top h (fun t_14 h => ?_)
      refine lv_iconst (v := 1) hx hb dX11_back_15 (by decide) ?_
      refine lv_iand hx hb dX11_back_16 ?_
      refine ez_top h (fun t_16 h => ?_)
      refine lv_if_ne (tgt := 22) hx hb dX11_back_17 (by decide) (fun c_17 => ?_) (fun c_17 => ?_)
      · replace h := ez_ifn h c_17
        refine lv_aload_n hx hb dX11_back_22 rfl (lv_at hl 0 rfl) ?_
        refine eg_RX11_41 hC hS h dX11_back_23 (fun t_23 h => ?_)
        refine lv_aload_n hx hb dX11_back_26 rfl (lv_at hl 0 rfl) ?_
        refine eg_RX11_55 hC hS h dX11_back_27 (fun t_27 h => ?_)
        refine lv_iload_n hx hb dX11_back_30 rfl (lv_at hl 1 rfl) ?_
        refine ez_sal hC hS h dX11_back_31 (fun t_31 h => ?_)
        refine ez_cVv (As := [.ref (B + t_31)]) (rest := []) h (fun _ q => c_X7_copyFrom q) hC k_X7_copyFrom ql_RX11_118 rfl (by decide) hS (fun _ q => ez_rcv q) rfl hl.1 rfl (Nat.le_of_ble_eq_true rfl) ⟨Nat.zero_le _, Nat.zero_le _⟩ dX11_back_32 (fun _ σ H locs hS h => ?_)
        refine lv_aload_n hx hb dX11_back_35 rfl (lv_at hl 0 rfl) ?_
        refine eg_RX11_51 hC hS h dX11_back_36 (fun t_36 h => ?_)
        refine ez_cVv (As := []) (rest := []) h (fun _ q => c_X1_forget q) hC k_X1_forget ql_RX11_121 rfl (by decide) hS (fun _ q => ez_rcv q) rfl hl.1 rfl (Nat.le_of_ble_eq_true rfl) ⟨Nat.zero_le _, Nat.zero_le _⟩ dX11_back_39 (fun _ σ H locs hS h => ?_)
        refine lv_aload_n hx hb dX11_back_42 rfl (lv_at hl 0 rfl) ?_
        refine eg_RX11_41 hC hS h dX11_back_43 (fun t_43 h => ?_)
        refine lv_bipush (v := -2) hx hb dX11_back_46 (by decide) ?_
        refine lv_aload_n hx hb dX11_back_48 rfl (lv_at hl 0 rfl) ?_
        refine eg_RX11_29 hC hS h dX11_back_49 (fun t_49 h => ?_)
        refine eg_RX11_128 hC hS h dX11_back_52 (fun t_52 h => ?_)
        refine ez_cVpi (As := [.int (-2), .int t_52]) (rest := []) h (fun _ q => c_X7_heldBy q) hC k_X7_heldBy ql_RX11_206 rfl (by decide) hS (fun _ q => ez_rcv q) rfl hl.1 rfl (Nat.le_of_ble_eq_true rfl) ⟨Nat.zero_le _, Nat.zero_le _⟩ dX11_back_55 (fun t_55 H locs hS h => ?_)
        refine ez_cSpi (As := [.int t_55]) (rest := []) h (fun _ q => c_J6_bitCount_0f7a4 q) hC k_J6_bitCount_0f7a4 ql_RX11_171 rfl (by decide) hS hl.1 rfl (Nat.le_of_ble_eq_true rfl) ⟨Nat.zero_le _, Nat.zero_le _⟩ dX11_back_58 (fun t_58 H locs hS h => ?_)
        exact hret _ _ _ _ _ _ (Option.some.inj h) rfl hS dX11_back_61
      · replace h := ez_ifp h c_17
        exact K_20  σ _ _ _ hS h (lv_sub hl [] rfl)
set_option maxHeartbeats 4000000 in
set_option maxRecDepth 100000 in
theorem c_X3_allRooms {l : Launch} {X : ez_X} {B : Nat} {σ : ez_H} {h0 : Nat} {z : Int32} (h : z_X3_allRooms σ h0 = some z) : ez_M l X B σ yX3_allRooms cX3_allRooms 1 (some .int) 0 [.ref (B + h0)] (some (.int z)) σ := by
  refine ez_startip (z := z) (by decide) (Nat.le_of_ble_eq_true rfl) (fun p e R s m args below meth c Q hC hret hS ls hl => ?_)
  have hC : ez_C p R s m args c X B RX3 cX3_allRooms 1 0 := hC
  have hx := hC.1.1
  have hb := hC.1.2.1
  have hown := hC.1.2.2.2.1
  have hts := hC.1.2.2.2.2
  have hl : lv_has ls 1 [(0, .ref (B + h0))] := hl
  obtain ⟨n0, e0⟩ : ∃ n0 : Nat, n0 = σ.length := ⟨_, rfl⟩
  rw [← e0] at hret hS
  obtain ⟨-, h⟩ := ez_in h
  refine lv_iconst (v := 1) hx hb dX3_allRooms_0 (by decide) ?_
  refine lv_aload_n hx hb dX3_allRooms_1 rfl (lv_at hl 0 rfl) ?_
  refine eg_RX3_62 hC hS h dX3_allRooms_2 (fun t_2 h => ?_)
  refine lv_ishl hx hb dX3_allRooms_5 ?_
  refine ez_top h (fun t_5 h => ?_)
  refine lv_iconst (v := 1) hx hb dX3_allRooms_6 (by decide) ?_
  refine lv_isub hx hb dX3_allRooms_7 ?_
  refine ez_top h (fun t_7 h => ?_)
  exact hret _ _ _ _ _ (Option.some.inj h) rfl hS dX3_allRooms_8
set_option maxHeartbeats 4000000 in
set_option maxRecDepth 100000 in
theorem c_X7_room {l : Launch} {X : ez_X} {B : Nat} {σ : ez_H} {h0 : Nat} {x1 : Int32} {z : Int32} (h : z_X7_room σ h0 x1 = some z) : ez_M l X B σ yX7_room cX7_room 2 (some .int) 1 [.ref (B + h0), .int x1] (some (.int z)) σ := by
  refine ez_startip (z := z) (by decide) (Nat.le_of_ble_eq_true rfl) (fun p e R s m args below meth c Q hC hret hS ls hl => ?_)
  have hC : ez_C p R s m args c X B RX7 cX7_room 2 1 := hC
  have hx := hC.1.1
  have hb := hC.1.2.1
  have hown := hC.1.2.2.2.1
  have hts := hC.1.2.2.2.2
  have hl : lv_has ls 2 [(0, .ref (B + h0)), (1, .int x1)] := hl
  obtain ⟨n0, e0⟩ : ∃ n0 : Nat, n0 = σ.length := ⟨_, rfl⟩
  rw [← e0] at hret hS
  obtain ⟨-, h⟩ := ez_in h
  refine lv_aload_n hx hb dX7_room_0 rfl (lv_at hl 0 rfl) ?_
  refine lv_bipush (v := 30) hx hb dX7_room_1 (by decide) ?_
  refine lv_iload_n hx hb dX7_room_3 rfl (lv_at hl 1 rfl) ?_
  refine lv_iadd hx hb dX7_room_4 ?_
  refine ez_top h (fun t_4 h => ?_)
  refine ez_cVpi (As := [.int t_4]) (rest := []) h (fun _ q => c_X7_look q) hC k_X7_look ql_RX7_27 rfl (by decide) hS (fun _ q => ez_rcv q) rfl hl.1 rfl (Nat.le_of_ble_eq_true rfl) ⟨Nat.zero_le _, Nat.zero_le _⟩ dX7_room_5 (fun t_5 H locs hS h => ?_)
  exact hret _ _ _ _ _ (Option.some.inj h) rfl hS dX7_room_8
set_option maxHeartbeats 4000000 in
set_option maxRecDepth 100000 in
theorem c_X7_bits {l : Launch} {X : ez_X} {B : Nat} {σ : ez_H} {h0 : Nat} {x1 : Int32} {z : Int32} (h : z_X7_bits σ h0 x1 = some z) : ez_M l X B σ yX7_bits cX7_bits 2 (some .int) 1 [.ref (B + h0), .int x1] (some (.int z)) σ := by
  refine ez_startip (z := z) (by decide) (Nat.le_of_ble_eq_true rfl) (fun p e R s m args below meth c Q hC hret hS ls hl => ?_)
  have hC : ez_C p R s m args c X B RX7 cX7_bits 2 1 := hC
  have hx := hC.1.1
  have hb := hC.1.2.1
  have hown := hC.1.2.2.2.1
  have hts := hC.1.2.2.2.2
  have hl : lv_has ls 2 [(0, .ref (B + h0)), (1, .int x1)] := hl
  obtain ⟨n0, e0⟩ : ∃ n0 : Nat, n0 = σ.length := ⟨_, rfl⟩
  rw [← e0] at hret hS
  obtain ⟨-, h⟩ := ez_in h
  refine lv_aload_n hx hb dX7_bits_0 rfl (lv_at hl 0 rfl) ?_
  refine lv_iload_n hx hb dX7_bits_1 rfl (lv_at hl 1 rfl) ?_
  refine ez_cVpi (As := [.int x1]) (rest := []) h (fun _ q => c_X7_look q) hC k_X7_look ql_RX7_27 rfl (by decide) hS (fun _ q => ez_rcv q) rfl hl.1 rfl (Nat.le_of_ble_eq_true rfl) ⟨Nat.zero_le _, Nat.zero_le _⟩ dX7_bits_2 (fun t_2 H locs hS h => ?_)
  exact hret _ _ _ _ _ (Option.some.inj h) rfl hS dX7_bits_5
set_option maxHeartbeats 4000000 in
set_option maxRecDepth 100000 in
theorem c_X6_fitsIn {l : Launch} {X : ez_X} {B : Nat} {σ : ez_H} {x0 : Int32} {x1 : Int32} {z : Int32} (h : z_X6_fitsIn σ x0 x1 = some z) : ez_M l X B σ yX6_fitsIn cX6_fitsIn 2 (some .boolean) 0 [.int x0, .int x1] (some (.int z)) σ := by
  refine ez_startip (z := z) (by decide) (Nat.le_of_ble_eq_true rfl) (fun p e R s m args below meth c Q hC hret hS ls hl => ?_)
  have hC : ez_C p R s m args c X B RX6 cX6_fitsIn 2 0 := hC
  have hx := hC.1.1
  have hb := hC.1.2.1
  have hown := hC.1.2.2.2.1
  have hts := hC.1.2.2.2.2
  have hl : lv_has ls 2 [(0, .int x0), (1, .int x1)] := hl
  obtain ⟨n0, e0⟩ : ∃ n0 : Nat, n0 = σ.length := ⟨_, rfl⟩
  rw [← e0] at hret hS
  have K_13 : ∀ (y0 : Int32) (H : Heap) (locs : List Loc) (ls : Array Slot), ez_S X B s.heap (n0) σ H locs → z_X6_fitsIn_13 σ y0 = some z → lv_has ls 2 [] → W p l e R s m args below meth c H locs 0 0 Q (F0 m 13 ls [.int y0]) := by
    intro y0 H locs ls hS h hl
    obtain ⟨hn, h⟩ := ez_nr_sp rfl h
    exact hret _ _ _ _ _ (Option.some.inj h) hn hS dX6_fitsIn_13
  refine lv_iload_n hx hb dX6_fitsIn_0 rfl (lv_at hl 0 rfl) ?_
  refine lv_iload_n hx hb dX6_fitsIn_1 rfl (lv_at hl 1 rfl) ?_
  refine lv_iconst (v := -1) hx hb dX6_fitsIn_2 (by decide) ?_
  refine lv_ixor hx hb dX6_fitsIn_3 ?_
  refine ez_top h (fun t_3 h => ?_)
  refine lv_iand hx hb dX6_fitsIn_4 ?_
  refine ez_top h (fun t_4 h => ?_)
  refine lv_if_ne (tgt := 12) hx hb dX6_fitsIn_5 (by decide) (fun c_5 => ?_) (fun c_5 => ?_)
  · replace h := ez_ifn h c_5
    refine lv_iconst (v := 0) hx hb dX6_fitsIn_12 (by decide) ?_
    exact K_13  (0 : Int32) _ _ _ hS h (lv_sub hl [] rfl)
  · replace h := ez_ifp h c_5
    refine lv_iconst (v := 1) hx hb dX6_fitsIn_8 (by decide) ?_
    refine lv_goto (tgt := 13) hx hb dX6_fitsIn_9 (by decide) ?_
    exact K_13  (1 : Int32) _ _ _ hS h (lv_sub hl [] rfl)
set_option maxHeartbeats 4000000 in
set_option maxRecDepth 100000 in
theorem c_X2_locksFor {l : Launch} {X : ez_X} {B : Nat} {σ : ez_H} {h0 : Nat} {x1 : Int32} {z : Int32} (h : z_X2_locksFor σ h0 x1 = some z) : ez_M l X B σ yX2_locksFor cX2_locksFor 5 (some .int) 2 [.ref (B + h0), .int x1] (some (.int z)) σ := by
  refine ez_startip (z := z) (by decide) (Nat.le_of_ble_eq_true rfl) (fun p e R s m args below meth c Q hC hret hS ls hl => ?_)
  have hC : ez_C p R s m args c X B RX2 cX2_locksFor 5 2 := hC
  have hx := hC.1.1
  have hb := hC.1.2.1
  have hown := hC.1.2.2.2.1
  have hts := hC.1.2.2.2.2
  have hl : lv_has ls 5 [(0, .ref (B + h0)), (1, .int x1)] := hl
  obtain ⟨n0, e0⟩ : ∃ n0 : Nat, n0 = σ.length := ⟨_, rfl⟩
  rw [← e0] at hret hS
  obtain ⟨-, h⟩ := ez_in h
  have K_74 : ∀ (k_4 : Nat → Int32 → Int32 → Int32 → Option (Int32)) (hk_4 : ∀ (h0 : Nat) (x1 : Int32) (x2 : Int32) (x3 : Int32) (H : Heap) (locs : List Loc) (ls : Array Slot), ez_S X B s.heap (n0) σ H locs → k_4 h0 x1 x2 x3 = some z → lv_has ls 5 [(0, .ref (B + h0)), (1, .int x1), (2, .int x2), (3, .int x3)] → W p l e R s m args below meth c H locs 0 0 Q (F0 m 4 ls [])), ∀ (h0 : Nat) (x1 : Int32) (x2 : Int32) (x3 : Int32) (H : Heap) (locs : List Loc) (ls : Array Slot), ez_S X B s.heap (n0) σ H locs → z_X2_locksFor_74 σ k_4 h0 x1 x2 x3 = some z → lv_has ls 5 [(0, .ref (B + h0)), (1, .int x1), (2, .int x2), (3, .int x3)] → W p l e R s m args below meth c H locs 0 0 Q (F0 m 74 ls []) := by
    intro k_4 hk_4 h0 x1 x2 x3 H locs ls hS h hl
    obtain ⟨t_74, e_74, h⟩ := ez_let_sp h
    refine lv_iinc (v := t_74) (lv' := [(3, .int t_74), (0, .ref (B + h0)), (1, .int x1), (2, .int x2)]) hx hb dX2_locksFor_74 hl (k := 3) rfl (by rw [e_74]; rfl) (by decide) rfl (fun ls hl => ?_)
    refine lv_goto (tgt := 4) hx hb dX2_locksFor_77 (by decide) ?_
    exact hk_4 h0 x1 x2 t_74 _ _ _ hS h (lv_sub hl [1, 2, 3, 0] rfl)
  have K_68 : ∀ (k_4 : Nat → Int32 → Int32 → Int32 → Option (Int32)) (hk_4 : ∀ (h0 : Nat) (x1 : Int32) (x2 : Int32) (x3 : Int32) (H : Heap) (locs : List Loc) (ls : Array Slot), ez_S X B s.heap (n0) σ H locs → k_4 h0 x1 x2 x3 = some z → lv_has ls 5 [(0, .ref (B + h0)), (1, .int x1), (2, .int x2), (3, .int x3)] → W p l e R s m args below meth c H locs 0 0 Q (F0 m 4 ls [])) (k_18 : Nat → Int32 → Int32 → Int32 → Int32 → Option (Int32)) (hk_18 : ∀ (h0 : Nat) (x1 : Int32) (x2 : Int32) (x3 : Int32) (x4 : Int32) (H : Heap) (locs : List Loc) (ls : Array Slot), ez_S X B s.heap (n0) σ H locs → k_18 h0 x1 x2 x3 x4 = some z → lv_has ls 5 [(0, .ref (B + h0)), (1, .int x1), (2, .int x2), (3, .int x3), (4, .int x4)] → W p l e R s m args below meth c H locs 0 0 Q (F0 m 18 ls [])), ∀ (h0 : Nat) (x1 : Int32) (x2 : Int32) (x3 : Int32) (x4 : Int32) (H : Heap) (locs : List Loc) (ls : Array Slot), ez_S X B s.heap (n0) σ H locs → z_X2_locksFor_68 σ k_4 k_18 h0 x1 x2 x3 x4 = some z → lv_has ls 5 [(0, .ref (B + h0)), (1, .int x1), (2, .int x2), (3, .int x3), (4, .int x4)] → W p l e R s m args below meth c H locs 0 0 Q (F0 m 68 ls []) := by
    intro k_4 hk_4 k_18 hk_18 h0 x1 x2 x3 x4 H locs ls hS h hl
    obtain ⟨t_68, e_68, h⟩ := ez_let_sp h
    refine lv_iinc (v := t_68) (lv' := [(4, .int t_68), (0, .ref (B + h0)), (1, .int x1), (2, .int x2), (3, .int x3)]) hx hb dX2_locksFor_68 hl (k := 4) rfl (by rw [e_68]; rfl) (by decide) rfl (fun ls hl => ?_)
    refine lv_goto (tgt := 18) hx hb dX2_locksFor_71 (by decide) ?_
    exact hk_18 h0 x1 x2 x3 t_68 _ _ _ hS h (lv_sub hl [1, 2, 3, 4, 0] rfl)
  have K_18 : ∀ (k_4 : Nat → Int32 → Int32 → Int32 → Option (Int32)) (hk_4 : ∀ (h0 : Nat) (x1 : Int32) (x2 : Int32) (x3 : Int32) (H : Heap) (locs : List Loc) (ls : Array Slot), ez_S X B s.heap (n0) σ H locs → k_4 h0 x1 x2 x3 = some z → lv_has ls 5 [(0, .ref (B + h0)), (1, .int x1), (2, .int x2), (3, .int x3)] → W p l e R s m args below meth c H locs 0 0 Q (F0 m 4 ls [])) (k_18 : Nat → Int32 → Int32 → Int32 → Int32 → Option (Int32)) (hk_18 : ∀ (h0 : Nat) (x1 : Int32) (x2 : Int32) (x3 : Int32) (x4 : Int32) (H : Heap) (locs : List Loc) (ls : Array Slot), ez_S X B s.heap (n0) σ H locs → k_18 h0 x1 x2 x3 x4 = some z → lv_has ls 5 [(0, .ref (B + h0)), (1, .int x1), (2, .int x2), (3, .int x3), (4, .int x4)] → W p l e R s m args below meth c H locs 0 0 Q (F0 m 18 ls [])), ∀ (h0 : Nat) (x1 : Int32) (x2 : Int32) (x3 : Int32) (x4 : Int32) (H : Heap) (locs : List Loc) (ls : Array Slot), ez_S X B s.heap (n0) σ H locs → z_X2_locksFor_18 σ k_4 k_18 h0 x1 x2 x3 x4 = some z → lv_has ls 5 [(0, .ref (B + h0)), (1, .int x1), (2, .int x2), (3, .int x3), (4, .int x4)] → W p l e R s m args below meth c H locs 0 0 Q (F0 m 18 ls []) := by
    intro k_4 hk_4 k_18 hk_18 h0 x1 x2 x3 x4 H locs ls hS h hl
    refine lv_iload hx hb dX2_locksFor_18 (lv_at hl 4 rfl) ?_
    refine lv_aload_n hx hb dX2_locksFor_20 rfl (lv_at hl 0 rfl) ?_
    refine eg_RX2_9 hC hS h dX2_locksFor_21 (fun t_21 h => ?_)
    refine eg_RX2_38 hC hS h dX2_locksFor_24 (fun t_24 h => ?_)
    refine lv_icmp_ge (tgt := 74) hx hb dX2_locksFor_27 (by decide) (fun c_27 => ?_) (fun c_27 => ?_)
    · replace h := ez_ifp h c_27
      exact K_74 k_4 hk_4 h0 x1 x2 x3 _ _ _ hS h (lv_sub hl [0, 1, 2, 3] rfl)
    · replace h := ez_ifn h c_27
      refine lv_iload_n hx hb dX2_locksFor_30 rfl (lv_at hl 1 rfl) ?_
      refine lv_iload_n hx hb dX2_locksFor_31 rfl (lv_at hl 3 rfl) ?_
      refine lv_ishr hx hb dX2_locksFor_32 ?_
      refine ez_top h (fun t_32 h => ?_)
      refine lv_iconst (v := 1) hx hb dX2_locksFor_33 (by decide) ?_
      refine lv_iand hx hb dX2_locksFor_34 ?_
      refine ez_top h (fun t_34 h => ?_)
      refine lv_if_eq (tgt := 74) hx hb dX2_locksFor_35 (by decide) (fun c_35 => ?_) (fun c_35 => ?_)
      · replace h := ez_ifp h c_35
        exact K_74 k_4 hk_4 h0 x1 x2 x3 _ _ _ hS h (lv_sub hl [0, 1, 2, 3] rfl)
      · replace h := ez_ifn h c_35
        refine lv_aload_n hx hb dX2_locksFor_38 rfl (lv_at hl 0 rfl) ?_
        refine eg_RX2_15 hC hS h dX2_locksFor_39 (fun t_39 h => ?_)
        refine lv_iload_n hx hb dX2_locksFor_42 rfl (lv_at hl 3 rfl) ?_
        refine ez_cVpi (As := [.int x3]) (rest := []) h (fun _ q => c_X7_bits q) hC k_X7_bits ql_RX2_41 rfl (by decide) hS (fun _ q => ez_rcv q) rfl hl.1 rfl (Nat.le_of_ble_eq_true rfl) ⟨Nat.zero_le _, Nat.zero_le _⟩ dX2_locksFor_43 (fun t_43 H locs hS h => ?_)
        refine lv_aload_n hx hb dX2_locksFor_46 rfl (lv_at hl 0 rfl) ?_
        refine eg_RX2_15 hC hS h dX2_locksFor_47 (fun t_47 h => ?_)
        refine lv_iload hx hb dX2_locksFor_50 (lv_at hl 4 rfl) ?_
        refine ez_cVpi (As := [.int x4]) (rest := [.int t_43]) h (fun _ q => c_X7_pins q) hC k_X7_pins ql_RX2_47 rfl (by decide) hS (fun _ q => ez_rcv q) rfl hl.1 rfl (Nat.le_of_ble_eq_true rfl) ⟨Nat.zero_le _, Nat.zero_le _⟩ dX2_locksFor_52 (fun t_52 H locs hS h => ?_)
        refine ez_cSpi (As := [.int t_43, .int t_52]) (rest := []) h (fun _ q => c_X6_fitsIn q) hC k_X6_fitsIn ql_RX2_50 rfl (by decide) hS hl.1 rfl (Nat.le_of_ble_eq_true rfl) ⟨Nat.zero_le _, Nat.zero_le _⟩ dX2_locksFor_55 (fun t_55 H locs hS h => ?_)
        refine lv_if_eq (tgt := 68) hx hb dX2_locksFor_58 (by decide) (fun c_58 => ?_) (fun c_58 => ?_)
        · replace h := ez_ifp h c_58
          exact K_68 k_4 hk_4 k_18 hk_18 h0 x1 x2 x3 x4 _ _ _ hS h (lv_sub hl [0, 1, 2, 3, 4] rfl)
        · replace h := ez_ifn h c_58
          refine lv_iload_n hx hb dX2_locksFor_61 rfl (lv_at hl 2 rfl) ?_
          refine lv_iconst (v := 1) hx hb dX2_locksFor_62 (by decide) ?_
          refine lv_iload hx hb dX2_locksFor_63 (lv_at hl 4 rfl) ?_
          refine lv_ishl hx hb dX2_locksFor_65 ?_
          refine ez_top h (fun t_65 h => ?_)
          refine lv_ior hx hb dX2_locksFor_66 ?_
          refine ez_top h (fun t_66 h => ?_)
          refine lv_istore_n (lv' := [(2, .int t_66), (0, .ref (B + h0)), (1, .int x1), (3, .int x3), (4, .int x4)]) hx hb dX2_locksFor_67 rfl hl (by decide) rfl (fun ls hl => ?_)
          exact K_68 k_4 hk_4 k_18 hk_18 h0 x1 t_66 x3 x4 _ _ _ hS h (lv_sub hl [1, 2, 0, 3, 4] rfl)
  have E_18 : ∀ (k_4 : Nat → Int32 → Int32 → Int32 → Option (Int32)) (hk_4 : ∀ (h0 : Nat) (x1 : Int32) (x2 : Int32) (x3 : Int32) (H : Heap) (locs : List Loc) (ls : Array Slot), ez_S X B s.heap (n0) σ H locs → k_4 h0 x1 x2 x3 = some z → lv_has ls 5 [(0, .ref (B + h0)), (1, .int x1), (2, .int x2), (3, .int x3)] → W p l e R s m args below meth c H locs 0 0 Q (F0 m 4 ls [])), ∀ (h0 : Nat) (x1 : Int32) (x2 : Int32) (x3 : Int32) (x4 : Int32) (H : Heap) (locs : List Loc) (ls : Array Slot), ez_S X B s.heap (n0) σ H locs → (ez_fix (fun _ _ _ _ _ => none) (z_X2_locksFor_18 σ k_4) ez_N) h0 x1 x2 x3 x4 = some z → lv_has ls 5 [(0, .ref (B + h0)), (1, .int x1), (2, .int x2), (3, .int x3), (4, .int x4)] → W p l e R s m args below meth c H locs 0 0 Q (F0 m 18 ls []) := fun k_4 hk_4 => ez_fix_ind (fun k_18 : Nat → Int32 → Int32 → Int32 → Int32 → Option (Int32) => ∀ (h0 : Nat) (x1 : Int32) (x2 : Int32) (x3 : Int32) (x4 : Int32) (H : Heap) (locs : List Loc) (ls : Array Slot), ez_S X B s.heap (n0) σ H locs → k_18 h0 x1 x2 x3 x4 = some z → lv_has ls 5 [(0, .ref (B + h0)), (1, .int x1), (2, .int x2), (3, .int x3), (4, .int x4)] → W p l e R s m args below meth c H locs 0 0 Q (F0 m 18 ls [])) (fun _ _ _ _ _ _ _ _ _ h _ => by cases h) (fun k_18 hk_18 => K_18 k_4 hk_4 k_18 hk_18) ez_N
  have K_4 : ∀ (k_4 : Nat → Int32 → Int32 → Int32 → Option (Int32)) (hk_4 : ∀ (h0 : Nat) (x1 : Int32) (x2 : Int32) (x3 : Int32) (H : Heap) (locs : List Loc) (ls : Array Slot), ez_S X B s.heap (n0) σ H locs → k_4 h0 x1 x2 x3 = some z → lv_has ls 5 [(0, .ref (B + h0)), (1, .int x1), (2, .int x2), (3, .int x3)] → W p l e R s m args below meth c H locs 0 0 Q (F0 m 4 ls [])), ∀ (h0 : Nat) (x1 : Int32) (x2 : Int32) (x3 : Int32) (H : Heap) (locs : List Loc) (ls : Array Slot), ez_S X B s.heap (n0) σ H locs → z_X2_locksFor_4 σ k_4 h0 x1 x2 x3 = some z → lv_has ls 5 [(0, .ref (B + h0)), (1, .int x1), (2, .int x2), (3, .int x3)] → W p l e R s m args below meth c H locs 0 0 Q (F0 m 4 ls []) := by
    intro k_4 hk_4 h0 x1 x2 x3 H locs ls hS h hl
    refine lv_iload_n hx hb dX2_locksFor_4 rfl (lv_at hl 3 rfl) ?_
    refine lv_aload_n hx hb dX2_locksFor_5 rfl (lv_at hl 0 rfl) ?_
    refine eg_RX2_9 hC hS h dX2_locksFor_6 (fun t_6 h => ?_)
    refine eg_RX2_33 hC hS h dX2_locksFor_9 (fun t_9 h => ?_)
    refine lv_icmp_ge (tgt := 80) hx hb dX2_locksFor_12 (by decide) (fun c_12 => ?_) (fun c_12 => ?_)
    · replace h := ez_ifp h c_12
      refine lv_iload_n hx hb dX2_locksFor_80 rfl (lv_at hl 2 rfl) ?_
      exact hret _ _ _ _ _ (Option.some.inj h) rfl hS dX2_locksFor_81
    · replace h := ez_ifn h c_12
      refine lv_iconst (v := 0) hx hb dX2_locksFor_15 (by decide) ?_
      refine lv_istore (lv' := [(4, .int 0), (0, .ref (B + h0)), (1, .int x1), (2, .int x2), (3, .int x3)]) hx hb dX2_locksFor_16 hl (by decide) rfl (fun ls hl => ?_)
      exact E_18 k_4 hk_4 h0 x1 x2 x3 (0 : Int32) _ _ _ hS h (lv_sub hl [1, 2, 3, 4, 0] rfl)
  have E_4 : ∀ (h0 : Nat) (x1 : Int32) (x2 : Int32) (x3 : Int32) (H : Heap) (locs : List Loc) (ls : Array Slot), ez_S X B s.heap (n0) σ H locs → (ez_fix (fun _ _ _ _ => none) (z_X2_locksFor_4 σ) ez_N) h0 x1 x2 x3 = some z → lv_has ls 5 [(0, .ref (B + h0)), (1, .int x1), (2, .int x2), (3, .int x3)] → W p l e R s m args below meth c H locs 0 0 Q (F0 m 4 ls []) := ez_fix_ind (fun k_4 : Nat → Int32 → Int32 → Int32 → Option (Int32) => ∀ (h0 : Nat) (x1 : Int32) (x2 : Int32) (x3 : Int32) (H : Heap) (locs : List Loc) (ls : Array Slot), ez_S X B s.heap (n0) σ H locs → k_4 h0 x1 x2 x3 = some z → lv_has ls 5 [(0, .ref (B + h0)), (1, .int x1), (2, .int x2), (3, .int x3)] → W p l e R s m args below meth c H locs 0 0 Q (F0 m 4 ls [])) (fun _ _ _ _ _ _ _ _ h _ => by cases h) (fun k_4 hk_4 => K_4 k_4 hk_4) ez_N
  refine lv_iconst (v := 0) hx hb dX2_locksFor_0 (by decide) ?_
  refine lv_istore_n (lv' := [(2, .int 0), (0, .ref (B + h0)), (1, .int x1)]) hx hb dX2_locksFor_1 rfl hl (by decide) rfl (fun ls hl => ?_)
  refine lv_iconst (v := 0) hx hb dX2_locksFor_2 (by decide) ?_
  refine lv_istore_n (lv' := [(3, .int 0), (2, .int 0), (0, .ref (B + h0)), (1, .int x1)]) hx hb dX2_locksFor_3 rfl hl (by decide) rfl (fun ls hl => ?_)
  exact E_4  h0 x1 (0 : Int32) (0 : Int32) _ _ _ hS h (lv_sub hl [2, 3, 1, 0] rfl)
set_option maxHeartbeats 4000000 in
set_option maxRecDepth 100000 in
theorem c_X3_look {l : Launch} {X : ez_X} {B : Nat} {σ : ez_H} {h0 : Nat} {x1 : Int32} {z : Int32} (h : z_X3_look σ h0 x1 = some z) : ez_M l X B σ yX3_look cX3_look 2 (some .int) 0 [.ref (B + h0), .int x1] (some (.int z)) σ := by
  refine ez_startip (z := z) (by decide) (Nat.le_of_ble_eq_true rfl) (fun p e R s m args below meth c Q hC hret hS ls hl => ?_)
  have hC : ez_C p R s m args c X B RX3 cX3_look 2 0 := hC
  have hx := hC.1.1
  have hb := hC.1.2.1
  have hown := hC.1.2.2.2.1
  have hts := hC.1.2.2.2.2
  have hl : lv_has ls 2 [(0, .ref (B + h0)), (1, .int x1)] := hl
  obtain ⟨n0, e0⟩ : ∃ n0 : Nat, n0 = σ.length := ⟨_, rfl⟩
  rw [← e0] at hret hS
  have K_17 : ∀ (y0 : Int32) (H : Heap) (locs : List Loc) (ls : Array Slot), ez_S X B s.heap (n0) σ H locs → z_X3_look_17 σ y0 = some z → lv_has ls 2 [] → W p l e R s m args below meth c H locs 0 0 Q (F0 m 17 ls [.int y0]) := by
    intro y0 H locs ls hS h hl
    exact hret _ _ _ _ _ (Option.some.inj h) rfl hS dX3_look_17
  have K_16 : ∀ (H : Heap) (locs : List Loc) (ls : Array Slot), ez_S X B s.heap (n0) σ H locs → z_X3_look_16 σ = some z → lv_has ls 2 [] → W p l e R s m args below meth c H locs 0 0 Q (F0 m 16 ls []) := by
    intro  H locs ls hS h hl
    refine lv_iconst (v := 0) hx hb dX3_look_16 (by decide) ?_
    exact K_17  (0 : Int32) _ _ _ hS h (lv_sub hl [] rfl)
  refine lv_iload_n hx hb dX3_look_0 rfl (lv_at hl 1 rfl) ?_
  refine lv_if_lt (tgt := 16) hx hb dX3_look_1 (by decide) (fun c_1 => ?_) (fun c_1 => ?_)
  · replace h := ez_ifp h c_1
    exact K_16   _ _ _ hS h (lv_sub hl [] rfl)
  · replace h := ez_ifn h c_1
    refine lv_iload_n hx hb dX3_look_4 rfl (lv_at hl 1 rfl) ?_
    refine lv_aload_n hx hb dX3_look_5 rfl (lv_at hl 0 rfl) ?_
    refine ez_lnA hC hS h dX3_look_6 (fun t_6 h => ?_)
    refine lv_icmp_ge (tgt := 16) hx hb dX3_look_7 (by decide) (fun c_7 => ?_) (fun c_7 => ?_)
    · replace h := ez_ifp h c_7
      exact K_16   _ _ _ hS h (lv_sub hl [] rfl)
    · replace h := ez_ifn h c_7
      refine lv_aload_n hx hb dX3_look_10 rfl (lv_at hl 0 rfl) ?_
      refine lv_iload_n hx hb dX3_look_11 rfl (lv_at hl 1 rfl) ?_
      refine ez_ial hC hS h dX3_look_12 (fun t_12 h => ?_)
      refine lv_goto (tgt := 17) hx hb dX3_look_13 (by decide) ?_
      exact K_17  t_12 _ _ _ hS h (lv_sub hl [] rfl)
set_option maxHeartbeats 4000000 in
set_option maxRecDepth 100000 in
theorem c_X3_doorFrom {l : Launch} {X : ez_X} {B : Nat} {σ : ez_H} {h0 : Nat} {x1 : Int32} {z : Int32} (h : z_X3_doorFrom σ h0 x1 = some z) : ez_M l X B σ yX3_doorFrom cX3_doorFrom 2 (some .int) 1 [.ref (B + h0), .int x1] (some (.int z)) σ := by
  refine ez_startip (z := z) (by decide) (Nat.le_of_ble_eq_true rfl) (fun p e R s m args below meth c Q hC hret hS ls hl => ?_)
  have hC : ez_C p R s m args c X B RX3 cX3_doorFrom 2 1 := hC
  have hx := hC.1.1
  have hb := hC.1.2.1
  have hown := hC.1.2.2.2.1
  have hts := hC.1.2.2.2.2
  have hl : lv_has ls 2 [(0, .ref (B + h0)), (1, .int x1)] := hl
  obtain ⟨n0, e0⟩ : ∃ n0 : Nat, n0 = σ.length := ⟨_, rfl⟩
  rw [← e0] at hret hS
  obtain ⟨-, h⟩ := ez_in h
  refine lv_aload_n hx hb dX3_doorFrom_0 rfl (lv_at hl 0 rfl) ?_
  refine eg_RX3_32 hC hS h dX3_doorFrom_1 (fun t_1 h => ?_)
  refine lv_iload_n hx hb dX3_doorFrom_4 rfl (lv_at hl 1 rfl) ?_
  refine ez_cSpi (As := [.ref (B + t_1), .int x1]) (rest := []) h (fun _ q => c_X3_look q) hC k_X3_look ql_RX3_100 rfl (by decide) hS hl.1 rfl (Nat.le_of_ble_eq_true rfl) ⟨Nat.zero_le _, Nat.zero_le _⟩ dX3_doorFrom_5 (fun t_5 H locs hS h => ?_)
  exact hret _ _ _ _ _ (Option.some.inj h) rfl hS dX3_doorFrom_8
set_option maxHeartbeats 4000000 in
set_option maxRecDepth 100000 in
theorem c_X3_doorTo {l : Launch} {X : ez_X} {B : Nat} {σ : ez_H} {h0 : Nat} {x1 : Int32} {z : Int32} (h : z_X3_doorTo σ h0 x1 = some z) : ez_M l X B σ yX3_doorTo cX3_doorTo 2 (some .int) 1 [.ref (B + h0), .int x1] (some (.int z)) σ := by
  refine ez_startip (z := z) (by decide) (Nat.le_of_ble_eq_true rfl) (fun p e R s m args below meth c Q hC hret hS ls hl => ?_)
  have hC : ez_C p R s m args c X B RX3 cX3_doorTo 2 1 := hC
  have hx := hC.1.1
  have hb := hC.1.2.1
  have hown := hC.1.2.2.2.1
  have hts := hC.1.2.2.2.2
  have hl : lv_has ls 2 [(0, .ref (B + h0)), (1, .int x1)] := hl
  obtain ⟨n0, e0⟩ : ∃ n0 : Nat, n0 = σ.length := ⟨_, rfl⟩
  rw [← e0] at hret hS
  obtain ⟨-, h⟩ := ez_in h
  refine lv_aload_n hx hb dX3_doorTo_0 rfl (lv_at hl 0 rfl) ?_
  refine eg_RX3_36 hC hS h dX3_doorTo_1 (fun t_1 h => ?_)
  refine lv_iload_n hx hb dX3_doorTo_4 rfl (lv_at hl 1 rfl) ?_
  refine ez_cSpi (As := [.ref (B + t_1), .int x1]) (rest := []) h (fun _ q => c_X3_look q) hC k_X3_look ql_RX3_100 rfl (by decide) hS hl.1 rfl (Nat.le_of_ble_eq_true rfl) ⟨Nat.zero_le _, Nat.zero_le _⟩ dX3_doorTo_5 (fun t_5 H locs hS h => ?_)
  exact hret _ _ _ _ _ (Option.some.inj h) rfl hS dX3_doorTo_8
set_option maxHeartbeats 4000000 in
set_option maxRecDepth 100000 in
theorem c_X3_doorLock {l : Launch} {X : ez_X} {B : Nat} {σ : ez_H} {h0 : Nat} {x1 : Int32} {z : Int32} (h : z_X3_doorLock σ h0 x1 = some z) : ez_M l X B σ yX3_doorLock cX3_doorLock 2 (some .int) 1 [.ref (B + h0), .int x1] (some (.int z)) σ := by
  refine ez_startip (z := z) (by decide) (Nat.le_of_ble_eq_true rfl) (fun p e R s m args below meth c Q hC hret hS ls hl => ?_)
  have hC : ez_C p R s m args c X B RX3 cX3_doorLock 2 1 := hC
  have hx := hC.1.1
  have hb := hC.1.2.1
  have hown := hC.1.2.2.2.1
  have hts := hC.1.2.2.2.2
  have hl : lv_has ls 2 [(0, .ref (B + h0)), (1, .int x1)] := hl
  obtain ⟨n0, e0⟩ : ∃ n0 : Nat, n0 = σ.length := ⟨_, rfl⟩
  rw [← e0] at hret hS
  obtain ⟨-, h⟩ := ez_in h
  refine lv_aload_n hx hb dX3_doorLock_0 rfl (lv_at hl 0 rfl) ?_
  refine eg_RX3_39 hC hS h dX3_doorLock_1 (fun t_1 h => ?_)
  refine lv_iload_n hx hb dX3_doorLock_4 rfl (lv_at hl 1 rfl) ?_
  refine ez_cSpi (As := [.ref (B + t_1), .int x1]) (rest := []) h (fun _ q => c_X3_look q) hC k_X3_look ql_RX3_100 rfl (by decide) hS hl.1 rfl (Nat.le_of_ble_eq_true rfl) ⟨Nat.zero_le _, Nat.zero_le _⟩ dX3_doorLock_5 (fun t_5 H locs hS h => ?_)
  exact hret _ _ _ _ _ (Option.some.inj h) rfl hS dX3_doorLock_8
set_option maxHeartbeats 4000000 in
set_option maxRecDepth 100000 in
theorem c_X2_flood {l : Launch} {X : ez_X} {B : Nat} {σ : ez_H} {h0 : Nat} {x1 : Int32} {x2 : Int32} {z : Int32} (h : z_X2_flood σ h0 x1 x2 = some z) : ez_M l X B σ yX2_flood cX2_flood 7 (some .int) 2 [.ref (B + h0), .int x1, .int x2] (some (.int z)) σ := by
  refine ez_startip (z := z) (by decide) (Nat.le_of_ble_eq_true rfl) (fun p e R s m args below meth c Q hC hret hS ls hl => ?_)
  have hC : ez_C p R s m args c X B RX2 cX2_flood 7 2 := hC
  have hx := hC.1.1
  have hb := hC.1.2.1
  have hown := hC.1.2.2.2.1
  have hts := hC.1.2.2.2.2
  have hl : lv_has ls 7 [(0, .ref (B + h0)), (1, .int x1), (2, .int x2)] := hl
  obtain ⟨n0, e0⟩ : ∃ n0 : Nat, n0 = σ.length := ⟨_, rfl⟩
  rw [← e0] at hret hS
  obtain ⟨-, h⟩ := ez_in h
  have K_82 : ∀ (k_7 : Nat → Int32 → Int32 → Int32 → Option (Int32)) (hk_7 : ∀ (h0 : Nat) (x2 : Int32) (x3 : Int32) (x4 : Int32) (H : Heap) (locs : List Loc) (ls : Array Slot), ez_S X B s.heap (n0) σ H locs → k_7 h0 x2 x3 x4 = some z → lv_has ls 7 [(0, .ref (B + h0)), (2, .int x2), (3, .int x3), (4, .int x4)] → W p l e R s m args below meth c H locs 0 0 Q (F0 m 7 ls [])) (k_17 : Nat → Int32 → Int32 → Int32 → Int32 → Option (Int32)) (hk_17 : ∀ (h0 : Nat) (x2 : Int32) (x3 : Int32) (x4 : Int32) (x5 : Int32) (H : Heap) (locs : List Loc) (ls : Array Slot), ez_S X B s.heap (n0) σ H locs → k_17 h0 x2 x3 x4 x5 = some z → lv_has ls 7 [(0, .ref (B + h0)), (2, .int x2), (3, .int x3), (4, .int x4), (5, .int x5)] → W p l e R s m args below meth c H locs 0 0 Q (F0 m 17 ls [])), ∀ (h0 : Nat) (x2 : Int32) (x3 : Int32) (x4 : Int32) (x5 : Int32) (H : Heap) (locs : List Loc) (ls : Array Slot), ez_S X B s.heap (n0) σ H locs → z_X2_flood_82 σ k_7 k_17 h0 x2 x3 x4 x5 = some z → lv_has ls 7 [(0, .ref (B + h0)), (2, .int x2), (3, .int x3), (4, .int x4), (5, .int x5)] → W p l e R s m args below meth c H locs 0 0 Q (F0 m 82 ls []) := by
    intro k_7 hk_7 k_17 hk_17 h0 x2 x3 x4 x5 H locs ls hS h hl
    obtain ⟨t_82, e_82, h⟩ := ez_let_sp h
    refine lv_iinc (v := t_82) (lv' := [(5, .int t_82), (0, .ref (B + h0)), (2, .int x2), (3, .int x3), (4, .int x4)]) hx hb dX2_flood_82 hl (k := 4) rfl (by rw [e_82]; rfl) (by decide) rfl (fun ls hl => ?_)
    refine lv_goto (tgt := 17) hx hb dX2_flood_85 (by decide) ?_
    exact hk_17 h0 x2 x3 x4 t_82 _ _ _ hS h (lv_sub hl [1, 2, 3, 4, 0] rfl)
  have K_17 : ∀ (k_7 : Nat → Int32 → Int32 → Int32 → Option (Int32)) (hk_7 : ∀ (h0 : Nat) (x2 : Int32) (x3 : Int32) (x4 : Int32) (H : Heap) (locs : List Loc) (ls : Array Slot), ez_S X B s.heap (n0) σ H locs → k_7 h0 x2 x3 x4 = some z → lv_has ls 7 [(0, .ref (B + h0)), (2, .int x2), (3, .int x3), (4, .int x4)] → W p l e R s m args below meth c H locs 0 0 Q (F0 m 7 ls [])) (k_17 : Nat → Int32 → Int32 → Int32 → Int32 → Option (Int32)) (hk_17 : ∀ (h0 : Nat) (x2 : Int32) (x3 : Int32) (x4 : Int32) (x5 : Int32) (H : Heap) (locs : List Loc) (ls : Array Slot), ez_S X B s.heap (n0) σ H locs → k_17 h0 x2 x3 x4 x5 = some z → lv_has ls 7 [(0, .ref (B + h0)), (2, .int x2), (3, .int x3), (4, .int x4), (5, .int x5)] → W p l e R s m args below meth c H locs 0 0 Q (F0 m 17 ls [])), ∀ (h0 : Nat) (x2 : Int32) (x3 : Int32) (x4 : Int32) (x5 : Int32) (H : Heap) (locs : List Loc) (ls : Array Slot), ez_S X B s.heap (n0) σ H locs → z_X2_flood_17 σ k_7 k_17 h0 x2 x3 x4 x5 = some z → lv_has ls 7 [(0, .ref (B + h0)), (2, .int x2), (3, .int x3), (4, .int x4), (5, .int x5)] → W p l e R s m args below meth c H locs 0 0 Q (F0 m 17 ls []) := by
    intro k_7 hk_7 k_17 hk_17 h0 x2 x3 x4 x5 H locs ls hS h hl
    refine lv_iload hx hb dX2_flood_17 (lv_at hl 4 rfl) ?_
    refine lv_aload_n hx hb dX2_flood_19 rfl (lv_at hl 0 rfl) ?_
    refine eg_RX2_9 hC hS h dX2_flood_20 (fun t_20 h => ?_)
    refine eg_RX2_56 hC hS h dX2_flood_23 (fun t_23 h => ?_)
    refine lv_icmp_ge (tgt := 88) hx hb dX2_flood_26 (by decide) (fun c_26 => ?_) (fun c_26 => ?_)
    · replace h := ez_ifp h c_26
      obtain ⟨t_88, e_88, h⟩ := ez_let_sp h
      refine lv_iinc (v := t_88) (lv' := [(4, .int t_88), (0, .ref (B + h0)), (2, .int x2), (3, .int x3), (5, .int x5)]) hx hb dX2_flood_88 hl (k := 3) rfl (by rw [e_88]; rfl) (by decide) rfl (fun ls hl => ?_)
      refine lv_goto (tgt := 7) hx hb dX2_flood_91 (by decide) ?_
      exact hk_7 h0 x2 x3 t_88 _ _ _ hS h (lv_sub hl [1, 2, 3, 0] rfl)
    · replace h := ez_ifn h c_26
      refine lv_iconst (v := 1) hx hb dX2_flood_29 (by decide) ?_
      refine lv_aload_n hx hb dX2_flood_30 rfl (lv_at hl 0 rfl) ?_
      refine eg_RX2_9 hC hS h dX2_flood_31 (fun t_31 h => ?_)
      refine lv_iload hx hb dX2_flood_34 (lv_at hl 4 rfl) ?_
      refine ez_cVpi (As := [.int x5]) (rest := [.int 1]) h (fun _ q => c_X3_doorFrom q) hC k_X3_doorFrom ql_RX2_59 rfl (by decide) hS (fun _ q => ez_rcv q) rfl hl.1 rfl (Nat.le_of_ble_eq_true rfl) ⟨Nat.zero_le _, Nat.zero_le _⟩ dX2_flood_36 (fun t_36 H locs hS h => ?_)
      refine lv_ishl hx hb dX2_flood_39 ?_
      refine ez_top h (fun t_39 h => ?_)
      refine lv_iconst (v := 1) hx hb dX2_flood_40 (by decide) ?_
      refine lv_aload_n hx hb dX2_flood_41 rfl (lv_at hl 0 rfl) ?_
      refine eg_RX2_9 hC hS h dX2_flood_42 (fun t_42 h => ?_)
      refine lv_iload hx hb dX2_flood_45 (lv_at hl 4 rfl) ?_
      refine ez_cVpi (As := [.int x5]) (rest := [.int 1, .int t_39]) h (fun _ q => c_X3_doorTo q) hC k_X3_doorTo ql_RX2_62 rfl (by decide) hS (fun _ q => ez_rcv q) rfl hl.1 rfl (Nat.le_of_ble_eq_true rfl) ⟨Nat.zero_le _, Nat.zero_le _⟩ dX2_flood_47 (fun t_47 H locs hS h => ?_)
      refine lv_ishl hx hb dX2_flood_50 ?_
      refine ez_top h (fun t_50 h => ?_)
      refine lv_ior hx hb dX2_flood_51 ?_
      refine ez_top h (fun t_51 h => ?_)
      refine lv_istore (lv' := [(6, .int t_51), (0, .ref (B + h0)), (2, .int x2), (3, .int x3), (4, .int x4), (5, .int x5)]) hx hb dX2_flood_52 hl (by decide) rfl (fun ls hl => ?_)
      refine lv_iload_n hx hb dX2_flood_54 rfl (lv_at hl 2 rfl) ?_
      refine lv_aload_n hx hb dX2_flood_55 rfl (lv_at hl 1 rfl) ?_
      refine eg_RX2_9 hC hS h dX2_flood_56 (fun t_56 h => ?_)
      refine lv_iload hx hb dX2_flood_59 (lv_at hl 5 rfl) ?_
      refine ez_cVpi (As := [.int x5]) (rest := [.int x2]) h (fun _ q => c_X3_doorLock q) hC k_X3_doorLock ql_RX2_65 rfl (by decide) hS (fun _ q => ez_rcv q) rfl hl.1 rfl (Nat.le_of_ble_eq_true rfl) ⟨Nat.zero_le _, Nat.zero_le _⟩ dX2_flood_61 (fun t_61 H locs hS h => ?_)
      refine lv_ishr hx hb dX2_flood_64 ?_
      refine ez_top h (fun t_64 h => ?_)
      refine lv_iconst (v := 1) hx hb dX2_flood_65 (by decide) ?_
      refine lv_iand hx hb dX2_flood_66 ?_
      refine ez_top h (fun t_66 h => ?_)
      refine lv_if_eq (tgt := 82) hx hb dX2_flood_67 (by decide) (fun c_67 => ?_) (fun c_67 => ?_)
      · replace h := ez_ifp h c_67
        exact K_82 k_7 hk_7 k_17 hk_17 h0 x2 x3 x4 x5 _ _ _ hS h (lv_sub hl [1, 2, 3, 4, 5] rfl)
      · replace h := ez_ifn h c_67
        refine lv_iload_n hx hb dX2_flood_70 rfl (lv_at hl 3 rfl) ?_
        refine lv_iload hx hb dX2_flood_71 (lv_at hl 0 rfl) ?_
        refine lv_iand hx hb dX2_flood_73 ?_
        refine ez_top h (fun t_73 h => ?_)
        refine lv_if_eq (tgt := 82) hx hb dX2_flood_74 (by decide) (fun c_74 => ?_) (fun c_74 => ?_)
        · replace h := ez_ifp h c_74
          exact K_82 k_7 hk_7 k_17 hk_17 h0 x2 x3 x4 x5 _ _ _ hS h (lv_sub hl [1, 2, 3, 4, 5] rfl)
        · replace h := ez_ifn h c_74
          refine lv_iload_n hx hb dX2_flood_77 rfl (lv_at hl 3 rfl) ?_
          refine lv_iload hx hb dX2_flood_78 (lv_at hl 0 rfl) ?_
          refine lv_ior hx hb dX2_flood_80 ?_
          refine ez_top h (fun t_80 h => ?_)
          refine lv_istore_n (lv' := [(3, .int t_80), (6, .int t_51), (0, .ref (B + h0)), (2, .int x2), (4, .int x4), (5, .int x5)]) hx hb dX2_flood_81 rfl hl (by decide) rfl (fun ls hl => ?_)
          exact K_82 k_7 hk_7 k_17 hk_17 h0 x2 t_80 x4 x5 _ _ _ hS h (lv_sub hl [2, 3, 0, 4, 5] rfl)
  have E_17 : ∀ (k_7 : Nat → Int32 → Int32 → Int32 → Option (Int32)) (hk_7 : ∀ (h0 : Nat) (x2 : Int32) (x3 : Int32) (x4 : Int32) (H : Heap) (locs : List Loc) (ls : Array Slot), ez_S X B s.heap (n0) σ H locs → k_7 h0 x2 x3 x4 = some z → lv_has ls 7 [(0, .ref (B + h0)), (2, .int x2), (3, .int x3), (4, .int x4)] → W p l e R s m args below meth c H locs 0 0 Q (F0 m 7 ls [])), ∀ (h0 : Nat) (x2 : Int32) (x3 : Int32) (x4 : Int32) (x5 : Int32) (H : Heap) (locs : List Loc) (ls : Array Slot), ez_S X B s.heap (n0) σ H locs → (ez_fix (fun _ _ _ _ _ => none) (z_X2_flood_17 σ k_7) ez_N) h0 x2 x3 x4 x5 = some z → lv_has ls 7 [(0, .ref (B + h0)), (2, .int x2), (3, .int x3), (4, .int x4), (5, .int x5)] → W p l e R s m args below meth c H locs 0 0 Q (F0 m 17 ls []) := fun k_7 hk_7 => ez_fix_ind (fun k_17 : Nat → Int32 → Int32 → Int32 → Int32 → Option (Int32) => ∀ (h0 : Nat) (x2 : Int32) (x3 : Int32) (x4 : Int32) (x5 : Int32) (H : Heap) (locs : List Loc) (ls : Array Slot), ez_S X B s.heap (n0) σ H locs → k_17 h0 x2 x3 x4 x5 = some z → lv_has ls 7 [(0, .ref (B + h0)), (2, .int x2), (3, .int x3), (4, .int x4), (5, .int x5)] → W p l e R s m args below meth c H locs 0 0 Q (F0 m 17 ls [])) (fun _ _ _ _ _ _ _ _ _ h _ => by cases h) (fun k_17 hk_17 => K_17 k_7 hk_7 k_17 hk_17) ez_N
  have K_7 : ∀ (k_7 : Nat → Int32 → Int32 → Int32 → Option (Int32)) (hk_7 : ∀ (h0 : Nat) (x2 : Int32) (x3 : Int32) (x4 : Int32) (H : Heap) (locs : List Loc) (ls : Array Slot), ez_S X B s.heap (n0) σ H locs → k_7 h0 x2 x3 x4 = some z → lv_has ls 7 [(0, .ref (B + h0)), (2, .int x2), (3, .int x3), (4, .int x4)] → W p l e R s m args below meth c H locs 0 0 Q (F0 m 7 ls [])), ∀ (h0 : Nat) (x2 : Int32) (x3 : Int32) (x4 : Int32) (H : Heap) (locs : List Loc) (ls : Array Slot), ez_S X B s.heap (n0) σ H locs → z_X2_flood_7 σ k_7 h0 x2 x3 x4 = some z → lv_has ls 7 [(0, .ref (B + h0)), (2, .int x2), (3, .int x3), (4, .int x4)] → W p l e R s m args below meth c H locs 0 0 Q (F0 m 7 ls []) := by
    intro k_7 hk_7 h0 x2 x3 x4 H locs ls hS h hl
    refine lv_iload hx hb dX2_flood_7 (lv_at hl 3 rfl) ?_
    refine lv_bipush (v := 6) hx hb dX2_flood_9 (by decide) ?_
    refine lv_icmp_ge (tgt := 94) hx hb dX2_flood_11 (by decide) (fun c_11 => ?_) (fun c_11 => ?_)
    · replace h := ez_ifp h c_11
      refine lv_iload_n hx hb dX2_flood_94 rfl (lv_at hl 2 rfl) ?_
      exact hret _ _ _ _ _ (Option.some.inj h) rfl hS dX2_flood_95
    · replace h := ez_ifn h c_11
      refine lv_iconst (v := 0) hx hb dX2_flood_14 (by decide) ?_
      refine lv_istore (lv' := [(5, .int 0), (0, .ref (B + h0)), (2, .int x2), (3, .int x3), (4, .int x4)]) hx hb dX2_flood_15 hl (by decide) rfl (fun ls hl => ?_)
      exact E_17 k_7 hk_7 h0 x2 x3 x4 (0 : Int32) _ _ _ hS h (lv_sub hl [1, 2, 3, 4, 0] rfl)
  have E_7 : ∀ (h0 : Nat) (x2 : Int32) (x3 : Int32) (x4 : Int32) (H : Heap) (locs : List Loc) (ls : Array Slot), ez_S X B s.heap (n0) σ H locs → (ez_fix (fun _ _ _ _ => none) (z_X2_flood_7 σ) ez_N) h0 x2 x3 x4 = some z → lv_has ls 7 [(0, .ref (B + h0)), (2, .int x2), (3, .int x3), (4, .int x4)] → W p l e R s m args below meth c H locs 0 0 Q (F0 m 7 ls []) := ez_fix_ind (fun k_7 : Nat → Int32 → Int32 → Int32 → Option (Int32) => ∀ (h0 : Nat) (x2 : Int32) (x3 : Int32) (x4 : Int32) (H : Heap) (locs : List Loc) (ls : Array Slot), ez_S X B s.heap (n0) σ H locs → k_7 h0 x2 x3 x4 = some z → lv_has ls 7 [(0, .ref (B + h0)), (2, .int x2), (3, .int x3), (4, .int x4)] → W p l e R s m args below meth c H locs 0 0 Q (F0 m 7 ls [])) (fun _ _ _ _ _ _ _ _ h _ => by cases h) (fun k_7 hk_7 => K_7 k_7 hk_7) ez_N
  refine lv_iconst (v := 1) hx hb dX2_flood_0 (by decide) ?_
  refine lv_iload_n hx hb dX2_flood_1 rfl (lv_at hl 1 rfl) ?_
  refine lv_ishl hx hb dX2_flood_2 ?_
  refine ez_top h (fun t_2 h => ?_)
  refine lv_istore_n (lv' := [(3, .int t_2), (0, .ref (B + h0)), (1, .int x1), (2, .int x2)]) hx hb dX2_flood_3 rfl hl (by decide) rfl (fun ls hl => ?_)
  refine lv_iconst (v := 0) hx hb dX2_flood_4 (by decide) ?_
  refine lv_istore (lv' := [(4, .int 0), (3, .int t_2), (0, .ref (B + h0)), (1, .int x1), (2, .int x2)]) hx hb dX2_flood_5 hl (by decide) rfl (fun ls hl => ?_)
  exact E_7  h0 x2 t_2 (0 : Int32) _ _ _ hS h (lv_sub hl [2, 4, 1, 0] rfl)
set_option maxHeartbeats 4000000 in
set_option maxRecDepth 100000 in
theorem c_X2_reachWith {l : Launch} {X : ez_X} {B : Nat} {σ : ez_H} {h0 : Nat} {x1 : Int32} {x2 : Int32} {z : Int32} (h : z_X2_reachWith σ h0 x1 x2 = some z) : ez_M l X B σ yX2_reachWith cX2_reachWith 3 (some .int) 3 [.ref (B + h0), .int x1, .int x2] (some (.int z)) σ := by
  refine ez_startip (z := z) (by decide) (Nat.le_of_ble_eq_true rfl) (fun p e R s m args below meth c Q hC hret hS ls hl => ?_)
  have hC : ez_C p R s m args c X B RX2 cX2_reachWith 3 3 := hC
  have hx := hC.1.1
  have hb := hC.1.2.1
  have hown := hC.1.2.2.2.1
  have hts := hC.1.2.2.2.2
  have hl : lv_has ls 3 [(0, .ref (B + h0)), (1, .int x1), (2, .int x2)] := hl
  obtain ⟨n0, e0⟩ : ∃ n0 : Nat, n0 = σ.length := ⟨_, rfl⟩
  rw [← e0] at hret hS
  obtain ⟨-, h⟩ := ez_in h
  refine lv_aload_n hx hb dX2_reachWith_0 rfl (lv_at hl 0 rfl) ?_
  refine lv_aload_n hx hb dX2_reachWith_1 rfl (lv_at hl 0 rfl) ?_
  refine eg_RX2_15 hC hS h dX2_reachWith_2 (fun t_2 h => ?_)
  refine lv_iload_n hx hb dX2_reachWith_5 rfl (lv_at hl 1 rfl) ?_
  refine ez_cVpi (As := [.int x1]) (rest := [.ref (B + h0)]) h (fun _ q => c_X7_room q) hC k_X7_room ql_RX2_68 rfl (by decide) hS (fun _ q => ez_rcv q) rfl hl.1 rfl (Nat.le_of_ble_eq_true rfl) ⟨Nat.zero_le _, Nat.zero_le _⟩ dX2_reachWith_6 (fun t_6 H locs hS h => ?_)
  refine lv_aload_n hx hb dX2_reachWith_9 rfl (lv_at hl 0 rfl) ?_
  refine lv_iload_n hx hb dX2_reachWith_10 rfl (lv_at hl 2 rfl) ?_
  refine ez_cVpi (As := [.int x2]) (rest := [.int t_6, .ref (B + h0)]) h (fun _ q => c_X2_locksFor q) hC k_X2_locksFor ql_RX2_71 rfl (by decide) hS (fun _ q => ez_rcv q) rfl hl.1 rfl (Nat.le_of_ble_eq_true rfl) ⟨Nat.zero_le _, Nat.zero_le _⟩ dX2_reachWith_11 (fun t_11 H locs hS h => ?_)
  refine ez_cVpi (As := [.int t_6, .int t_11]) (rest := []) h (fun _ q => c_X2_flood q) hC k_X2_flood ql_RX2_74 rfl (by decide) hS (fun _ q => ez_rcv q) rfl hl.1 rfl (Nat.le_of_ble_eq_true rfl) ⟨Nat.zero_le _, Nat.zero_le _⟩ dX2_reachWith_14 (fun t_14 H locs hS h => ?_)
  exact hret _ _ _ _ _ (Option.some.inj h) rfl hS dX2_reachWith_17
set_option maxHeartbeats 4000000 in
set_option maxRecDepth 100000 in
theorem c_X2_reachOf {l : Launch} {X : ez_X} {B : Nat} {σ : ez_H} {h0 : Nat} {x1 : Int32} {z : Int32} (h : z_X2_reachOf σ h0 x1 = some z) : ez_M l X B σ yX2_reachOf cX2_reachOf 2 (some .int) 4 [.ref (B + h0), .int x1] (some (.int z)) σ := by
  refine ez_startip (z := z) (by decide) (Nat.le_of_ble_eq_true rfl) (fun p e R s m args below meth c Q hC hret hS ls hl => ?_)
  have hC : ez_C p R s m args c X B RX2 cX2_reachOf 2 4 := hC
  have hx := hC.1.1
  have hb := hC.1.2.1
  have hown := hC.1.2.2.2.1
  have hts := hC.1.2.2.2.2
  have hl : lv_has ls 2 [(0, .ref (B + h0)), (1, .int x1)] := hl
  obtain ⟨n0, e0⟩ : ∃ n0 : Nat, n0 = σ.length := ⟨_, rfl⟩
  rw [← e0] at hret hS
  obtain ⟨-, h⟩ := ez_in h
  refine lv_aload_n hx hb dX2_reachOf_0 rfl (lv_at hl 0 rfl) ?_
  refine lv_iload_n hx hb dX2_reachOf_1 rfl (lv_at hl 1 rfl) ?_
  refine lv_aload_n hx hb dX2_reachOf_2 rfl (lv_at hl 0 rfl) ?_
  refine eg_RX2_15 hC hS h dX2_reachOf_3 (fun t_3 h => ?_)
  refine lv_iload_n hx hb dX2_reachOf_6 rfl (lv_at hl 1 rfl) ?_
  refine lv_aload_n hx hb dX2_reachOf_7 rfl (lv_at hl 0 rfl) ?_
  refine eg_RX2_9 hC hS h dX2_reachOf_8 (fun t_8 h => ?_)
  refine eg_RX2_33 hC hS h dX2_reachOf_11 (fun t_11 h => ?_)
  refine ez_cVpi (As := [.int x1, .int t_11]) (rest := [.int x1, .ref (B + h0)]) h (fun _ q => c_X7_heldBy q) hC k_X7_heldBy ql_RX2_78 rfl (by decide) hS (fun _ q => ez_rcv q) rfl hl.1 rfl (Nat.le_of_ble_eq_true rfl) ⟨Nat.zero_le _, Nat.zero_le _⟩ dX2_reachOf_14 (fun t_14 H locs hS h => ?_)
  refine ez_cVpi (As := [.int x1, .int t_14]) (rest := []) h (fun _ q => c_X2_reachWith q) hC k_X2_reachWith ql_RX2_81 rfl (by decide) hS (fun _ q => ez_rcv q) rfl hl.1 rfl (Nat.le_of_ble_eq_true rfl) ⟨Nat.zero_le _, Nat.zero_le _⟩ dX2_reachOf_17 (fun t_17 H locs hS h => ?_)
  exact hret _ _ _ _ _ (Option.some.inj h) rfl hS dX2_reachOf_20
set_option maxHeartbeats 4000000 in
set_option maxRecDepth 100000 in
theorem c_X11_barred {l : Launch} {X : ez_X} {B : Nat} {σ : ez_H} {h0 : Nat} {z : Int32} (h : z_X11_barred σ h0 = some z) : ez_M l X B σ yX11_barred cX11_barred 3 (some .int) 5 [.ref (B + h0)] (some (.int z)) σ := by
  refine ez_startip (z := z) (by decide) (Nat.le_of_ble_eq_true rfl) (fun p e R s m args below meth c Q hC hret hS ls hl => ?_)
  have hC : ez_C p R s m args c X B RX11 cX11_barred 3 5 := hC
  have hx := hC.1.1
  have hb := hC.1.2.1
  have hown := hC.1.2.2.2.1
  have hts := hC.1.2.2.2.2
  have hl : lv_has ls 3 [(0, .ref (B + h0))] := hl
  obtain ⟨n0, e0⟩ : ∃ n0 : Nat, n0 = σ.length := ⟨_, rfl⟩
  rw [← e0] at hret hS
  obtain ⟨-, h⟩ := ez_in h
  have K_10 : ∀ (k_10 : Nat → Int32 → Int32 → Option (Int32)) (hk_10 : ∀ (h0 : Nat) (x1 : Int32) (x2 : Int32) (H : Heap) (locs : List Loc) (ls : Array Slot), ez_S X B s.heap (n0) σ H locs → k_10 h0 x1 x2 = some z → lv_has ls 3 [(0, .ref (B + h0)), (1, .int x1), (2, .int x2)] → W p l e R s m args below meth c H locs 0 0 Q (F0 m 10 ls [])), ∀ (h0 : Nat) (x1 : Int32) (x2 : Int32) (H : Heap) (locs : List Loc) (ls : Array Slot), ez_S X B s.heap (n0) σ H locs → z_X11_barred_10 σ k_10 h0 x1 x2 = some z → lv_has ls 3 [(0, .ref (B + h0)), (1, .int x1), (2, .int x2)] → W p l e R s m args below meth c H locs 0 0 Q (F0 m 10 ls []) := by
    intro k_10 hk_10 h0 x1 x2 H locs ls hS h hl
    refine lv_iload_n hx hb dX11_barred_10 rfl (lv_at hl 2 rfl) ?_
    refine lv_aload_n hx hb dX11_barred_11 rfl (lv_at hl 0 rfl) ?_
    refine eg_RX11_29 hC hS h dX11_barred_12 (fun t_12 h => ?_)
    refine eg_RX11_368 hC hS h dX11_barred_15 (fun t_15 h => ?_)
    refine lv_icmp_ge (tgt := 40) hx hb dX11_barred_18 (by decide) (fun c_18 => ?_) (fun c_18 => ?_)
    · replace h := ez_ifp h c_18
      refine lv_iload_n hx hb dX11_barred_40 rfl (lv_at hl 1 rfl) ?_
      exact hret _ _ _ _ _ (Option.some.inj h) rfl hS dX11_barred_41
    · replace h := ez_ifn h c_18
      refine lv_iload_n hx hb dX11_barred_21 rfl (lv_at hl 1 rfl) ?_
      refine lv_aload_n hx hb dX11_barred_22 rfl (lv_at hl 0 rfl) ?_
      refine eg_RX11_79 hC hS h dX11_barred_23 (fun t_23 h => ?_)
      refine lv_iload_n hx hb dX11_barred_26 rfl (lv_at hl 2 rfl) ?_
      refine ez_cVpi (As := [.int x2]) (rest := [.int x1]) h (fun _ q => c_X2_reachOf q) hC k_X2_reachOf ql_RX11_209 rfl (by decide) hS (fun _ q => ez_rcv q) rfl hl.1 rfl (Nat.le_of_ble_eq_true rfl) ⟨Nat.zero_le _, Nat.zero_le _⟩ dX11_barred_27 (fun t_27 H locs hS h => ?_)
      refine lv_iconst (v := -1) hx hb dX11_barred_30 (by decide) ?_
      refine lv_ixor hx hb dX11_barred_31 ?_
      refine ez_top h (fun t_31 h => ?_)
      refine lv_iand hx hb dX11_barred_32 ?_
      refine ez_top h (fun t_32 h => ?_)
      refine lv_istore_n (lv' := [(1, .int t_32), (0, .ref (B + h0)), (2, .int x2)]) hx hb dX11_barred_33 rfl hl (by decide) rfl (fun ls hl => ?_)
      obtain ⟨t_34, e_34, h⟩ := ez_let_sp h
      refine lv_iinc (v := t_34) (lv' := [(2, .int t_34), (1, .int t_32), (0, .ref (B + h0))]) hx hb dX11_barred_34 hl (k := 2) rfl (by rw [e_34]; rfl) (by decide) rfl (fun ls hl => ?_)
      refine lv_goto (tgt := 10) hx hb dX11_barred_37 (by decide) ?_
      exact hk_10 h0 t_32 t_34 _ _ _ hS h (lv_sub hl [2, 1, 0] rfl)
  have E_10 : ∀ (h0 : Nat) (x1 : Int32) (x2 : Int32) (H : Heap) (locs : List Loc) (ls : Array Slot), ez_S X B s.heap (n0) σ H locs → (ez_fix (fun _ _ _ => none) (z_X11_barred_10 σ) ez_N) h0 x1 x2 = some z → lv_has ls 3 [(0, .ref (B + h0)), (1, .int x1), (2, .int x2)] → W p l e R s m args below meth c H locs 0 0 Q (F0 m 10 ls []) := ez_fix_ind (fun k_10 : Nat → Int32 → Int32 → Option (Int32) => ∀ (h0 : Nat) (x1 : Int32) (x2 : Int32) (H : Heap) (locs : List Loc) (ls : Array Slot), ez_S X B s.heap (n0) σ H locs → k_10 h0 x1 x2 = some z → lv_has ls 3 [(0, .ref (B + h0)), (1, .int x1), (2, .int x2)] → W p l e R s m args below meth c H locs 0 0 Q (F0 m 10 ls [])) (fun _ _ _ _ _ _ _ h _ => by cases h) (fun k_10 hk_10 => K_10 k_10 hk_10) ez_N
  refine lv_aload_n hx hb dX11_barred_0 rfl (lv_at hl 0 rfl) ?_
  refine eg_RX11_29 hC hS h dX11_barred_1 (fun t_1 h => ?_)
  refine ez_cVpi (As := []) (rest := []) h (fun _ q => c_X3_allRooms q) hC k_X3_allRooms ql_RX11_389 rfl (by decide) hS (fun _ q => ez_rcv q) rfl hl.1 rfl (Nat.le_of_ble_eq_true rfl) ⟨Nat.zero_le _, Nat.zero_le _⟩ dX11_barred_4 (fun t_4 H locs hS h => ?_)
  refine lv_istore_n (lv' := [(1, .int t_4), (0, .ref (B + h0))]) hx hb dX11_barred_7 rfl hl (by decide) rfl (fun ls hl => ?_)
  refine lv_iconst (v := 0) hx hb dX11_barred_8 (by decide) ?_
  refine lv_istore_n (lv' := [(2, .int 0), (1, .int t_4), (0, .ref (B + h0))]) hx hb dX11_barred_9 rfl hl (by decide) rfl (fun ls hl => ?_)
  exact E_10  h0 t_4 (0 : Int32) _ _ _ hS h (lv_sub hl [2, 1, 0] rfl)
set_option maxHeartbeats 4000000 in
set_option maxRecDepth 100000 in
theorem c_X11_best {l : Launch} {X : ez_X} {B : Nat} {σ : ez_H} {h0 : Nat} {z : Int32} (h : z_X11_best σ h0 = some z) : ez_M l X B σ yX11_best cX11_best 5 (some .int) 3 [.ref (B + h0)] (some (.int z)) σ := by
  refine ez_startip (z := z) (by decide) (Nat.le_of_ble_eq_true rfl) (fun p e R s m args below meth c Q hC hret hS ls hl => ?_)
  have hC : ez_C p R s m args c X B RX11 cX11_best 5 3 := hC
  have hx := hC.1.1
  have hb := hC.1.2.1
  have hown := hC.1.2.2.2.1
  have hts := hC.1.2.2.2.2
  have hl : lv_has ls 5 [(0, .ref (B + h0))] := hl
  obtain ⟨n0, e0⟩ : ∃ n0 : Nat, n0 = σ.length := ⟨_, rfl⟩
  rw [← e0] at hret hS
  obtain ⟨-, h⟩ := ez_in h
  have K_48 : ∀ (k_6 : Nat → Int32 → Int32 → Int32 → Option (Int32)) (hk_6 : ∀ (h0 : Nat) (x1 : Int32) (x2 : Int32) (x3 : Int32) (H : Heap) (locs : List Loc) (ls : Array Slot), ez_S X B s.heap (n0) σ H locs → k_6 h0 x1 x2 x3 = some z → lv_has ls 5 [(0, .ref (B + h0)), (1, .int x1), (2, .int x2), (3, .int x3)] → W p l e R s m args below meth c H locs 0 0 Q (F0 m 6 ls [])), ∀ (h0 : Nat) (x1 : Int32) (x2 : Int32) (x3 : Int32) (H : Heap) (locs : List Loc) (ls : Array Slot), ez_S X B s.heap (n0) σ H locs → z_X11_best_48 σ k_6 h0 x1 x2 x3 = some z → lv_has ls 5 [(0, .ref (B + h0)), (1, .int x1), (2, .int x2), (3, .int x3)] → W p l e R s m args below meth c H locs 0 0 Q (F0 m 48 ls []) := by
    intro k_6 hk_6 h0 x1 x2 x3 H locs ls hS h hl
    obtain ⟨t_48, e_48, h⟩ := ez_let_sp h
    refine lv_iinc (v := t_48) (lv' := [(3, .int t_48), (0, .ref (B + h0)), (1, .int x1), (2, .int x2)]) hx hb dX11_best_48 hl (k := 3) rfl (by rw [e_48]; rfl) (by decide) rfl (fun ls hl => ?_)
    refine lv_goto (tgt := 6) hx hb dX11_best_51 (by decide) ?_
    exact hk_6 h0 x1 x2 t_48 _ _ _ hS h (lv_sub hl [1, 2, 3, 0] rfl)
  have K_43 : ∀ (k_6 : Nat → Int32 → Int32 → Int32 → Option (Int32)) (hk_6 : ∀ (h0 : Nat) (x1 : Int32) (x2 : Int32) (x3 : Int32) (H : Heap) (locs : List Loc) (ls : Array Slot), ez_S X B s.heap (n0) σ H locs → k_6 h0 x1 x2 x3 = some z → lv_has ls 5 [(0, .ref (B + h0)), (1, .int x1), (2, .int x2), (3, .int x3)] → W p l e R s m args below meth c H locs 0 0 Q (F0 m 6 ls [])), ∀ (h0 : Nat) (x3 : Int32) (x4 : Int32) (H : Heap) (locs : List Loc) (ls : Array Slot), ez_S X B s.heap (n0) σ H locs → z_X11_best_43 σ k_6 h0 x3 x4 = some z → lv_has ls 5 [(0, .ref (B + h0)), (3, .int x3), (4, .int x4)] → W p l e R s m args below meth c H locs 0 0 Q (F0 m 43 ls []) := by
    intro k_6 hk_6 h0 x3 x4 H locs ls hS h hl
    refine lv_iload_n hx hb dX11_best_43 rfl (lv_at hl 1 rfl) ?_
    refine lv_istore_n (lv' := [(1, .int x3), (0, .ref (B + h0)), (3, .int x3), (4, .int x4)]) hx hb dX11_best_44 rfl hl (by decide) rfl (fun ls hl => ?_)
    refine lv_iload hx hb dX11_best_45 (lv_at hl 3 rfl) ?_
    refine lv_istore_n (lv' := [(2, .int x4), (1, .int x3), (0, .ref (B + h0)), (3, .int x3), (4, .int x4)]) hx hb dX11_best_47 rfl hl (by decide) rfl (fun ls hl => ?_)
    exact K_48 k_6 hk_6 h0 x3 x4 x3 _ _ _ hS h (lv_sub hl [2, 1, 0, 3] rfl)
  have K_6 : ∀ (k_6 : Nat → Int32 → Int32 → Int32 → Option (Int32)) (hk_6 : ∀ (h0 : Nat) (x1 : Int32) (x2 : Int32) (x3 : Int32) (H : Heap) (locs : List Loc) (ls : Array Slot), ez_S X B s.heap (n0) σ H locs → k_6 h0 x1 x2 x3 = some z → lv_has ls 5 [(0, .ref (B + h0)), (1, .int x1), (2, .int x2), (3, .int x3)] → W p l e R s m args below meth c H locs 0 0 Q (F0 m 6 ls [])), ∀ (h0 : Nat) (x1 : Int32) (x2 : Int32) (x3 : Int32) (H : Heap) (locs : List Loc) (ls : Array Slot), ez_S X B s.heap (n0) σ H locs → z_X11_best_6 σ k_6 h0 x1 x2 x3 = some z → lv_has ls 5 [(0, .ref (B + h0)), (1, .int x1), (2, .int x2), (3, .int x3)] → W p l e R s m args below meth c H locs 0 0 Q (F0 m 6 ls []) := by
    intro k_6 hk_6 h0 x1 x2 x3 H locs ls hS h hl
    refine lv_iload_n hx hb dX11_best_6 rfl (lv_at hl 3 rfl) ?_
    refine lv_aload_n hx hb dX11_best_7 rfl (lv_at hl 0 rfl) ?_
    refine eg_RX11_29 hC hS h dX11_best_8 (fun t_8 h => ?_)
    refine eg_RX11_128 hC hS h dX11_best_11 (fun t_11 h => ?_)
    refine lv_icmp_ge (tgt := 54) hx hb dX11_best_14 (by decide) (fun c_14 => ?_) (fun c_14 => ?_)
    · replace h := ez_ifp h c_14
      refine lv_iload_n hx hb dX11_best_54 rfl (lv_at hl 1 rfl) ?_
      exact hret _ _ _ _ _ (Option.some.inj h) rfl hS dX11_best_55
    · replace h := ez_ifn h c_14
      refine lv_aload_n hx hb dX11_best_17 rfl (lv_at hl 0 rfl) ?_
      refine eg_RX11_79 hC hS h dX11_best_18 (fun t_18 h => ?_)
      refine lv_iconst (v := 1) hx hb dX11_best_21 (by decide) ?_
      refine lv_iload_n hx hb dX11_best_22 rfl (lv_at hl 3 rfl) ?_
      refine lv_ishl hx hb dX11_best_23 ?_
      refine ez_top h (fun t_23 h => ?_)
      refine ez_cVpi (As := [.int t_23]) (rest := []) h (fun _ q => c_X2_locksFor q) hC k_X2_locksFor ql_RX11_155 rfl (by decide) hS (fun _ q => ez_rcv q) rfl hl.1 rfl (Nat.le_of_ble_eq_true rfl) ⟨Nat.zero_le _, Nat.zero_le _⟩ dX11_best_24 (fun t_24 H locs hS h => ?_)
      refine ez_cSpi (As := [.int t_24]) (rest := []) h (fun _ q => c_J6_bitCount_0f7a4 q) hC k_J6_bitCount_0f7a4 ql_RX11_171 rfl (by decide) hS hl.1 rfl (Nat.le_of_ble_eq_true rfl) ⟨Nat.zero_le _, Nat.zero_le _⟩ dX11_best_27 (fun t_27 H locs hS h => ?_)
      refine lv_istore (lv' := [(4, .int t_27), (0, .ref (B + h0)), (1, .int x1), (2, .int x2), (3, .int x3)]) hx hb dX11_best_30 hl (by decide) rfl (fun ls hl => ?_)
      refine lv_iload_n hx hb dX11_best_32 rfl (lv_at hl 2 rfl) ?_
      refine lv_iconst (v := -1) hx hb dX11_best_33 (by decide) ?_
      refine lv_icmp_eq (tgt := 43) hx hb dX11_best_34 (by decide) (fun c_34 => ?_) (fun c_34 => ?_)
      · replace h := ez_ifp h c_34
        exact K_43 k_6 hk_6 h0 x3 t_27 _ _ _ hS h (lv_sub hl [1, 4, 0] rfl)
      · replace h := ez_ifn h c_34
        refine lv_iload hx hb dX11_best_37 (lv_at hl 0 rfl) ?_
        refine lv_iload_n hx hb dX11_best_39 rfl (lv_at hl 3 rfl) ?_
        refine lv_icmp_le (tgt := 48) hx hb dX11_best_40 (by decide) (fun c_40 => ?_) (fun c_40 => ?_)
        · replace h := ez_ifp h c_40
          exact K_48 k_6 hk_6 h0 x1 x2 x3 _ _ _ hS h (lv_sub hl [1, 2, 3, 4] rfl)
        · replace h := ez_ifn h c_40
          exact K_43 k_6 hk_6 h0 x3 t_27 _ _ _ hS h (lv_sub hl [1, 4, 0] rfl)
  have E_6 : ∀ (h0 : Nat) (x1 : Int32) (x2 : Int32) (x3 : Int32) (H : Heap) (locs : List Loc) (ls : Array Slot), ez_S X B s.heap (n0) σ H locs → (ez_fix (fun _ _ _ _ => none) (z_X11_best_6 σ) ez_N) h0 x1 x2 x3 = some z → lv_has ls 5 [(0, .ref (B + h0)), (1, .int x1), (2, .int x2), (3, .int x3)] → W p l e R s m args below meth c H locs 0 0 Q (F0 m 6 ls []) := ez_fix_ind (fun k_6 : Nat → Int32 → Int32 → Int32 → Option (Int32) => ∀ (h0 : Nat) (x1 : Int32) (x2 : Int32) (x3 : Int32) (H : Heap) (locs : List Loc) (ls : Array Slot), ez_S X B s.heap (n0) σ H locs → k_6 h0 x1 x2 x3 = some z → lv_has ls 5 [(0, .ref (B + h0)), (1, .int x1), (2, .int x2), (3, .int x3)] → W p l e R s m args below meth c H locs 0 0 Q (F0 m 6 ls [])) (fun _ _ _ _ _ _ _ _ h _ => by cases h) (fun k_6 hk_6 => K_6 k_6 hk_6) ez_N
  refine lv_iconst (v := -1) hx hb dX11_best_0 (by decide) ?_
  refine lv_istore_n (lv' := [(1, .int (-1)), (0, .ref (B + h0))]) hx hb dX11_best_1 rfl hl (by decide) rfl (fun ls hl => ?_)
  refine lv_iconst (v := 0) hx hb dX11_best_2 (by decide) ?_
  refine lv_istore_n (lv' := [(2, .int 0), (1, .int (-1)), (0, .ref (B + h0))]) hx hb dX11_best_3 rfl hl (by decide) rfl (fun ls hl => ?_)
  refine lv_iconst (v := 0) hx hb dX11_best_4 (by decide) ?_
  refine lv_istore_n (lv' := [(3, .int 0), (2, .int 0), (1, .int (-1)), (0, .ref (B + h0))]) hx hb dX11_best_5 rfl hl (by decide) rfl (fun ls hl => ?_)
  exact E_6  h0 (-1 : Int32) (0 : Int32) (0 : Int32) _ _ _ hS h (lv_sub hl [3, 2, 1, 0] rfl)
set_option maxHeartbeats 4000000 in
set_option maxRecDepth 100000 in
theorem c_X6_depthsAt {l : Launch} {X : ez_X} {B : Nat} {σ : ez_H} {x0 : Int32} {x1 : Int32} {z : Int32} (h : z_X6_depthsAt σ x0 x1 = some z) : ez_M l X B σ yX6_depthsAt cX6_depthsAt 2 (some .int) 0 [.int x0, .int x1] (some (.int z)) σ := by
  refine ez_startip (z := z) (by decide) (Nat.le_of_ble_eq_true rfl) (fun p e R s m args below meth c Q hC hret hS ls hl => ?_)
  have hC : ez_C p R s m args c X B RX6 cX6_depthsAt 2 0 := hC
  have hx := hC.1.1
  have hb := hC.1.2.1
  have hown := hC.1.2.2.2.1
  have hts := hC.1.2.2.2.2
  have hl : lv_has ls 2 [(0, .int x0), (1, .int x1)] := hl
  obtain ⟨n0, e0⟩ : ∃ n0 : Nat, n0 = σ.length := ⟨_, rfl⟩
  rw [← e0] at hret hS
  refine lv_iload_n hx hb dX6_depthsAt_0 rfl (lv_at hl 0 rfl) ?_
  refine lv_iload_n hx hb dX6_depthsAt_1 rfl (lv_at hl 1 rfl) ?_
  refine lv_bipush (v := 6) hx hb dX6_depthsAt_2 (by decide) ?_
  refine lv_imul hx hb dX6_depthsAt_4 ?_
  refine ez_top h (fun t_4 h => ?_)
  refine lv_ishr hx hb dX6_depthsAt_5 ?_
  refine ez_top h (fun t_5 h => ?_)
  refine lv_bipush (v := 63) hx hb dX6_depthsAt_6 (by decide) ?_
  refine lv_iand hx hb dX6_depthsAt_8 ?_
  refine ez_top h (fun t_8 h => ?_)
  exact hret _ _ _ _ _ (Option.some.inj h) rfl hS dX6_depthsAt_9
