set_option maxRecDepth 100000 in
noncomputable def z_X11_together_23 (σ : ez_H) (y0 : Int32) : Option (Int32 × ez_H) :=
  some (y0, σ)
set_option maxRecDepth 100000 in
noncomputable def z_X11_together (σ : ez_H) (h0 : Nat) (x1 : Int32) : Option (Int32 × ez_H) :=
  ez_bd (ez_ob σ 11 h0) fun _ =>
  ez_bd (ez_gr σ 11 h0 3) fun t_1 =>
  ez_bd (z_X3_hasPerson σ t_1 x1) fun t_5 =>
  if t_5 = (0 : Int32) then (
  z_X11_together_23  σ (-1 : Int32)
  ) else (
  ez_bd (ez_gr σ 11 h0 12) fun t_12 =>
  ez_b2 (z_X2_sharedReach σ t_12 x1) fun t_16 σ =>
  z_X11_together_23  σ t_16
  )
set_option maxHeartbeats 4000000 in
set_option maxRecDepth 100000 in
theorem c_X11_together {l : Launch} {X : ez_X} {B : Nat} {σ : ez_H} {h0 : Nat} {x1 : Int32} {z : Int32 × ez_H} (h : z_X11_together σ h0 x1 = some z) : ez_M l X B σ yX11_together cX11_together 2 (some .int) 6 [.ref (B + h0), .int x1] (some (.int z.1)) z.2 := by
  refine ez_starti (z := z) (by decide) (Nat.le_of_ble_eq_true rfl) (fun p e R s m args below meth c Q hC hret hS ls hl => ?_)
  have hC : ez_C p R s m args c X B RX11 cX11_together 2 6 := hC
  have hx := hC.1.1
  have hb := hC.1.2.1
  have hown := hC.1.2.2.2.1
  have hts := hC.1.2.2.2.2
  have hl : lv_has ls 2 [(0, .ref (B + h0)), (1, .int x1)] := hl
  obtain ⟨σ0, eσ⟩ : ∃ σ0 : ez_H, σ0 = σ := ⟨_, rfl⟩
  rw [← eσ] at hret
  have hS : ez_S X B s.heap σ0.length σ s.heap [] := eσ ▸ hS
  obtain ⟨-, h⟩ := ez_in h
  have K_23 : ∀ (σ : ez_H) (y0 : Int32) (H : Heap) (locs : List Loc) (ls : Array Slot), ez_S X B s.heap (σ0.length) σ H locs → z_X11_together_23 σ y0 = some z → lv_has ls 2 [] → W p l e R s m args below meth c H locs 0 0 Q (F0 m 23 ls [.int y0]) := by
    intro σ y0 H locs ls hS h hl
    exact hret _ _ _ _ _ _ (Option.some.inj h) rfl hS dX11_together_23
  refine lv_aload_n hx hb dX11_together_0 rfl (lv_at hl 0 rfl) ?_
  refine eg_RX11_29 hC hS h dX11_together_1 (fun t_1 h => ?_)
  refine lv_iload_n hx hb dX11_together_4 rfl (lv_at hl 1 rfl) ?_
  refine ez_cVpi (As := [.int x1]) (rest := []) h (fun _ q => c_X3_hasPerson q) hC k_X3_hasPerson ql_RX11_200 rfl (by decide) hS (fun _ q => ez_rcv q) rfl hl.1 rfl (Nat.le_of_ble_eq_true rfl) ⟨Nat.zero_le _, Nat.zero_le _⟩ dX11_together_5 (fun t_5 H locs hS h => ?_)
  refine lv_if_eq (tgt := 22) hx hb dX11_together_8 (by decide) (fun c_8 => ?_) (fun c_8 => ?_)
  · replace h := ez_ifp h c_8
    refine lv_iconst (v := -1) hx hb dX11_together_22 (by decide) ?_
    exact K_23  σ (-1 : Int32) _ _ _ hS h (lv_sub hl [] rfl)
  · replace h := ez_ifn h c_8
    refine lv_aload_n hx hb dX11_together_11 rfl (lv_at hl 0 rfl) ?_
    refine eg_RX11_79 hC hS h dX11_together_12 (fun t_12 h => ?_)
    refine lv_iload_n hx hb dX11_together_15 rfl (lv_at hl 1 rfl) ?_
    refine ez_cVi (As := [.int x1]) (rest := []) h (fun _ q => c_X2_sharedReach q) hC k_X2_sharedReach ql_RX11_365 rfl (by decide) hS (fun _ q => ez_rcv q) rfl hl.1 rfl (Nat.le_of_ble_eq_true rfl) ⟨Nat.zero_le _, Nat.zero_le _⟩ dX11_together_16 (fun t_16 σ H locs hS h => ?_)
    refine lv_goto (tgt := 23) hx hb dX11_together_19 (by decide) ?_
    exact K_23  σ t_16 _ _ _ hS h (lv_sub hl [] rfl)
set_option maxRecDepth 100000 in
noncomputable def z_X2_exchange_172 (σ : ez_H) (k_59 : Nat → Int32 → Int32 → Int32 → Int32 → Int32 → Int32 → Int32 → Option (Int32)) (k_74 : Nat → Int32 → Int32 → Int32 → Int32 → Int32 → Int32 → Int32 → Int32 → Option (Int32)) (h0 : Nat) (x1 : Int32) (x2 : Int32) (x3 : Int32) (x4 : Int32) (x5 : Int32) (x6 : Int32) (x7 : Int32) (x8 : Int32) : Option (Int32) :=
  ez_let (x8 + 1) fun t_172 =>
  k_74 h0 x1 x2 x3 x4 x5 x6 x7 t_172
set_option maxRecDepth 100000 in
noncomputable def z_X2_exchange_121 (σ : ez_H) (k_59 : Nat → Int32 → Int32 → Int32 → Int32 → Int32 → Int32 → Int32 → Option (Int32)) (k_74 : Nat → Int32 → Int32 → Int32 → Int32 → Int32 → Int32 → Int32 → Int32 → Option (Int32)) (h0 : Nat) (x1 : Int32) (x2 : Int32) (x3 : Int32) (x4 : Int32) (x5 : Int32) (x6 : Int32) (x7 : Int32) (x8 : Int32) (x9 : Int32) (y0 : Int32) : Option (Int32) :=
  if y0 = (0 : Int32) then (
  z_X2_exchange_172 σ k_59 k_74 h0 x1 x2 x3 x4 x5 x6 x7 x8
  ) else (
  ez_let (x3 ^^^ x9) fun t_133 =>
  ez_bd (z_X2_reachWith σ h0 x1 t_133) fun t_134 =>
  ez_bd (z_J6_bitCount_0f7a4 σ t_134) fun t_137 =>
  if t_137 ≤ x5 then (
  z_X2_exchange_172 σ k_59 k_74 h0 x1 x2 x3 x4 x5 x6 x7 x8
  ) else (
  ez_let (x4 ^^^ x9) fun t_151 =>
  ez_bd (z_X2_reachWith σ h0 x2 t_151) fun t_152 =>
  ez_bd (z_J6_bitCount_0f7a4 σ t_152) fun t_155 =>
  if t_155 ≤ x6 then (
  z_X2_exchange_172 σ k_59 k_74 h0 x1 x2 x3 x4 x5 x6 x7 x8
  ) else (
  ez_let (x7 * (8 : Int32)) fun t_167 =>
  ez_let (t_167 + x8) fun t_170 =>
  some t_170
  )
  )
  )
set_option maxRecDepth 100000 in
noncomputable def z_X2_exchange_120 (σ : ez_H) (k_59 : Nat → Int32 → Int32 → Int32 → Int32 → Int32 → Int32 → Int32 → Option (Int32)) (k_74 : Nat → Int32 → Int32 → Int32 → Int32 → Int32 → Int32 → Int32 → Int32 → Option (Int32)) (h0 : Nat) (x1 : Int32) (x2 : Int32) (x3 : Int32) (x4 : Int32) (x5 : Int32) (x6 : Int32) (x7 : Int32) (x8 : Int32) (x9 : Int32) : Option (Int32) :=
  z_X2_exchange_121 σ k_59 k_74 h0 x1 x2 x3 x4 x5 x6 x7 x8 x9 (0 : Int32)
set_option maxRecDepth 100000 in
noncomputable def z_X2_exchange_74 (σ : ez_H) (k_59 : Nat → Int32 → Int32 → Int32 → Int32 → Int32 → Int32 → Int32 → Option (Int32)) (k_74 : Nat → Int32 → Int32 → Int32 → Int32 → Int32 → Int32 → Int32 → Int32 → Option (Int32)) (h0 : Nat) (x1 : Int32) (x2 : Int32) (x3 : Int32) (x4 : Int32) (x5 : Int32) (x6 : Int32) (x7 : Int32) (x8 : Int32) : Option (Int32) :=
  ez_bd (ez_gr σ 2 h0 0) fun t_77 =>
  ez_bd (ez_gi σ 3 t_77 3) fun t_80 =>
  if t_80 ≤ x8 then (
  ez_let (x7 + 1) fun t_178 =>
  k_59 h0 x1 x2 x3 x4 x5 x6 t_178
  ) else (
  ez_let ((1 : Int32) <<< (x7 &&& 31)) fun t_89 =>
  ez_let ((1 : Int32) <<< (x8 &&& 31)) fun t_93 =>
  ez_let (t_89 ||| t_93) fun t_94 =>
  ez_let (x3 >>> (x7 &&& 31)) fun t_100 =>
  ez_let (t_100 &&& (1 : Int32)) fun t_102 =>
  if t_102 = (0 : Int32) then (
  z_X2_exchange_120 σ k_59 k_74 h0 x1 x2 x3 x4 x5 x6 x7 x8 t_94
  ) else (
  ez_let (x4 >>> (x8 &&& 31)) fun t_110 =>
  ez_let (t_110 &&& (1 : Int32)) fun t_112 =>
  if t_112 = (0 : Int32) then (
  z_X2_exchange_120 σ k_59 k_74 h0 x1 x2 x3 x4 x5 x6 x7 x8 t_94
  ) else (
  z_X2_exchange_121 σ k_59 k_74 h0 x1 x2 x3 x4 x5 x6 x7 x8 t_94 (1 : Int32)
  )
  )
  )
set_option maxRecDepth 100000 in
noncomputable def z_X2_exchange_59 (σ : ez_H) (k_59 : Nat → Int32 → Int32 → Int32 → Int32 → Int32 → Int32 → Int32 → Option (Int32)) (h0 : Nat) (x1 : Int32) (x2 : Int32) (x3 : Int32) (x4 : Int32) (x5 : Int32) (x6 : Int32) (x7 : Int32) : Option (Int32) :=
  ez_bd (ez_gr σ 2 h0 0) fun t_62 =>
  ez_bd (ez_gi σ 3 t_62 3) fun t_65 =>
  if t_65 ≤ x7 then (
  some (-1 : Int32)
  ) else (
  ez_fix (fun _ _ _ _ _ _ _ _ _ => none) (z_X2_exchange_74 σ k_59) ez_N h0 x1 x2 x3 x4 x5 x6 x7 (0 : Int32)
  )
set_option maxRecDepth 100000 in
noncomputable def z_X2_exchange (σ : ez_H) (h0 : Nat) (x1 : Int32) (x2 : Int32) : Option (Int32) :=
  ez_bd (ez_ob σ 2 h0) fun _ =>
  ez_bd (ez_gr σ 2 h0 1) fun t_1 =>
  ez_bd (ez_gr σ 2 h0 0) fun t_6 =>
  ez_bd (ez_gi σ 3 t_6 3) fun t_9 =>
  ez_bd (z_X7_heldBy σ t_1 x1 t_9) fun t_12 =>
  ez_bd (ez_gr σ 2 h0 1) fun t_17 =>
  ez_bd (ez_gr σ 2 h0 0) fun t_22 =>
  ez_bd (ez_gi σ 3 t_22 3) fun t_25 =>
  ez_bd (z_X7_heldBy σ t_17 x2 t_25) fun t_28 =>
  ez_bd (z_X2_reachWith σ h0 x1 t_12) fun t_36 =>
  ez_bd (z_J6_bitCount_0f7a4 σ t_36) fun t_39 =>
  ez_bd (z_X2_reachWith σ h0 x2 t_28) fun t_48 =>
  ez_bd (z_J6_bitCount_0f7a4 σ t_48) fun t_51 =>
  ez_fix (fun _ _ _ _ _ _ _ _ => none) (z_X2_exchange_59 σ) ez_N h0 x1 x2 t_12 t_28 t_39 t_51 (0 : Int32)
set_option maxHeartbeats 4000000 in
set_option maxRecDepth 100000 in
theorem c_X2_exchange {l : Launch} {X : ez_X} {B : Nat} {σ : ez_H} {h0 : Nat} {x1 : Int32} {x2 : Int32} {z : Int32} (h : z_X2_exchange σ h0 x1 x2 = some z) : ez_M l X B σ yX2_exchange cX2_exchange 11 (some .int) 4 [.ref (B + h0), .int x1, .int x2] (some (.int z)) σ := by
  refine ez_startip (z := z) (by decide) (Nat.le_of_ble_eq_true rfl) (fun p e R s m args below meth c Q hC hret hS ls hl => ?_)
  have hC : ez_C p R s m args c X B RX2 cX2_exchange 11 4 := hC
  have hx := hC.1.1
  have hb := hC.1.2.1
  have hown := hC.1.2.2.2.1
  have hts := hC.1.2.2.2.2
  have hl : lv_has ls 11 [(0, .ref (B + h0)), (1, .int x1), (2, .int x2)] := hl
  obtain ⟨n0, e0⟩ : ∃ n0 : Nat, n0 = σ.length := ⟨_, rfl⟩
  rw [← e0] at hret hS
  obtain ⟨-, h⟩ := ez_in h
  have K_172 : ∀ (k_59 : Nat → Int32 → Int32 → Int32 → Int32 → Int32 → Int32 → Int32 → Option (Int32)) (hk_59 : ∀ (h0 : Nat) (x1 : Int32) (x2 : Int32) (x3 : Int32) (x4 : Int32) (x5 : Int32) (x6 : Int32) (x7 : Int32) (H : Heap) (locs : List Loc) (ls : Array Slot), ez_S X B s.heap (n0) σ H locs → k_59 h0 x1 x2 x3 x4 x5 x6 x7 = some z → lv_has ls 11 [(0, .ref (B + h0)), (1, .int x1), (2, .int x2), (3, .int x3), (4, .int x4), (5, .int x5), (6, .int x6), (7, .int x7)] → W p l e R s m args below meth c H locs 0 0 Q (F0 m 59 ls [])) (k_74 : Nat → Int32 → Int32 → Int32 → Int32 → Int32 → Int32 → Int32 → Int32 → Option (Int32)) (hk_74 : ∀ (h0 : Nat) (x1 : Int32) (x2 : Int32) (x3 : Int32) (x4 : Int32) (x5 : Int32) (x6 : Int32) (x7 : Int32) (x8 : Int32) (H : Heap) (locs : List Loc) (ls : Array Slot), ez_S X B s.heap (n0) σ H locs → k_74 h0 x1 x2 x3 x4 x5 x6 x7 x8 = some z → lv_has ls 11 [(0, .ref (B + h0)), (1, .int x1), (2, .int x2), (3, .int x3), (4, .int x4), (5, .int x5), (6, .int x6), (7, .int x7), (8, .int x8)] → W p l e R s m args below meth c H locs 0 0 Q (F0 m 74 ls [])), ∀ (h0 : Nat) (x1 : Int32) (x2 : Int32) (x3 : Int32) (x4 : Int32) (x5 : Int32) (x6 : Int32) (x7 : Int32) (x8 : Int32) (H : Heap) (locs : List Loc) (ls : Array Slot), ez_S X B s.heap (n0) σ H locs → z_X2_exchange_172 σ k_59 k_74 h0 x1 x2 x3 x4 x5 x6 x7 x8 = some z → lv_has ls 11 [(0, .ref (B + h0)), (1, .int x1), (2, .int x2), (3, .int x3), (4, .int x4), (5, .int x5), (6, .int x6), (7, .int x7), (8, .int x8)] → W p l e R s m args below meth c H locs 0 0 Q (F0 m 172 ls []) := by
    intro k_59 hk_59 k_74 hk_74 h0 x1 x2 x3 x4 x5 x6 x7 x8 H locs ls hS h hl
    obtain ⟨t_172, e_172, h⟩ := ez_let_sp h
    refine lv_iinc (v := t_172) (lv' := [(8, .int t_172), (0, .ref (B + h0)), (1, .int x1), (2, .int x2), (3, .int x3), (4, .int x4), (5, .int x5), (6, .int x6), (7, .int x7)]) hx hb dX2_exchange_172 hl (k := 8) rfl (by rw [e_172]; rfl) (by decide) rfl (fun ls hl => ?_)
    refine lv_goto (tgt := 74) hx hb dX2_exchange_175 (by decide) ?_
    exact hk_74 h0 x1 x2 x3 x4 x5 x6 x7 t_172 _ _ _ hS h (lv_sub hl [1, 2, 3, 4, 5, 6, 7, 8, 0] rfl)
  have K_121 : ∀ (k_59 : Nat → Int32 → Int32 → Int32 → Int32 → Int32 → Int32 → Int32 → Option (Int32)) (hk_59 : ∀ (h0 : Nat) (x1 : Int32) (x2 : Int32) (x3 : Int32) (x4 : Int32) (x5 : Int32) (x6 : Int32) (x7 : Int32) (H : Heap) (locs : List Loc) (ls : Array Slot), ez_S X B s.heap (n0) σ H locs → k_59 h0 x1 x2 x3 x4 x5 x6 x7 = some z → lv_has ls 11 [(0, .ref (B + h0)), (1, .int x1), (2, .int x2), (3, .int x3), (4, .int x4), (5, .int x5), (6, .int x6), (7, .int x7)] → W p l e R s m args below meth c H locs 0 0 Q (F0 m 59 ls [])) (k_74 : Nat → Int32 → Int32 → Int32 → Int32 → Int32 → Int32 → Int32 → Int32 → Option (Int32)) (hk_74 : ∀ (h0 : Nat) (x1 : Int32) (x2 : Int32) (x3 : Int32) (x4 : Int32) (x5 : Int32) (x6 : Int32) (x7 : Int32) (x8 : Int32) (H : Heap) (locs : List Loc) (ls : Array Slot), ez_S X B s.heap (n0) σ H locs → k_74 h0 x1 x2 x3 x4 x5 x6 x7 x8 = some z → lv_has ls 11 [(0, .ref (B + h0)), (1, .int x1), (2, .int x2), (3, .int x3), (4, .int x4), (5, .int x5), (6, .int x6), (7, .int x7), (8, .int x8)] → W p l e R s m args below meth c H locs 0 0 Q (F0 m 74 ls [])), ∀ (h0 : Nat) (x1 : Int32) (x2 : Int32) (x3 : Int32) (x4 : Int32) (x5 : Int32) (x6 : Int32) (x7 : Int32) (x8 : Int32) (x9 : Int32) (y0 : Int32) (H : Heap) (locs : List Loc) (ls : Array Slot), ez_S X B s.heap (n0) σ H locs → z_X2_exchange_121 σ k_59 k_74 h0 x1 x2 x3 x4 x5 x6 x7 x8 x9 y0 = some z → lv_has ls 11 [(0, .ref (B + h0)), (1, .int x1), (2, .int x2), (3, .int x3), (4, .int x4), (5, .int x5), (6, .int x6), (7, .int x7), (8, .int x8), (9, .int x9)] → W p l e R s m args below meth c H locs 0 0 Q (F0 m 121 ls [.int y0]) := by
    intro k_59 hk_59 k_74 hk_74 h0 x1 x2 x3 x4 x5 x6 x7 x8 x9 y0 H locs ls hS h hl
    refine lv_istore (lv' := [(10, .int y0), (0, .ref (B + h0)), (1, .int x1), (2, .int x2), (3, .int x3), (4, .int x4), (5, .int x5), (6, .int x6), (7, .int x7), (8, .int x8), (9, .int x9)]) hx hb dX2_exchange_121 hl (by decide) rfl (fun ls hl => ?_)
    refine lv_iload hx hb dX2_exchange_123 (lv_at hl 0 rfl) ?_
    refine lv_if_eq (tgt := 172) hx hb dX2_exchange_125 (by decide) (fun c_125 => ?_) (fun c_125 => ?_)
    · replace h := ez_ifp h c_125
      exact K_172 k_59 hk_59 k_74 hk_74 h0 x1 x2 x3 x4 x5 x6 x7 x8 _ _ _ hS h (lv_sub hl [1, 2, 3, 4, 5, 6, 7, 8, 9] rfl)
    · replace h := ez_ifn h c_125
      refine lv_aload_n hx hb dX2_exchange_128 rfl (lv_at hl 1 rfl) ?_
      refine lv_iload_n hx hb dX2_exchange_129 rfl (lv_at hl 2 rfl) ?_
      refine lv_iload_n hx hb dX2_exchange_130 rfl (lv_at hl 4 rfl) ?_
      refine lv_iload hx hb dX2_exchange_131 (lv_at hl 10 rfl) ?_
      refine lv_ixor hx hb dX2_exchange_133 ?_
      refine ez_top h (fun t_133 h => ?_)
      refine ez_cVpi (As := [.int x1, .int t_133]) (rest := []) h (fun _ q => c_X2_reachWith q) hC k_X2_reachWith ql_RX2_81 rfl (by decide) hS (fun _ q => ez_rcv q) rfl hl.1 rfl (Nat.le_of_ble_eq_true rfl) ⟨Nat.zero_le _, Nat.zero_le _⟩ dX2_exchange_134 (fun t_134 H locs hS h => ?_)
      refine ez_cSpi (As := [.int t_134]) (rest := []) h (fun _ q => c_J6_bitCount_0f7a4 q) hC k_J6_bitCount_0f7a4 ql_RX2_115 rfl (by decide) hS hl.1 rfl (Nat.le_of_ble_eq_true rfl) ⟨Nat.zero_le _, Nat.zero_le _⟩ dX2_exchange_137 (fun t_137 H locs hS h => ?_)
      refine lv_iload hx hb dX2_exchange_140 (lv_at hl 6 rfl) ?_
      refine lv_icmp_le (tgt := 172) hx hb dX2_exchange_142 (by decide) (fun c_142 => ?_) (fun c_142 => ?_)
      · replace h := ez_ifp h c_142
        exact K_172 k_59 hk_59 k_74 hk_74 h0 x1 x2 x3 x4 x5 x6 x7 x8 _ _ _ hS h (lv_sub hl [1, 2, 3, 4, 5, 6, 7, 8, 9] rfl)
      · replace h := ez_ifn h c_142
        refine lv_aload_n hx hb dX2_exchange_145 rfl (lv_at hl 1 rfl) ?_
        refine lv_iload_n hx hb dX2_exchange_146 rfl (lv_at hl 3 rfl) ?_
        refine lv_iload hx hb dX2_exchange_147 (lv_at hl 5 rfl) ?_
        refine lv_iload hx hb dX2_exchange_149 (lv_at hl 10 rfl) ?_
        refine lv_ixor hx hb dX2_exchange_151 ?_
        refine ez_top h (fun t_151 h => ?_)
        refine ez_cVpi (As := [.int x2, .int t_151]) (rest := []) h (fun _ q => c_X2_reachWith q) hC k_X2_reachWith ql_RX2_81 rfl (by decide) hS (fun _ q => ez_rcv q) rfl hl.1 rfl (Nat.le_of_ble_eq_true rfl) ⟨Nat.zero_le _, Nat.zero_le _⟩ dX2_exchange_152 (fun t_152 H locs hS h => ?_)
        refine ez_cSpi (As := [.int t_152]) (rest := []) h (fun _ q => c_J6_bitCount_0f7a4 q) hC k_J6_bitCount_0f7a4 ql_RX2_115 rfl (by decide) hS hl.1 rfl (Nat.le_of_ble_eq_true rfl) ⟨Nat.zero_le _, Nat.zero_le _⟩ dX2_exchange_155 (fun t_155 H locs hS h => ?_)
        refine lv_iload hx hb dX2_exchange_158 (lv_at hl 7 rfl) ?_
        refine lv_icmp_le (tgt := 172) hx hb dX2_exchange_160 (by decide) (fun c_160 => ?_) (fun c_160 => ?_)
        · replace h := ez_ifp h c_160
          exact K_172 k_59 hk_59 k_74 hk_74 h0 x1 x2 x3 x4 x5 x6 x7 x8 _ _ _ hS h (lv_sub hl [1, 2, 3, 4, 5, 6, 7, 8, 9] rfl)
        · replace h := ez_ifn h c_160
          refine lv_iload hx hb dX2_exchange_163 (lv_at hl 8 rfl) ?_
          refine lv_bipush (v := 8) hx hb dX2_exchange_165 (by decide) ?_
          refine lv_imul hx hb dX2_exchange_167 ?_
          refine ez_top h (fun t_167 h => ?_)
          refine lv_iload hx hb dX2_exchange_168 (lv_at hl 9 rfl) ?_
          refine lv_iadd hx hb dX2_exchange_170 ?_
          refine ez_top h (fun t_170 h => ?_)
          exact hret _ _ _ _ _ (Option.some.inj h) rfl hS dX2_exchange_171
  have K_120 : ∀ (k_59 : Nat → Int32 → Int32 → Int32 → Int32 → Int32 → Int32 → Int32 → Option (Int32)) (hk_59 : ∀ (h0 : Nat) (x1 : Int32) (x2 : Int32) (x3 : Int32) (x4 : Int32) (x5 : Int32) (x6 : Int32) (x7 : Int32) (H : Heap) (locs : List Loc) (ls : Array Slot), ez_S X B s.heap (n0) σ H locs → k_59 h0 x1 x2 x3 x4 x5 x6 x7 = some z → lv_has ls 11 [(0, .ref (B + h0)), (1, .int x1), (2, .int x2), (3, .int x3), (4, .int x4), (5, .int x5), (6, .int x6), (7, .int x7)] → W p l e R s m args below meth c H locs 0 0 Q (F0 m 59 ls [])) (k_74 : Nat → Int32 → Int32 → Int32 → Int32 → Int32 → Int32 → Int32 → Int32 → Option (Int32)) (hk_74 : ∀ (h0 : Nat) (x1 : Int32) (x2 : Int32) (x3 : Int32) (x4 : Int32) (x5 : Int32) (x6 : Int32) (x7 : Int32) (x8 : Int32) (H : Heap) (locs : List Loc) (ls : Array Slot), ez_S X B s.heap (n0) σ H locs → k_74 h0 x1 x2 x3 x4 x5 x6 x7 x8 = some z → lv_has ls 11 [(0, .ref (B + h0)), (1, .int x1), (2, .int x2), (3, .int x3), (4, .int x4), (5, .int x5), (6, .int x6), (7, .int x7), (8, .int x8)] → W p l e R s m args below meth c H locs 0 0 Q (F0 m 74 ls [])), ∀ (h0 : Nat) (x1 : Int32) (x2 : Int32) (x3 : Int32) (x4 : Int32) (x5 : Int32) (x6 : Int32) (x7 : Int32) (x8 : Int32) (x9 : Int32) (H : Heap) (locs : List Loc) (ls : Array Slot), ez_S X B s.heap (n0) σ H locs → z_X2_exchange_120 σ k_59 k_74 h0 x1 x2 x3 x4 x5 x6 x7 x8 x9 = some z → lv_has ls 11 [(0, .ref (B + h0)), (1, .int x1), (2, .int x2), (3, .int x3), (4, .int x4), (5, .int x5), (6, .int x6), (7, .int x7), (8, .int x8), (9, .int x9)] → W p l e R s m args below meth c H locs 0 0 Q (F0 m 120 ls []) := by
    intro k_59 hk_59 k_74 hk_74 h0 x1 x2 x3 x4 x5 x6 x7 x8 x9 H locs ls hS h hl
    refine lv_iconst (v := 0) hx hb dX2_exchange_120 (by decide) ?_
    exact K_121 k_59 hk_59 k_74 hk_74 h0 x1 x2 x3 x4 x5 x6 x7 x8 x9 (0 : Int32) _ _ _ hS h (lv_sub hl [0, 1, 2, 3, 4, 5, 6, 7, 8, 9] rfl)
  have K_74 : ∀ (k_59 : Nat → Int32 → Int32 → Int32 → Int32 → Int32 → Int32 → Int32 → Option (Int32)) (hk_59 : ∀ (h0 : Nat) (x1 : Int32) (x2 : Int32) (x3 : Int32) (x4 : Int32) (x5 : Int32) (x6 : Int32) (x7 : Int32) (H : Heap) (locs : List Loc) (ls : Array Slot), ez_S X B s.heap (n0) σ H locs → k_59 h0 x1 x2 x3 x4 x5 x6 x7 = some z → lv_has ls 11 [(0, .ref (B + h0)), (1, .int x1), (2, .int x2), (3, .int x3), (4, .int x4), (5, .int x5), (6, .int x6), (7, .int x7)] → W p l e R s m args below meth c H locs 0 0 Q (F0 m 59 ls [])) (k_74 : Nat → Int32 → Int32 → Int32 → Int32 → Int32 → Int32 → Int32 → Int32 → Option (Int32)) (hk_74 : ∀ (h0 : Nat) (x1 : Int32) (x2 : Int32) (x3 : Int32) (x4 : Int32) (x5 : Int32) (x6 : Int32) (x7 : Int32) (x8 : Int32) (H : Heap) (locs : List Loc) (ls : Array Slot), ez_S X B s.heap (n0) σ H locs → k_74 h0 x1 x2 x3 x4 x5 x6 x7 x8 = some z → lv_has ls 11 [(0, .ref (B + h0)), (1, .int x1), (2, .int x2), (3, .int x3), (4, .int x4), (5, .int x5), (6, .int x6), (7, .int x7), (8, .int x8)] → W p l e R s m args below meth c H locs 0 0 Q (F0 m 74 ls [])), ∀ (h0 : Nat) (x1 : Int32) (x2 : Int32) (x3 : Int32) (x4 : Int32) (x5 : Int32) (x6 : Int32) (x7 : Int32) (x8 : Int32) (H : Heap) (locs : List Loc) (ls : Array Slot), ez_S X B s.heap (n0) σ H locs → z_X2_exchange_74 σ k_59 k_74 h0 x1 x2 x3 x4 x5 x6 x7 x8 = some z → lv_has ls 11 [(0, .ref (B + h0)), (1, .int x1), (2, .int x2), (3, .int x3), (4, .int x4), (5, .int x5), (6, .int x6), (7, .int x7), (8, .int x8)] → W p l e R s m args below meth c H locs 0 0 Q (F0 m 74 ls []) := by
    intro k_59 hk_59 k_74 hk_74 h0 x1 x2 x3 x4 x5 x6 x7 x8 H locs ls hS h hl
    refine lv_iload hx hb dX2_exchange_74 (lv_at hl 8 rfl) ?_
    refine lv_aload_n hx hb dX2_exchange_76 rfl (lv_at hl 0 rfl) ?_
    refine eg_RX2_9 hC hS h dX2_exchange_77 (fun t_77 h => ?_)
    refine eg_RX2_33 hC hS h dX2_exchange_80 (fun t_80 h => ?_)
    refine lv_icmp_ge (tgt := 178) hx hb dX2_exchange_83 (by decide) (fun c_83 => ?_) (fun c_83 => ?_)
    · replace h := ez_ifp h c_83
      obtain ⟨t_178, e_178, h⟩ := ez_let_sp h
      refine lv_iinc (v := t_178) (lv' := [(7, .int t_178), (0, .ref (B + h0)), (1, .int x1), (2, .int x2), (3, .int x3), (4, .int x4), (5, .int x5), (6, .int x6), (8, .int x8)]) hx hb dX2_exchange_178 hl (k := 7) rfl (by rw [e_178]; rfl) (by decide) rfl (fun ls hl => ?_)
      refine lv_goto (tgt := 59) hx hb dX2_exchange_181 (by decide) ?_
      exact hk_59 h0 x1 x2 x3 x4 x5 x6 t_178 _ _ _ hS h (lv_sub hl [1, 2, 3, 4, 5, 6, 7, 0] rfl)
    · replace h := ez_ifn h c_83
      refine lv_iconst (v := 1) hx hb dX2_exchange_86 (by decide) ?_
      refine lv_iload hx hb dX2_exchange_87 (lv_at hl 7 rfl) ?_
      refine lv_ishl hx hb dX2_exchange_89 ?_
      refine ez_top h (fun t_89 h => ?_)
      refine lv_iconst (v := 1) hx hb dX2_exchange_90 (by decide) ?_
      refine lv_iload hx hb dX2_exchange_91 (lv_at hl 8 rfl) ?_
      refine lv_ishl hx hb dX2_exchange_93 ?_
      refine ez_top h (fun t_93 h => ?_)
      refine lv_ior hx hb dX2_exchange_94 ?_
      refine ez_top h (fun t_94 h => ?_)
      refine lv_istore (lv' := [(9, .int t_94), (0, .ref (B + h0)), (1, .int x1), (2, .int x2), (3, .int x3), (4, .int x4), (5, .int x5), (6, .int x6), (7, .int x7), (8, .int x8)]) hx hb dX2_exchange_95 hl (by decide) rfl (fun ls hl => ?_)
      refine lv_iload_n hx hb dX2_exchange_97 rfl (lv_at hl 4 rfl) ?_
      refine lv_iload hx hb dX2_exchange_98 (lv_at hl 8 rfl) ?_
      refine lv_ishr hx hb dX2_exchange_100 ?_
      refine ez_top h (fun t_100 h => ?_)
      refine lv_iconst (v := 1) hx hb dX2_exchange_101 (by decide) ?_
      refine lv_iand hx hb dX2_exchange_102 ?_
      refine ez_top h (fun t_102 h => ?_)
      refine lv_if_eq (tgt := 120) hx hb dX2_exchange_103 (by decide) (fun c_103 => ?_) (fun c_103 => ?_)
      · replace h := ez_ifp h c_103
        exact K_120 k_59 hk_59 k_74 hk_74 h0 x1 x2 x3 x4 x5 x6 x7 x8 t_94 _ _ _ hS h (lv_sub hl [1, 2, 3, 4, 5, 6, 7, 8, 9, 0] rfl)
      · replace h := ez_ifn h c_103
        refine lv_iload hx hb dX2_exchange_106 (lv_at hl 5 rfl) ?_
        refine lv_iload hx hb dX2_exchange_108 (lv_at hl 9 rfl) ?_
        refine lv_ishr hx hb dX2_exchange_110 ?_
        refine ez_top h (fun t_110 h => ?_)
        refine lv_iconst (v := 1) hx hb dX2_exchange_111 (by decide) ?_
        refine lv_iand hx hb dX2_exchange_112 ?_
        refine ez_top h (fun t_112 h => ?_)
        refine lv_if_eq (tgt := 120) hx hb dX2_exchange_113 (by decide) (fun c_113 => ?_) (fun c_113 => ?_)
        · replace h := ez_ifp h c_113
          exact K_120 k_59 hk_59 k_74 hk_74 h0 x1 x2 x3 x4 x5 x6 x7 x8 t_94 _ _ _ hS h (lv_sub hl [1, 2, 3, 4, 5, 6, 7, 8, 9, 0] rfl)
        · replace h := ez_ifn h c_113
          refine lv_iconst (v := 1) hx hb dX2_exchange_116 (by decide) ?_
          refine lv_goto (tgt := 121) hx hb dX2_exchange_117 (by decide) ?_
          exact K_121 k_59 hk_59 k_74 hk_74 h0 x1 x2 x3 x4 x5 x6 x7 x8 t_94 (1 : Int32) _ _ _ hS h (lv_sub hl [1, 2, 3, 4, 5, 6, 7, 8, 9, 0] rfl)
  have E_74 : ∀ (k_59 : Nat → Int32 → Int32 → Int32 → Int32 → Int32 → Int32 → Int32 → Option (Int32)) (hk_59 : ∀ (h0 : Nat) (x1 : Int32) (x2 : Int32) (x3 : Int32) (x4 : Int32) (x5 : Int32) (x6 : Int32) (x7 : Int32) (H : Heap) (locs : List Loc) (ls : Array Slot), ez_S X B s.heap (n0) σ H locs → k_59 h0 x1 x2 x3 x4 x5 x6 x7 = some z → lv_has ls 11 [(0, .ref (B + h0)), (1, .int x1), (2, .int x2), (3, .int x3), (4, .int x4), (5, .int x5), (6, .int x6), (7, .int x7)] → W p l e R s m args below meth c H locs 0 0 Q (F0 m 59 ls [])), ∀ (h0 : Nat) (x1 : Int32) (x2 : Int32) (x3 : Int32) (x4 : Int32) (x5 : Int32) (x6 : Int32) (x7 : Int32) (x8 : Int32) (H : Heap) (locs : List Loc) (ls : Array Slot), ez_S X B s.heap (n0) σ H locs → (ez_fix (fun _ _ _ _ _ _ _ _ _ => none) (z_X2_exchange_74 σ k_59) ez_N) h0 x1 x2 x3 x4 x5 x6 x7 x8 = some z → lv_has ls 11 [(0, .ref (B + h0)), (1, .int x1), (2, .int x2), (3, .int x3), (4, .int x4), (5, .int x5), (6, .int x6), (7, .int x7), (8, .int x8)] → W p l e R s m args below meth c H locs 0 0 Q (F0 m 74 ls []) := fun k_59 hk_59 => ez_fix_ind (fun k_74 : Nat → Int32 → Int32 → Int32 → Int32 → Int32 → Int32 → Int32 → Int32 → Option (Int32) => ∀ (h0 : Nat) (x1 : Int32) (x2 : Int32) (x3 : Int32) (x4 : Int32) (x5 : Int32) (x6 : Int32) (x7 : Int32) (x8 : Int32) (H : Heap) (locs : List Loc) (ls : Array Slot), ez_S X B s.heap (n0) σ H locs → k_74 h0 x1 x2 x3 x4 x5 x6 x7 x8 = some z → lv_has ls 11 [(0, .ref (B + h0)), (1, .int x1), (2, .int x2), (3, .int x3), (4, .int x4), (5, .int x5), (6, .int x6), (7, .int x7), (8, .int x8)] → W p l e R s m args below meth c H locs 0 0 Q (F0 m 74 ls [])) (fun _ _ _ _ _ _ _ _ _ _ _ _ _ h _ => by cases h) (fun k_74 hk_74 => K_74 k_59 hk_59 k_74 hk_74) ez_N
  have K_59 : ∀ (k_59 : Nat → Int32 → Int32 → Int32 → Int32 → Int32 → Int32 → Int32 → Option (Int32)) (hk_59 : ∀ (h0 : Nat) (x1 : Int32) (x2 : Int32) (x3 : Int32) (x4 : Int32) (x5 : Int32) (x6 : Int32) (x7 : Int32) (H : Heap) (locs : List Loc) (ls : Array Slot), ez_S X B s.heap (n0) σ H locs → k_59 h0 x1 x2 x3 x4 x5 x6 x7 = some z → lv_has ls 11 [(0, .ref (B + h0)), (1, .int x1), (2, .int x2), (3, .int x3), (4, .int x4), (5, .int x5), (6, .int x6), (7, .int x7)] → W p l e R s m args below meth c H locs 0 0 Q (F0 m 59 ls [])), ∀ (h0 : Nat) (x1 : Int32) (x2 : Int32) (x3 : Int32) (x4 : Int32) (x5 : Int32) (x6 : Int32) (x7 : Int32) (H : Heap) (locs : List Loc) (ls : Array Slot), ez_S X B s.heap (n0) σ H locs → z_X2_exchange_59 σ k_59 h0 x1 x2 x3 x4 x5 x6 x7 = some z → lv_has ls 11 [(0, .ref (B + h0)), (1, .int x1), (2, .int x2), (3, .int x3), (4, .int x4), (5, .int x5), (6, .int x6), (7, .int x7)] → W p l e R s m args below meth c H locs 0 0 Q (F0 m 59 ls []) := by
    intro k_59 hk_59 h0 x1 x2 x3 x4 x5 x6 x7 H locs ls hS h hl
    refine lv_iload hx hb dX2_exchange_59 (lv_at hl 7 rfl) ?_
    refine lv_aload_n hx hb dX2_exchange_61 rfl (lv_at hl 0 rfl) ?_
    refine eg_RX2_9 hC hS h dX2_exchange_62 (fun t_62 h => ?_)
    refine eg_RX2_33 hC hS h dX2_exchange_65 (fun t_65 h => ?_)
    refine lv_icmp_ge (tgt := 184) hx hb dX2_exchange_68 (by decide) (fun c_68 => ?_) (fun c_68 => ?_)
    · replace h := ez_ifp h c_68
      refine lv_iconst (v := -1) hx hb dX2_exchange_184 (by decide) ?_
      exact hret _ _ _ _ _ (Option.some.inj h) rfl hS dX2_exchange_185
    · replace h := ez_ifn h c_68
      refine lv_iconst (v := 0) hx hb dX2_exchange_71 (by decide) ?_
      refine lv_istore (lv' := [(8, .int 0), (0, .ref (B + h0)), (1, .int x1), (2, .int x2), (3, .int x3), (4, .int x4), (5, .int x5), (6, .int x6), (7, .int x7)]) hx hb dX2_exchange_72 hl (by decide) rfl (fun ls hl => ?_)
      exact E_74 k_59 hk_59 h0 x1 x2 x3 x4 x5 x6 x7 (0 : Int32) _ _ _ hS h (lv_sub hl [1, 2, 3, 4, 5, 6, 7, 8, 0] rfl)
  have E_59 : ∀ (h0 : Nat) (x1 : Int32) (x2 : Int32) (x3 : Int32) (x4 : Int32) (x5 : Int32) (x6 : Int32) (x7 : Int32) (H : Heap) (locs : List Loc) (ls : Array Slot), ez_S X B s.heap (n0) σ H locs → (ez_fix (fun _ _ _ _ _ _ _ _ => none) (z_X2_exchange_59 σ) ez_N) h0 x1 x2 x3 x4 x5 x6 x7 = some z → lv_has ls 11 [(0, .ref (B + h0)), (1, .int x1), (2, .int x2), (3, .int x3), (4, .int x4), (5, .int x5), (6, .int x6), (7, .int x7)] → W p l e R s m args below meth c H locs 0 0 Q (F0 m 59 ls []) := ez_fix_ind (fun k_59 : Nat → Int32 → Int32 → Int32 → Int32 → Int32 → Int32 → Int32 → Option (Int32) => ∀ (h0 : Nat) (x1 : Int32) (x2 : Int32) (x3 : Int32) (x4 : Int32) (x5 : Int32) (x6 : Int32) (x7 : Int32) (H : Heap) (locs : List Loc) (ls : Array Slot), ez_S X B s.heap (n0) σ H locs → k_59 h0 x1 x2 x3 x4 x5 x6 x7 = some z → lv_has ls 11 [(0, .ref (B + h0)), (1, .int x1), (2, .int x2), (3, .int x3), (4, .int x4), (5, .int x5), (6, .int x6), (7, .int x7)] → W p l e R s m args below meth c H locs 0 0 Q (F0 m 59 ls [])) (fun _ _ _ _ _ _ _ _ _ _ _ _ h _ => by cases h) (fun k_59 hk_59 => K_59 k_59 hk_59) ez_N
  refine lv_aload_n hx hb dX2_exchange_0 rfl (lv_at hl 0 rfl) ?_
  refine eg_RX2_15 hC hS h dX2_exchange_1 (fun t_1 h => ?_)
  refine lv_iload_n hx hb dX2_exchange_4 rfl (lv_at hl 1 rfl) ?_
  refine lv_aload_n hx hb dX2_exchange_5 rfl (lv_at hl 0 rfl) ?_
  refine eg_RX2_9 hC hS h dX2_exchange_6 (fun t_6 h => ?_)
  refine eg_RX2_33 hC hS h dX2_exchange_9 (fun t_9 h => ?_)
  refine ez_cVpi (As := [.int x1, .int t_9]) (rest := []) h (fun _ q => c_X7_heldBy q) hC k_X7_heldBy ql_RX2_78 rfl (by decide) hS (fun _ q => ez_rcv q) rfl hl.1 rfl (Nat.le_of_ble_eq_true rfl) ⟨Nat.zero_le _, Nat.zero_le _⟩ dX2_exchange_12 (fun t_12 H locs hS h => ?_)
  refine lv_istore_n (lv' := [(3, .int t_12), (0, .ref (B + h0)), (1, .int x1), (2, .int x2)]) hx hb dX2_exchange_15 rfl hl (by decide) rfl (fun ls hl => ?_)
  refine lv_aload_n hx hb dX2_exchange_16 rfl (lv_at hl 1 rfl) ?_
  refine eg_RX2_15 hC hS h dX2_exchange_17 (fun t_17 h => ?_)
  refine lv_iload_n hx hb dX2_exchange_20 rfl (lv_at hl 3 rfl) ?_
  refine lv_aload_n hx hb dX2_exchange_21 rfl (lv_at hl 1 rfl) ?_
  refine eg_RX2_9 hC hS h dX2_exchange_22 (fun t_22 h => ?_)
  refine eg_RX2_33 hC hS h dX2_exchange_25 (fun t_25 h => ?_)
  refine ez_cVpi (As := [.int x2, .int t_25]) (rest := []) h (fun _ q => c_X7_heldBy q) hC k_X7_heldBy ql_RX2_78 rfl (by decide) hS (fun _ q => ez_rcv q) rfl hl.1 rfl (Nat.le_of_ble_eq_true rfl) ⟨Nat.zero_le _, Nat.zero_le _⟩ dX2_exchange_28 (fun t_28 H locs hS h => ?_)
  refine lv_istore (lv' := [(4, .int t_28), (3, .int t_12), (0, .ref (B + h0)), (1, .int x1), (2, .int x2)]) hx hb dX2_exchange_31 hl (by decide) rfl (fun ls hl => ?_)
  refine lv_aload_n hx hb dX2_exchange_33 rfl (lv_at hl 2 rfl) ?_
  refine lv_iload_n hx hb dX2_exchange_34 rfl (lv_at hl 3 rfl) ?_
  refine lv_iload_n hx hb dX2_exchange_35 rfl (lv_at hl 1 rfl) ?_
  refine ez_cVpi (As := [.int x1, .int t_12]) (rest := []) h (fun _ q => c_X2_reachWith q) hC k_X2_reachWith ql_RX2_81 rfl (by decide) hS (fun _ q => ez_rcv q) rfl hl.1 rfl (Nat.le_of_ble_eq_true rfl) ⟨Nat.zero_le _, Nat.zero_le _⟩ dX2_exchange_36 (fun t_36 H locs hS h => ?_)
  refine ez_cSpi (As := [.int t_36]) (rest := []) h (fun _ q => c_J6_bitCount_0f7a4 q) hC k_J6_bitCount_0f7a4 ql_RX2_115 rfl (by decide) hS hl.1 rfl (Nat.le_of_ble_eq_true rfl) ⟨Nat.zero_le _, Nat.zero_le _⟩ dX2_exchange_39 (fun t_39 H locs hS h => ?_)
  refine lv_istore (lv' := [(5, .int t_39), (4, .int t_28), (3, .int t_12), (0, .ref (B + h0)), (1, .int x1), (2, .int x2)]) hx hb dX2_exchange_42 hl (by decide) rfl (fun ls hl => ?_)
  refine lv_aload_n hx hb dX2_exchange_44 rfl (lv_at hl 3 rfl) ?_
  refine lv_iload_n hx hb dX2_exchange_45 rfl (lv_at hl 5 rfl) ?_
  refine lv_iload hx hb dX2_exchange_46 (lv_at hl 1 rfl) ?_
  refine ez_cVpi (As := [.int x2, .int t_28]) (rest := []) h (fun _ q => c_X2_reachWith q) hC k_X2_reachWith ql_RX2_81 rfl (by decide) hS (fun _ q => ez_rcv q) rfl hl.1 rfl (Nat.le_of_ble_eq_true rfl) ⟨Nat.zero_le _, Nat.zero_le _⟩ dX2_exchange_48 (fun t_48 H locs hS h => ?_)
  refine ez_cSpi (As := [.int t_48]) (rest := []) h (fun _ q => c_J6_bitCount_0f7a4 q) hC k_J6_bitCount_0f7a4 ql_RX2_115 rfl (by decide) hS hl.1 rfl (Nat.le_of_ble_eq_true rfl) ⟨Nat.zero_le _, Nat.zero_le _⟩ dX2_exchange_51 (fun t_51 H locs hS h => ?_)
  refine lv_istore (lv' := [(6, .int t_51), (5, .int t_39), (4, .int t_28), (3, .int t_12), (0, .ref (B + h0)), (1, .int x1), (2, .int x2)]) hx hb dX2_exchange_54 hl (by decide) rfl (fun ls hl => ?_)
  refine lv_iconst (v := 0) hx hb dX2_exchange_56 (by decide) ?_
  refine lv_istore (lv' := [(7, .int 0), (6, .int t_51), (5, .int t_39), (4, .int t_28), (3, .int t_12), (0, .ref (B + h0)), (1, .int x1), (2, .int x2)]) hx hb dX2_exchange_57 hl (by decide) rfl (fun ls hl => ?_)
  exact E_59  h0 x1 x2 t_12 t_28 t_39 t_51 (0 : Int32) _ _ _ hS h (lv_sub hl [5, 6, 7, 4, 3, 2, 1, 0] rfl)
set_option maxRecDepth 100000 in
noncomputable def z_X11_trade_36 (σ : ez_H) : Option (Int32) :=
  some (-1 : Int32)
set_option maxRecDepth 100000 in
noncomputable def z_X11_trade_74 (σ : ez_H) (y0 : Int32) : Option (Int32) :=
  some y0
set_option maxRecDepth 100000 in
noncomputable def z_X11_trade (σ : ez_H) (h0 : Nat) (x1 : Int32) (x2 : Int32) (x3 : Int32) : Option (Int32) :=
  ez_bd (ez_ob σ 11 h0) fun _ =>
  ez_bd (ez_gr σ 11 h0 3) fun t_1 =>
  ez_bd (z_X3_hasPerson σ t_1 x1) fun t_5 =>
  if t_5 = (0 : Int32) then (
  z_X11_trade_36 σ 
  ) else (
  ez_bd (ez_gr σ 11 h0 3) fun t_12 =>
  ez_bd (z_X3_hasPerson σ t_12 x2) fun t_16 =>
  if t_16 = (0 : Int32) then (
  z_X11_trade_36 σ 
  ) else (
  if x1 = x2 then (
  z_X11_trade_36 σ 
  ) else (
  if x3 < (0 : Int32) then (
  z_X11_trade_36 σ 
  ) else (
  if x3 ≤ (1 : Int32) then (
  ez_bd (ez_gr σ 11 h0 12) fun t_39 =>
  ez_bd (z_X2_exchange σ t_39 x1 x2) fun t_44 =>
  if t_44 = (-1 : Int32) then (
  some (-1 : Int32)
  ) else (
  if x3 = (0 : Int32) then (
  ez_nz (8 : Int32) <|
  ez_let (t_44 / (8 : Int32)) fun t_65 =>
  z_X11_trade_74 σ t_65
  ) else (
  ez_nz (8 : Int32) <|
  ez_let (t_44 - t_44 / (8 : Int32) * (8 : Int32)) fun t_73 =>
  z_X11_trade_74 σ t_73
  )
  )
  ) else (
  z_X11_trade_36 σ 
  )
  )
  )
  )
  )
set_option maxHeartbeats 4000000 in
set_option maxRecDepth 100000 in
theorem c_X11_trade {l : Launch} {X : ez_X} {B : Nat} {σ : ez_H} {h0 : Nat} {x1 : Int32} {x2 : Int32} {x3 : Int32} {z : Int32} (h : z_X11_trade σ h0 x1 x2 x3 = some z) : ez_M l X B σ yX11_trade cX11_trade 5 (some .int) 5 [.ref (B + h0), .int x1, .int x2, .int x3] (some (.int z)) σ := by
  refine ez_startip (z := z) (by decide) (Nat.le_of_ble_eq_true rfl) (fun p e R s m args below meth c Q hC hret hS ls hl => ?_)
  have hC : ez_C p R s m args c X B RX11 cX11_trade 5 5 := hC
  have hx := hC.1.1
  have hb := hC.1.2.1
  have hown := hC.1.2.2.2.1
  have hts := hC.1.2.2.2.2
  have hl : lv_has ls 5 [(0, .ref (B + h0)), (1, .int x1), (2, .int x2), (3, .int x3)] := hl
  obtain ⟨n0, e0⟩ : ∃ n0 : Nat, n0 = σ.length := ⟨_, rfl⟩
  rw [← e0] at hret hS
  obtain ⟨-, h⟩ := ez_in h
  have K_36 : ∀ (H : Heap) (locs : List Loc) (ls : Array Slot), ez_S X B s.heap (n0) σ H locs → z_X11_trade_36 σ = some z → lv_has ls 5 [] → W p l e R s m args below meth c H locs 0 0 Q (F0 m 36 ls []) := by
    intro  H locs ls hS h hl
    refine lv_iconst (v := -1) hx hb dX11_trade_36 (by decide) ?_
    exact hret _ _ _ _ _ (Option.some.inj h) rfl hS dX11_trade_37
  have K_74 : ∀ (y0 : Int32) (H : Heap) (locs : List Loc) (ls : Array Slot), ez_S X B s.heap (n0) σ H locs → z_X11_trade_74 σ y0 = some z → lv_has ls 5 [] → W p l e R s m args below meth c H locs 0 0 Q (F0 m 74 ls [.int y0]) := by
    intro y0 H locs ls hS h hl
    exact hret _ _ _ _ _ (Option.some.inj h) rfl hS dX11_trade_74
  refine lv_aload_n hx hb dX11_trade_0 rfl (lv_at hl 0 rfl) ?_
  refine eg_RX11_29 hC hS h dX11_trade_1 (fun t_1 h => ?_)
  refine lv_iload_n hx hb dX11_trade_4 rfl (lv_at hl 1 rfl) ?_
  refine ez_cVpi (As := [.int x1]) (rest := []) h (fun _ q => c_X3_hasPerson q) hC k_X3_hasPerson ql_RX11_200 rfl (by decide) hS (fun _ q => ez_rcv q) rfl hl.1 rfl (Nat.le_of_ble_eq_true rfl) ⟨Nat.zero_le _, Nat.zero_le _⟩ dX11_trade_5 (fun t_5 H locs hS h => ?_)
  refine lv_if_eq (tgt := 36) hx hb dX11_trade_8 (by decide) (fun c_8 => ?_) (fun c_8 => ?_)
  · replace h := ez_ifp h c_8
    exact K_36   _ _ _ hS h (lv_sub hl [] rfl)
  · replace h := ez_ifn h c_8
    refine lv_aload_n hx hb dX11_trade_11 rfl (lv_at hl 0 rfl) ?_
    refine eg_RX11_29 hC hS h dX11_trade_12 (fun t_12 h => ?_)
    refine lv_iload_n hx hb dX11_trade_15 rfl (lv_at hl 2 rfl) ?_
    refine ez_cVpi (As := [.int x2]) (rest := []) h (fun _ q => c_X3_hasPerson q) hC k_X3_hasPerson ql_RX11_200 rfl (by decide) hS (fun _ q => ez_rcv q) rfl hl.1 rfl (Nat.le_of_ble_eq_true rfl) ⟨Nat.zero_le _, Nat.zero_le _⟩ dX11_trade_16 (fun t_16 H locs hS h => ?_)
    refine lv_if_eq (tgt := 36) hx hb dX11_trade_19 (by decide) (fun c_19 => ?_) (fun c_19 => ?_)
    · replace h := ez_ifp h c_19
      exact K_36   _ _ _ hS h (lv_sub hl [] rfl)
    · replace h := ez_ifn h c_19
      refine lv_iload_n hx hb dX11_trade_22 rfl (lv_at hl 1 rfl) ?_
      refine lv_iload_n hx hb dX11_trade_23 rfl (lv_at hl 2 rfl) ?_
      refine lv_icmp_eq (tgt := 36) hx hb dX11_trade_24 (by decide) (fun c_24 => ?_) (fun c_24 => ?_)
      · replace h := ez_ifp h c_24
        exact K_36   _ _ _ hS h (lv_sub hl [] rfl)
      · replace h := ez_ifn h c_24
        refine lv_iload_n hx hb dX11_trade_27 rfl (lv_at hl 3 rfl) ?_
        refine lv_if_lt (tgt := 36) hx hb dX11_trade_28 (by decide) (fun c_28 => ?_) (fun c_28 => ?_)
        · replace h := ez_ifp h c_28
          exact K_36   _ _ _ hS h (lv_sub hl [] rfl)
        · replace h := ez_ifn h c_28
          refine lv_iload_n hx hb dX11_trade_31 rfl (lv_at hl 3 rfl) ?_
          refine lv_iconst (v := 1) hx hb dX11_trade_32 (by decide) ?_
          refine lv_icmp_le (tgt := 38) hx hb dX11_trade_33 (by decide) (fun c_33 => ?_) (fun c_33 => ?_)
          · replace h := ez_ifp h c_33
            refine lv_aload_n hx hb dX11_trade_38 rfl (lv_at hl 0 rfl) ?_
            refine eg_RX11_79 hC hS h dX11_trade_39 (fun t_39 h => ?_)
            refine lv_iload_n hx hb dX11_trade_42 rfl (lv_at hl 1 rfl) ?_
            refine lv_iload_n hx hb dX11_trade_43 rfl (lv_at hl 2 rfl) ?_
            refine ez_cVpi (As := [.int x1, .int x2]) (rest := []) h (fun _ q => c_X2_exchange q) hC k_X2_exchange ql_RX11_371 rfl (by decide) hS (fun _ q => ez_rcv q) rfl hl.1 rfl (Nat.le_of_ble_eq_true rfl) ⟨Nat.zero_le _, Nat.zero_le _⟩ dX11_trade_44 (fun t_44 H locs hS h => ?_)
            refine lv_istore (lv' := [(4, .int t_44), (0, .ref (B + h0)), (1, .int x1), (2, .int x2), (3, .int x3)]) hx hb dX11_trade_47 hl (by decide) rfl (fun ls hl => ?_)
            refine lv_iload hx hb dX11_trade_49 (lv_at hl 0 rfl) ?_
            refine lv_iconst (v := -1) hx hb dX11_trade_51 (by decide) ?_
            refine lv_icmp_ne (tgt := 57) hx hb dX11_trade_52 (by decide) (fun c_52 => ?_) (fun c_52 => ?_)
            · replace h := ez_ifn h c_52
              refine lv_iload_n hx hb dX11_trade_57 rfl (lv_at hl 4 rfl) ?_
              refine lv_if_ne (tgt := 69) hx hb dX11_trade_58 (by decide) (fun c_58 => ?_) (fun c_58 => ?_)
              · replace h := ez_ifn h c_58
                refine lv_iload hx hb dX11_trade_69 (lv_at hl 0 rfl) ?_
                refine lv_bipush (v := 8) hx hb dX11_trade_71 (by decide) ?_
                obtain ⟨nz_73, h⟩ := ez_nz_sp h
                refine lv_irem hx hb dX11_trade_73 nz_73 ?_
                refine ez_top h (fun t_73 h => ?_)
                exact K_74  t_73 _ _ _ hS h (lv_sub hl [] rfl)
              · replace h := ez_ifp h c_58
                refine lv_iload hx hb dX11_trade_61 (lv_at hl 0 rfl) ?_
                refine lv_bipush (v := 8) hx hb dX11_trade_63 (by decide) ?_
                obtain ⟨nz_65, h⟩ := ez_nz_sp h
                refine lv_idiv hx hb dX11_trade_65 nz_65 ?_
                refine ez_top h (fun t_65 h => ?_)
                refine lv_goto (tgt := 74) hx hb dX11_trade_66 (by decide) ?_
                exact K_74  t_65 _ _ _ hS h (lv_sub hl [] rfl)
            · replace h := ez_ifp h c_52
              refine lv_iconst (v := -1) hx hb dX11_trade_55 (by decide) ?_
              exact hret _ _ _ _ _ (Option.some.inj h) rfl hS dX11_trade_56
          · replace h := ez_ifn h c_33
            exact K_36   _ _ _ hS h (lv_sub hl [] rfl)
set_option maxRecDepth 100000 in
noncomputable def z_X10_tell_16 (σ : ez_H) : Option (Int32 × ez_H) :=
  some ((-1 : Int32), σ)
set_option maxRecDepth 100000 in
noncomputable def z_X10_tell (σ : ez_H) (h0 : Nat) (x1 : Int32) (x2 : Int32) : Option (Int32 × ez_H) :=
  ez_bd (ez_ob σ 10 h0) fun _ =>
  ez_bd (ez_gi σ 10 h0 4) fun t_1 =>
  if t_1 < (0 : Int32) then (
  z_X10_tell_16  σ
  ) else (
  ez_bd (ez_gi σ 10 h0 4) fun t_8 =>
  if t_8 < (30 : Int32) then (
  ez_bd (ez_gr σ 10 h0 0) fun t_19 =>
  ez_bd (ez_gi σ 10 h0 4) fun t_23 =>
  ez_bd (ez_is σ 1 t_19 t_23 x1) fun σ =>
  ez_bd (ez_gr σ 10 h0 1) fun t_29 =>
  ez_bd (ez_gi σ 10 h0 4) fun t_33 =>
  ez_bd (ez_is σ 3 t_29 t_33 (vp_nar .boolean x2)) fun σ =>
  ez_bd (ez_gr σ 10 h0 2) fun t_39 =>
  ez_bd (ez_gi σ 10 h0 4) fun t_43 =>
  ez_bd (ez_gi σ 10 h0 5) fun t_47 =>
  ez_bd (ez_is σ 1 t_39 t_43 t_47) fun σ =>
  ez_bd (ez_gr σ 10 h0 3) fun t_52 =>
  ez_bd (ez_gi σ 10 h0 4) fun t_56 =>
  ez_bd (ez_is σ 1 t_52 t_56 (-1 : Int32)) fun σ =>
  ez_bd (ez_gi σ 10 h0 4) fun t_63 =>
  ez_let (t_63 + (1 : Int32)) fun t_67 =>
  ez_bd (ez_pf σ 10 h0 4 (.inl t_67)) fun σ =>
  ez_bd (ez_gi σ 10 h0 4) fun t_72 =>
  ez_let (t_72 - (1 : Int32)) fun t_76 =>
  some (t_76, σ)
  ) else (
  z_X10_tell_16  σ
  )
  )
set_option maxHeartbeats 4000000 in
set_option maxRecDepth 100000 in
theorem c_X10_tell {l : Launch} {X : ez_X} {B : Nat} {σ : ez_H} {h0 : Nat} {x1 : Int32} {x2 : Int32} {z : Int32 × ez_H} (h : z_X10_tell σ h0 x1 x2 = some z) : ez_M l X B σ yX10_tell cX10_tell 3 (some .int) 0 [.ref (B + h0), .int x1, .int x2] (some (.int z.1)) z.2 := by
  refine ez_starti (z := z) (by decide) (Nat.le_of_ble_eq_true rfl) (fun p e R s m args below meth c Q hC hret hS ls hl => ?_)
  have hC : ez_C p R s m args c X B RX10 cX10_tell 3 0 := hC
  have hx := hC.1.1
  have hb := hC.1.2.1
  have hown := hC.1.2.2.2.1
  have hts := hC.1.2.2.2.2
  have hl : lv_has ls 3 [(0, .ref (B + h0)), (1, .int x1), (2, .int x2)] := hl
  obtain ⟨σ0, eσ⟩ : ∃ σ0 : ez_H, σ0 = σ := ⟨_, rfl⟩
  rw [← eσ] at hret
  have hS : ez_S X B s.heap σ0.length σ s.heap [] := eσ ▸ hS
  obtain ⟨-, h⟩ := ez_in h
  have K_16 : ∀ (σ : ez_H) (H : Heap) (locs : List Loc) (ls : Array Slot), ez_S X B s.heap (σ0.length) σ H locs → z_X10_tell_16 σ = some z → lv_has ls 3 [] → W p l e R s m args below meth c H locs 0 0 Q (F0 m 16 ls []) := by
    intro σ H locs ls hS h hl
    refine lv_iconst (v := -1) hx hb dX10_tell_16 (by decide) ?_
    exact hret _ _ _ _ _ _ (Option.some.inj h) rfl hS dX10_tell_17
  refine lv_aload_n hx hb dX10_tell_0 rfl (lv_at hl 0 rfl) ?_
  refine eg_RX10_25 hC hS h dX10_tell_1 (fun t_1 h => ?_)
  refine lv_if_lt (tgt := 16) hx hb dX10_tell_4 (by decide) (fun c_4 => ?_) (fun c_4 => ?_)
  · replace h := ez_ifp h c_4
    exact K_16  σ _ _ _ hS h (lv_sub hl [] rfl)
  · replace h := ez_ifn h c_4
    refine lv_aload_n hx hb dX10_tell_7 rfl (lv_at hl 0 rfl) ?_
    refine eg_RX10_25 hC hS h dX10_tell_8 (fun t_8 h => ?_)
    refine lv_bipush (v := 30) hx hb dX10_tell_11 (by decide) ?_
    refine lv_icmp_lt (tgt := 18) hx hb dX10_tell_13 (by decide) (fun c_13 => ?_) (fun c_13 => ?_)
    · replace h := ez_ifp h c_13
      refine lv_aload_n hx hb dX10_tell_18 rfl (lv_at hl 0 rfl) ?_
      refine eg_RX10_11 hC hS h dX10_tell_19 (fun t_19 h => ?_)
      refine lv_aload_n hx hb dX10_tell_22 rfl (lv_at hl 0 rfl) ?_
      refine eg_RX10_25 hC hS h dX10_tell_23 (fun t_23 h => ?_)
      refine lv_iload_n hx hb dX10_tell_26 rfl (lv_at hl 1 rfl) ?_
      refine ez_ias hC hS h dX10_tell_27 (fun σ H locs hS h => ?_)
      refine lv_aload_n hx hb dX10_tell_28 rfl (lv_at hl 0 rfl) ?_
      refine eg_RX10_15 hC hS h dX10_tell_29 (fun t_29 h => ?_)
      refine lv_aload_n hx hb dX10_tell_32 rfl (lv_at hl 0 rfl) ?_
      refine eg_RX10_25 hC hS h dX10_tell_33 (fun t_33 h => ?_)
      refine lv_iload_n hx hb dX10_tell_36 rfl (lv_at hl 2 rfl) ?_
      refine ez_zas hC hS h dX10_tell_37 (fun σ H locs hS h => ?_)
      refine lv_aload_n hx hb dX10_tell_38 rfl (lv_at hl 0 rfl) ?_
      refine eg_RX10_19 hC hS h dX10_tell_39 (fun t_39 h => ?_)
      refine lv_aload_n hx hb dX10_tell_42 rfl (lv_at hl 0 rfl) ?_
      refine eg_RX10_25 hC hS h dX10_tell_43 (fun t_43 h => ?_)
      refine lv_aload_n hx hb dX10_tell_46 rfl (lv_at hl 0 rfl) ?_
      refine eg_RX10_29 hC hS h dX10_tell_47 (fun t_47 h => ?_)
      refine ez_ias hC hS h dX10_tell_50 (fun σ H locs hS h => ?_)
      refine lv_aload_n hx hb dX10_tell_51 rfl (lv_at hl 0 rfl) ?_
      refine eg_RX10_22 hC hS h dX10_tell_52 (fun t_52 h => ?_)
      refine lv_aload_n hx hb dX10_tell_55 rfl (lv_at hl 0 rfl) ?_
      refine eg_RX10_25 hC hS h dX10_tell_56 (fun t_56 h => ?_)
      refine lv_iconst (v := -1) hx hb dX10_tell_59 (by decide) ?_
      refine ez_ias hC hS h dX10_tell_60 (fun σ H locs hS h => ?_)
      refine lv_aload_n hx hb dX10_tell_61 rfl (lv_at hl 0 rfl) ?_
      refine lv_dup hx hb dX10_tell_62 rfl ?_
      refine eg_RX10_25 hC hS h dX10_tell_63 (fun t_63 h => ?_)
      refine lv_iconst (v := 1) hx hb dX10_tell_66 (by decide) ?_
      refine lv_iadd hx hb dX10_tell_67 ?_
      refine ez_top h (fun t_67 h => ?_)
      refine ep_RX10_25 hC hS h dX10_tell_68 (fun σ H locs hS h => ?_)
      refine lv_aload_n hx hb dX10_tell_71 rfl (lv_at hl 0 rfl) ?_
      refine eg_RX10_25 hC hS h dX10_tell_72 (fun t_72 h => ?_)
      refine lv_iconst (v := 1) hx hb dX10_tell_75 (by decide) ?_
      refine lv_isub hx hb dX10_tell_76 ?_
      refine ez_top h (fun t_76 h => ?_)
      exact hret _ _ _ _ _ _ (Option.some.inj h) rfl hS dX10_tell_77
    · replace h := ez_ifn h c_13
      exact K_16  σ _ _ _ hS h (lv_sub hl [] rfl)
set_option maxRecDepth 100000 in
noncomputable def z_X11_tried_24 (σ : ez_H) (y0 : Int32) : Option (Int32 × ez_H) :=
  some (y0, σ)
set_option maxRecDepth 100000 in
noncomputable def z_X11_tried (σ : ez_H) (h0 : Nat) (x1 : Int32) (x2 : Int32) : Option (Int32 × ez_H) :=
  ez_bd (ez_ob σ 11 h0) fun _ =>
  ez_bd (ez_gr σ 11 h0 3) fun t_1 =>
  ez_bd (z_X3_hasLock σ t_1 x1) fun t_5 =>
  if t_5 = (0 : Int32) then (
  z_X11_tried_24  σ (-1 : Int32)
  ) else (
  ez_bd (ez_gr σ 11 h0 14) fun t_12 =>
  ez_b2 (z_X10_tell σ t_12 x1 x2) fun t_17 σ =>
  z_X11_tried_24  σ t_17
  )
set_option maxHeartbeats 4000000 in
set_option maxRecDepth 100000 in
theorem c_X11_tried {l : Launch} {X : ez_X} {B : Nat} {σ : ez_H} {h0 : Nat} {x1 : Int32} {x2 : Int32} {z : Int32 × ez_H} (h : z_X11_tried σ h0 x1 x2 = some z) : ez_M l X B σ yX11_tried cX11_tried 3 (some .int) 1 [.ref (B + h0), .int x1, .int x2] (some (.int z.1)) z.2 := by
  refine ez_starti (z := z) (by decide) (Nat.le_of_ble_eq_true rfl) (fun p e R s m args below meth c Q hC hret hS ls hl => ?_)
  have hC : ez_C p R s m args c X B RX11 cX11_tried 3 1 := hC
  have hx := hC.1.1
  have hb := hC.1.2.1
  have hown := hC.1.2.2.2.1
  have hts := hC.1.2.2.2.2
  have hl : lv_has ls 3 [(0, .ref (B + h0)), (1, .int x1), (2, .int x2)] := hl
  obtain ⟨σ0, eσ⟩ : ∃ σ0 : ez_H, σ0 = σ := ⟨_, rfl⟩
  rw [← eσ] at hret
  have hS : ez_S X B s.heap σ0.length σ s.heap [] := eσ ▸ hS
  obtain ⟨-, h⟩ := ez_in h
  have K_24 : ∀ (σ : ez_H) (y0 : Int32) (H : Heap) (locs : List Loc) (ls : Array Slot), ez_S X B s.heap (σ0.length) σ H locs → z_X11_tried_24 σ y0 = some z → lv_has ls 3 [] → W p l e R s m args below meth c H locs 0 0 Q (F0 m 24 ls [.int y0]) := by
    intro σ y0 H locs ls hS h hl
    exact hret _ _ _ _ _ _ (Option.some.inj h) rfl hS dX11_tried_24
  refine lv_aload_n hx hb dX11_tried_0 rfl (lv_at hl 0 rfl) ?_
  refine eg_RX11_29 hC hS h dX11_tried_1 (fun t_1 h => ?_)
  refine lv_iload_n hx hb dX11_tried_4 rfl (lv_at hl 1 rfl) ?_
  refine ez_cVpi (As := [.int x1]) (rest := []) h (fun _ q => c_X3_hasLock q) hC k_X3_hasLock ql_RX11_165 rfl (by decide) hS (fun _ q => ez_rcv q) rfl hl.1 rfl (Nat.le_of_ble_eq_true rfl) ⟨Nat.zero_le _, Nat.zero_le _⟩ dX11_tried_5 (fun t_5 H locs hS h => ?_)
  refine lv_if_eq (tgt := 23) hx hb dX11_tried_8 (by decide) (fun c_8 => ?_) (fun c_8 => ?_)
  · replace h := ez_ifp h c_8
    refine lv_iconst (v := -1) hx hb dX11_tried_23 (by decide) ?_
    exact K_24  σ (-1 : Int32) _ _ _ hS h (lv_sub hl [] rfl)
  · replace h := ez_ifn h c_8
    refine lv_aload_n hx hb dX11_tried_11 rfl (lv_at hl 0 rfl) ?_
    refine eg_RX11_93 hC hS h dX11_tried_12 (fun t_12 h => ?_)
    refine lv_iload_n hx hb dX11_tried_15 rfl (lv_at hl 1 rfl) ?_
    refine lv_iload_n hx hb dX11_tried_16 rfl (lv_at hl 2 rfl) ?_
    refine ez_cVi (As := [.int x1, .int x2]) (rest := []) h (fun _ q => c_X10_tell q) hC k_X10_tell ql_RX11_404 rfl (by decide) hS (fun _ q => ez_rcv q) rfl hl.1 rfl (Nat.le_of_ble_eq_true rfl) ⟨Nat.zero_le _, Nat.zero_le _⟩ dX11_tried_17 (fun t_17 σ H locs hS h => ?_)
    refine lv_goto (tgt := 24) hx hb dX11_tried_20 (by decide) ?_
    exact K_24  σ t_17 _ _ _ hS h (lv_sub hl [] rfl)
set_option maxRecDepth 100000 in
noncomputable def z_X11_twin_81 (σ : ez_H) (k_20 : Nat → Int32 → Int32 → Int32 → Int32 → Option (Int32)) (h0 : Nat) (x1 : Int32) (x2 : Int32) (x3 : Int32) (x4 : Int32) : Option (Int32) :=
  ez_let (x4 + 1) fun t_81 =>
  k_20 h0 x1 x2 x3 t_81
set_option maxRecDepth 100000 in
noncomputable def z_X11_twin_75 (σ : ez_H) (k_20 : Nat → Int32 → Int32 → Int32 → Int32 → Option (Int32)) (h0 : Nat) (x1 : Int32) (x4 : Int32) (x5 : Int32) : Option (Int32) :=
  z_X11_twin_81 σ k_20 h0 x1 x4 x5 x4
set_option maxRecDepth 100000 in
noncomputable def z_X11_twin_20 (σ : ez_H) (k_20 : Nat → Int32 → Int32 → Int32 → Int32 → Option (Int32)) (h0 : Nat) (x1 : Int32) (x2 : Int32) (x3 : Int32) (x4 : Int32) : Option (Int32) :=
  ez_bd (ez_gr σ 11 h0 3) fun t_23 =>
  ez_bd (ez_gi σ 3 t_23 3) fun t_26 =>
  if t_26 ≤ x4 then (
  some x2
  ) else (
  ez_bd (ez_gr σ 11 h0 4) fun t_33 =>
  ez_bd (ez_gr σ 11 h0 5) fun t_37 =>
  ez_bd (z_X7_bits σ t_37 x1) fun t_41 =>
  ez_bd (ez_gr σ 11 h0 5) fun t_45 =>
  ez_bd (z_X7_bits σ t_45 x4) fun t_50 =>
  ez_bd (z_X6_apart σ t_33 t_41 t_50) fun t_53 =>
  if x4 = x1 then (
  z_X11_twin_81 σ k_20 h0 x1 x2 x3 x4
  ) else (
  if x2 = (-1 : Int32) then (
  z_X11_twin_75 σ k_20 h0 x1 x4 t_53
  ) else (
  if x3 ≤ t_53 then (
  z_X11_twin_81 σ k_20 h0 x1 x2 x3 x4
  ) else (
  z_X11_twin_75 σ k_20 h0 x1 x4 t_53
  )
  )
  )
  )
set_option maxRecDepth 100000 in
noncomputable def z_X11_twin (σ : ez_H) (h0 : Nat) (x1 : Int32) : Option (Int32) :=
  ez_bd (ez_ob σ 11 h0) fun _ =>
  ez_bd (ez_gr σ 11 h0 3) fun t_1 =>
  ez_bd (z_X3_hasKey σ t_1 x1) fun t_5 =>
  if t_5 = (0 : Int32) then (
  some (-1 : Int32)
  ) else (
  ez_fix (fun _ _ _ _ _ => none) (z_X11_twin_20 σ) ez_N h0 x1 (-1 : Int32) (0 : Int32) (0 : Int32)
  )
set_option maxHeartbeats 4000000 in
set_option maxRecDepth 100000 in
theorem c_X11_twin {l : Launch} {X : ez_X} {B : Nat} {σ : ez_H} {h0 : Nat} {x1 : Int32} {z : Int32} (h : z_X11_twin σ h0 x1 = some z) : ez_M l X B σ yX11_twin cX11_twin 6 (some .int) 3 [.ref (B + h0), .int x1] (some (.int z)) σ := by
  refine ez_startip (z := z) (by decide) (Nat.le_of_ble_eq_true rfl) (fun p e R s m args below meth c Q hC hret hS ls hl => ?_)
  have hC : ez_C p R s m args c X B RX11 cX11_twin 6 3 := hC
  have hx := hC.1.1
  have hb := hC.1.2.1
  have hown := hC.1.2.2.2.1
  have hts := hC.1.2.2.2.2
  have hl : lv_has ls 6 [(0, .ref (B + h0)), (1, .int x1)] := hl
  obtain ⟨n0, e0⟩ : ∃ n0 : Nat, n0 = σ.length := ⟨_, rfl⟩
  rw [← e0] at hret hS
  obtain ⟨-, h⟩ := ez_in h
  have K_81 : ∀ (k_20 : Nat → Int32 → Int32 → Int32 → Int32 → Option (Int32)) (hk_20 : ∀ (h0 : Nat) (x1 : Int32) (x2 : Int32) (x3 : Int32) (x4 : Int32) (H : Heap) (locs : List Loc) (ls : Array Slot), ez_S X B s.heap (n0) σ H locs → k_20 h0 x1 x2 x3 x4 = some z → lv_has ls 6 [(0, .ref (B + h0)), (1, .int x1), (2, .int x2), (3, .int x3), (4, .int x4)] → W p l e R s m args below meth c H locs 0 0 Q (F0 m 20 ls [])), ∀ (h0 : Nat) (x1 : Int32) (x2 : Int32) (x3 : Int32) (x4 : Int32) (H : Heap) (locs : List Loc) (ls : Array Slot), ez_S X B s.heap (n0) σ H locs → z_X11_twin_81 σ k_20 h0 x1 x2 x3 x4 = some z → lv_has ls 6 [(0, .ref (B + h0)), (1, .int x1), (2, .int x2), (3, .int x3), (4, .int x4)] → W p l e R s m args below meth c H locs 0 0 Q (F0 m 81 ls []) := by
    intro k_20 hk_20 h0 x1 x2 x3 x4 H locs ls hS h hl
    obtain ⟨t_81, e_81, h⟩ := ez_let_sp h
    refine lv_iinc (v := t_81) (lv' := [(4, .int t_81), (0, .ref (B + h0)), (1, .int x1), (2, .int x2), (3, .int x3)]) hx hb dX11_twin_81 hl (k := 4) rfl (by rw [e_81]; rfl) (by decide) rfl (fun ls hl => ?_)
    refine lv_goto (tgt := 20) hx hb dX11_twin_84 (by decide) ?_
    exact hk_20 h0 x1 x2 x3 t_81 _ _ _ hS h (lv_sub hl [1, 2, 3, 4, 0] rfl)
  have K_75 : ∀ (k_20 : Nat → Int32 → Int32 → Int32 → Int32 → Option (Int32)) (hk_20 : ∀ (h0 : Nat) (x1 : Int32) (x2 : Int32) (x3 : Int32) (x4 : Int32) (H : Heap) (locs : List Loc) (ls : Array Slot), ez_S X B s.heap (n0) σ H locs → k_20 h0 x1 x2 x3 x4 = some z → lv_has ls 6 [(0, .ref (B + h0)), (1, .int x1), (2, .int x2), (3, .int x3), (4, .int x4)] → W p l e R s m args below meth c H locs 0 0 Q (F0 m 20 ls [])), ∀ (h0 : Nat) (x1 : Int32) (x4 : Int32) (x5 : Int32) (H : Heap) (locs : List Loc) (ls : Array Slot), ez_S X B s.heap (n0) σ H locs → z_X11_twin_75 σ k_20 h0 x1 x4 x5 = some z → lv_has ls 6 [(0, .ref (B + h0)), (1, .int x1), (4, .int x4), (5, .int x5)] → W p l e R s m args below meth c H locs 0 0 Q (F0 m 75 ls []) := by
    intro k_20 hk_20 h0 x1 x4 x5 H locs ls hS h hl
    refine lv_iload hx hb dX11_twin_75 (lv_at hl 2 rfl) ?_
    refine lv_istore_n (lv' := [(2, .int x4), (0, .ref (B + h0)), (1, .int x1), (4, .int x4), (5, .int x5)]) hx hb dX11_twin_77 rfl hl (by decide) rfl (fun ls hl => ?_)
    refine lv_iload hx hb dX11_twin_78 (lv_at hl 4 rfl) ?_
    refine lv_istore_n (lv' := [(3, .int x5), (2, .int x4), (0, .ref (B + h0)), (1, .int x1), (4, .int x4), (5, .int x5)]) hx hb dX11_twin_80 rfl hl (by decide) rfl (fun ls hl => ?_)
    exact K_81 k_20 hk_20 h0 x1 x4 x5 x4 _ _ _ hS h (lv_sub hl [2, 3, 1, 0, 4] rfl)
  have K_20 : ∀ (k_20 : Nat → Int32 → Int32 → Int32 → Int32 → Option (Int32)) (hk_20 : ∀ (h0 : Nat) (x1 : Int32) (x2 : Int32) (x3 : Int32) (x4 : Int32) (H : Heap) (locs : List Loc) (ls : Array Slot), ez_S X B s.heap (n0) σ H locs → k_20 h0 x1 x2 x3 x4 = some z → lv_has ls 6 [(0, .ref (B + h0)), (1, .int x1), (2, .int x2), (3, .int x3), (4, .int x4)] → W p l e R s m args below meth c H locs 0 0 Q (F0 m 20 ls [])), ∀ (h0 : Nat) (x1 : Int32) (x2 : Int32) (x3 : Int32) (x4 : Int32) (H : Heap) (locs : List Loc) (ls : Array Slot), ez_S X B s.heap (n0) σ H locs → z_X11_twin_20 σ k_20 h0 x1 x2 x3 x4 = some z → lv_has ls 6 [(0, .ref (B + h0)), (1, .int x1), (2, .int x2), (3, .int x3), (4, .int x4)] → W p l e R s m args below meth c H locs 0 0 Q (F0 m 20 ls []) := by
    intro k_20 hk_20 h0 x1 x2 x3 x4 H locs ls hS h hl
    refine lv_iload hx hb dX11_twin_20 (lv_at hl 4 rfl) ?_
    refine lv_aload_n hx hb dX11_twin_22 rfl (lv_at hl 0 rfl) ?_
    refine eg_RX11_29 hC hS h dX11_twin_23 (fun t_23 h => ?_)
    refine eg_RX11_128 hC hS h dX11_twin_26 (fun t_26 h => ?_)
    refine lv_icmp_ge (tgt := 87) hx hb dX11_twin_29 (by decide) (fun c_29 => ?_) (fun c_29 => ?_)
    · replace h := ez_ifp h c_29
      refine lv_iload_n hx hb dX11_twin_87 rfl (lv_at hl 2 rfl) ?_
      exact hret _ _ _ _ _ (Option.some.inj h) rfl hS dX11_twin_88
    · replace h := ez_ifn h c_29
      refine lv_aload_n hx hb dX11_twin_32 rfl (lv_at hl 0 rfl) ?_
      refine eg_RX11_37 hC hS h dX11_twin_33 (fun t_33 h => ?_)
      refine lv_aload_n hx hb dX11_twin_36 rfl (lv_at hl 0 rfl) ?_
      refine eg_RX11_41 hC hS h dX11_twin_37 (fun t_37 h => ?_)
      refine lv_iload_n hx hb dX11_twin_40 rfl (lv_at hl 1 rfl) ?_
      refine ez_cVpi (As := [.int x1]) (rest := [.ref (B + t_33)]) h (fun _ q => c_X7_bits q) hC k_X7_bits ql_RX11_140 rfl (by decide) hS (fun _ q => ez_rcv q) rfl hl.1 rfl (Nat.le_of_ble_eq_true rfl) ⟨Nat.zero_le _, Nat.zero_le _⟩ dX11_twin_41 (fun t_41 H locs hS h => ?_)
      refine lv_aload_n hx hb dX11_twin_44 rfl (lv_at hl 0 rfl) ?_
      refine eg_RX11_41 hC hS h dX11_twin_45 (fun t_45 h => ?_)
      refine lv_iload hx hb dX11_twin_48 (lv_at hl 4 rfl) ?_
      refine ez_cVpi (As := [.int x4]) (rest := [.int t_41, .ref (B + t_33)]) h (fun _ q => c_X7_bits q) hC k_X7_bits ql_RX11_140 rfl (by decide) hS (fun _ q => ez_rcv q) rfl hl.1 rfl (Nat.le_of_ble_eq_true rfl) ⟨Nat.zero_le _, Nat.zero_le _⟩ dX11_twin_50 (fun t_50 H locs hS h => ?_)
      refine ez_cVpi (As := [.int t_41, .int t_50]) (rest := []) h (fun _ q => c_X6_apart q) hC k_X6_apart ql_RX11_343 rfl (by decide) hS (fun _ q => ez_rcv q) rfl hl.1 rfl (Nat.le_of_ble_eq_true rfl) ⟨Nat.zero_le _, Nat.zero_le _⟩ dX11_twin_53 (fun t_53 H locs hS h => ?_)
      refine lv_istore (lv' := [(5, .int t_53), (0, .ref (B + h0)), (1, .int x1), (2, .int x2), (3, .int x3), (4, .int x4)]) hx hb dX11_twin_56 hl (by decide) rfl (fun ls hl => ?_)
      refine lv_iload hx hb dX11_twin_58 (lv_at hl 5 rfl) ?_
      refine lv_iload_n hx hb dX11_twin_60 rfl (lv_at hl 2 rfl) ?_
      refine lv_icmp_eq (tgt := 81) hx hb dX11_twin_61 (by decide) (fun c_61 => ?_) (fun c_61 => ?_)
      · replace h := ez_ifp h c_61
        exact K_81 k_20 hk_20 h0 x1 x2 x3 x4 _ _ _ hS h (lv_sub hl [1, 2, 3, 4, 5] rfl)
      · replace h := ez_ifn h c_61
        refine lv_iload_n hx hb dX11_twin_64 rfl (lv_at hl 3 rfl) ?_
        refine lv_iconst (v := -1) hx hb dX11_twin_65 (by decide) ?_
        refine lv_icmp_eq (tgt := 75) hx hb dX11_twin_66 (by decide) (fun c_66 => ?_) (fun c_66 => ?_)
        · replace h := ez_ifp h c_66
          exact K_75 k_20 hk_20 h0 x1 x4 t_53 _ _ _ hS h (lv_sub hl [1, 2, 5, 0] rfl)
        · replace h := ez_ifn h c_66
          refine lv_iload hx hb dX11_twin_69 (lv_at hl 0 rfl) ?_
          refine lv_iload_n hx hb dX11_twin_71 rfl (lv_at hl 4 rfl) ?_
          refine lv_icmp_ge (tgt := 81) hx hb dX11_twin_72 (by decide) (fun c_72 => ?_) (fun c_72 => ?_)
          · replace h := ez_ifp h c_72
            exact K_81 k_20 hk_20 h0 x1 x2 x3 x4 _ _ _ hS h (lv_sub hl [1, 2, 3, 4, 5] rfl)
          · replace h := ez_ifn h c_72
            exact K_75 k_20 hk_20 h0 x1 x4 t_53 _ _ _ hS h (lv_sub hl [1, 2, 5, 0] rfl)
  have E_20 : ∀ (h0 : Nat) (x1 : Int32) (x2 : Int32) (x3 : Int32) (x4 : Int32) (H : Heap) (locs : List Loc) (ls : Array Slot), ez_S X B s.heap (n0) σ H locs → (ez_fix (fun _ _ _ _ _ => none) (z_X11_twin_20 σ) ez_N) h0 x1 x2 x3 x4 = some z → lv_has ls 6 [(0, .ref (B + h0)), (1, .int x1), (2, .int x2), (3, .int x3), (4, .int x4)] → W p l e R s m args below meth c H locs 0 0 Q (F0 m 20 ls []) := ez_fix_ind (fun k_20 : Nat → Int32 → Int32 → Int32 → Int32 → Option (Int32) => ∀ (h0 : Nat) (x1 : Int32) (x2 : Int32) (x3 : Int32) (x4 : Int32) (H : Heap) (locs : List Loc) (ls : Array Slot), ez_S X B s.heap (n0) σ H locs → k_20 h0 x1 x2 x3 x4 = some z → lv_has ls 6 [(0, .ref (B + h0)), (1, .int x1), (2, .int x2), (3, .int x3), (4, .int x4)] → W p l e R s m args below meth c H locs 0 0 Q (F0 m 20 ls [])) (fun _ _ _ _ _ _ _ _ _ h _ => by cases h) (fun k_20 hk_20 => K_20 k_20 hk_20) ez_N
  refine lv_aload_n hx hb dX11_twin_0 rfl (lv_at hl 0 rfl) ?_
  refine eg_RX11_29 hC hS h dX11_twin_1 (fun t_1 h => ?_)
  refine lv_iload_n hx hb dX11_twin_4 rfl (lv_at hl 1 rfl) ?_
  refine ez_cVpi (As := [.int x1]) (rest := []) h (fun _ q => c_X3_hasKey q) hC k_X3_hasKey ql_RX11_137 rfl (by decide) hS (fun _ q => ez_rcv q) rfl hl.1 rfl (Nat.le_of_ble_eq_true rfl) ⟨Nat.zero_le _, Nat.zero_le _⟩ dX11_twin_5 (fun t_5 H locs hS h => ?_)
  refine lv_if_ne (tgt := 13) hx hb dX11_twin_8 (by decide) (fun c_8 => ?_) (fun c_8 => ?_)
  · replace h := ez_ifn h c_8
    refine lv_iconst (v := -1) hx hb dX11_twin_13 (by decide) ?_
    refine lv_istore_n (lv' := [(2, .int (-1)), (0, .ref (B + h0)), (1, .int x1)]) hx hb dX11_twin_14 rfl hl (by decide) rfl (fun ls hl => ?_)
    refine lv_iconst (v := 0) hx hb dX11_twin_15 (by decide) ?_
    refine lv_istore_n (lv' := [(3, .int 0), (2, .int (-1)), (0, .ref (B + h0)), (1, .int x1)]) hx hb dX11_twin_16 rfl hl (by decide) rfl (fun ls hl => ?_)
    refine lv_iconst (v := 0) hx hb dX11_twin_17 (by decide) ?_
    refine lv_istore (lv' := [(4, .int 0), (3, .int 0), (2, .int (-1)), (0, .ref (B + h0)), (1, .int x1)]) hx hb dX11_twin_18 hl (by decide) rfl (fun ls hl => ?_)
    exact E_20  h0 x1 (-1 : Int32) (0 : Int32) (0 : Int32) _ _ _ hS h (lv_sub hl [3, 4, 2, 1, 0] rfl)
  · replace h := ez_ifp h c_8
    refine lv_iconst (v := -1) hx hb dX11_twin_11 (by decide) ?_
    exact hret _ _ _ _ _ (Option.some.inj h) rfl hS dX11_twin_12
set_option maxRecDepth 100000 in
noncomputable def z_X1_goBack (σ : ez_H) (h0 : Nat) (h1 : Nat) : Option (Int32 × ez_H) :=
  ez_bd (ez_ob σ 1 h0) fun _ =>
  ez_bd (ez_gi σ 1 h0 2) fun t_1 =>
  if (0 : Int32) < t_1 then (
  ez_bd (ez_gi σ 1 h0 2) fun t_11 =>
  ez_bd (z_X1_slot σ h0 t_11) fun t_14 =>
  ez_b2 (z_X7_copyFrom σ t_14 h1) fun _ σ =>
  ez_bd (ez_gi σ 1 h0 2) fun t_23 =>
  ez_let (t_23 - (1 : Int32)) fun t_27 =>
  ez_bd (ez_pf σ 1 h0 2 (.inl t_27)) fun σ =>
  ez_bd (ez_gi σ 1 h0 2) fun t_34 =>
  ez_bd (z_X1_slot σ h0 t_34) fun t_37 =>
  ez_b2 (z_X7_copyFrom σ h1 t_37) fun _ σ =>
  some ((1 : Int32), σ)
  ) else (
  some ((0 : Int32), σ)
  )
set_option maxHeartbeats 4000000 in
set_option maxRecDepth 100000 in
theorem c_X1_goBack {l : Launch} {X : ez_X} {B : Nat} {σ : ez_H} {h0 : Nat} {h1 : Nat} {z : Int32 × ez_H} (h : z_X1_goBack σ h0 h1 = some z) : ez_M l X B σ yX1_goBack cX1_goBack 2 (some .boolean) 2 [.ref (B + h0), .ref (B + h1)] (some (.int z.1)) z.2 := by
  refine ez_starti (z := z) (by decide) (Nat.le_of_ble_eq_true rfl) (fun p e R s m args below meth c Q hC hret hS ls hl => ?_)
  have hC : ez_C p R s m args c X B RX1 cX1_goBack 2 2 := hC
  have hx := hC.1.1
  have hb := hC.1.2.1
  have hown := hC.1.2.2.2.1
  have hts := hC.1.2.2.2.2
  have hl : lv_has ls 2 [(0, .ref (B + h0)), (1, .ref (B + h1))] := hl
  obtain ⟨σ0, eσ⟩ : ∃ σ0 : ez_H, σ0 = σ := ⟨_, rfl⟩
  rw [← eσ] at hret
  have hS : ez_S X B s.heap σ0.length σ s.heap [] := eσ ▸ hS
  obtain ⟨-, h⟩ := ez_in h
  refine lv_aload_n hx hb dX1_goBack_0 rfl (lv_at hl 0 rfl) ?_
  refine eg_RX1_20 hC hS h dX1_goBack_1 (fun t_1 h => ?_)
  refine lv_if_gt (tgt := 9) hx hb dX1_goBack_4 (by decide) (fun c_4 => ?_) (fun c_4 => ?_)
  · replace h := ez_ifp h c_4
    refine lv_aload_n hx hb dX1_goBack_9 rfl (lv_at hl 0 rfl) ?_
    refine lv_aload_n hx hb dX1_goBack_10 rfl (lv_at hl 0 rfl) ?_
    refine eg_RX1_20 hC hS h dX1_goBack_11 (fun t_11 h => ?_)
    refine ez_cVpr (As := [.int t_11]) (rest := []) h (fun _ q => c_X1_slot q) hC k_X1_slot ql_RX1_32 rfl (by decide) hS (fun _ q => ez_rcv q) rfl hl.1 rfl (Nat.le_of_ble_eq_true rfl) ⟨Nat.zero_le _, Nat.zero_le _⟩ dX1_goBack_14 (fun t_14 H locs hS h => ?_)
    refine lv_aload_n hx hb dX1_goBack_17 rfl (lv_at hl 1 rfl) ?_
    refine ez_cVv (As := [.ref (B + h1)]) (rest := []) h (fun _ q => c_X7_copyFrom q) hC k_X7_copyFrom ql_RX1_36 rfl (by decide) hS (fun _ q => ez_rcv q) rfl hl.1 rfl (Nat.le_of_ble_eq_true rfl) ⟨Nat.zero_le _, Nat.zero_le _⟩ dX1_goBack_18 (fun _ σ H locs hS h => ?_)
    refine lv_aload_n hx hb dX1_goBack_21 rfl (lv_at hl 0 rfl) ?_
    refine lv_dup hx hb dX1_goBack_22 rfl ?_
    refine eg_RX1_20 hC hS h dX1_goBack_23 (fun t_23 h => ?_)
    refine lv_iconst (v := 1) hx hb dX1_goBack_26 (by decide) ?_
    refine lv_isub hx hb dX1_goBack_27 ?_
    refine ez_top h (fun t_27 h => ?_)
    refine ep_RX1_20 hC hS h dX1_goBack_28 (fun σ H locs hS h => ?_)
    refine lv_aload_n hx hb dX1_goBack_31 rfl (lv_at hl 1 rfl) ?_
    refine lv_aload_n hx hb dX1_goBack_32 rfl (lv_at hl 0 rfl) ?_
    refine lv_aload_n hx hb dX1_goBack_33 rfl (lv_at hl 0 rfl) ?_
    refine eg_RX1_20 hC hS h dX1_goBack_34 (fun t_34 h => ?_)
    refine ez_cVpr (As := [.int t_34]) (rest := [.ref (B + h1)]) h (fun _ q => c_X1_slot q) hC k_X1_slot ql_RX1_32 rfl (by decide) hS (fun _ q => ez_rcv q) rfl hl.1 rfl (Nat.le_of_ble_eq_true rfl) ⟨Nat.zero_le _, Nat.zero_le _⟩ dX1_goBack_37 (fun t_37 H locs hS h => ?_)
    refine ez_cVv (As := [.ref (B + t_37)]) (rest := []) h (fun _ q => c_X7_copyFrom q) hC k_X7_copyFrom ql_RX1_36 rfl (by decide) hS (fun _ q => ez_rcv q) rfl hl.1 rfl (Nat.le_of_ble_eq_true rfl) ⟨Nat.zero_le _, Nat.zero_le _⟩ dX1_goBack_40 (fun _ σ H locs hS h => ?_)
    refine lv_iconst (v := 1) hx hb dX1_goBack_43 (by decide) ?_
    have hn : narrow .boolean (.int 1) = .int 1 := by decide
    exact hret _ _ _ _ _ _ (Option.some.inj h) hn hS dX1_goBack_44
  · replace h := ez_ifn h c_4
    refine lv_iconst (v := 0) hx hb dX1_goBack_7 (by decide) ?_
    have hn : narrow .boolean (.int 0) = .int 0 := by decide
    exact hret _ _ _ _ _ _ (Option.some.inj h) hn hS dX1_goBack_8
set_option maxRecDepth 100000 in
noncomputable def z_X11_undo (σ : ez_H) (h0 : Nat) : Option (Int32 × ez_H) :=
  ez_bd (ez_ob σ 11 h0) fun _ =>
  ez_bd (ez_gr σ 11 h0 7) fun t_1 =>
  ez_bd (ez_gr σ 11 h0 5) fun t_5 =>
  ez_b2 (z_X1_goBack σ t_1 t_5) fun t_8 σ =>
  ez_nr .boolean t_8 <|
  some (t_8, σ)
set_option maxHeartbeats 4000000 in
set_option maxRecDepth 100000 in
theorem c_X11_undo {l : Launch} {X : ez_X} {B : Nat} {σ : ez_H} {h0 : Nat} {z : Int32 × ez_H} (h : z_X11_undo σ h0 = some z) : ez_M l X B σ yX11_undo cX11_undo 1 (some .boolean) 3 [.ref (B + h0)] (some (.int z.1)) z.2 := by
  refine ez_starti (z := z) (by decide) (Nat.le_of_ble_eq_true rfl) (fun p e R s m args below meth c Q hC hret hS ls hl => ?_)
  have hC : ez_C p R s m args c X B RX11 cX11_undo 1 3 := hC
  have hx := hC.1.1
  have hb := hC.1.2.1
  have hown := hC.1.2.2.2.1
  have hts := hC.1.2.2.2.2
  have hl : lv_has ls 1 [(0, .ref (B + h0))] := hl
  obtain ⟨σ0, eσ⟩ : ∃ σ0 : ez_H, σ0 = σ := ⟨_, rfl⟩
  rw [← eσ] at hret
  have hS : ez_S X B s.heap σ0.length σ s.heap [] := eσ ▸ hS
  obtain ⟨-, h⟩ := ez_in h
  refine lv_aload_n hx hb dX11_undo_0 rfl (lv_at hl 0 rfl) ?_
  refine eg_RX11_51 hC hS h dX11_undo_1 (fun t_1 h => ?_)
  refine lv_aload_n hx hb dX11_undo_4 rfl (lv_at hl 0 rfl) ?_
  refine eg_RX11_41 hC hS h dX11_undo_5 (fun t_5 h => ?_)
  refine ez_cVi (As := [.ref (B + t_5)]) (rest := []) h (fun _ q => c_X1_goBack q) hC k_X1_goBack ql_RX11_294 rfl (by decide) hS (fun _ q => ez_rcv q) rfl hl.1 rfl (Nat.le_of_ble_eq_true rfl) ⟨Nat.zero_le _, Nat.zero_le _⟩ dX11_undo_8 (fun t_8 σ H locs hS h => ?_)
  obtain ⟨hn, h⟩ := ez_nr_sp rfl h
  exact hret _ _ _ _ _ _ (Option.some.inj h) hn hS dX11_undo_11
set_option maxRecDepth 100000 in
noncomputable def z_X10_takeBack_28 (σ : ez_H) : Option (Int32 × ez_H) :=
  some ((0 : Int32), σ)
set_option maxRecDepth 100000 in
noncomputable def z_X10_takeBack (σ : ez_H) (h0 : Nat) (x1 : Int32) : Option (Int32 × ez_H) :=
  ez_bd (ez_ob σ 10 h0) fun _ =>
  if x1 < (0 : Int32) then (
  z_X10_takeBack_28  σ
  ) else (
  ez_bd (ez_gi σ 10 h0 4) fun t_6 =>
  if t_6 ≤ x1 then (
  z_X10_takeBack_28  σ
  ) else (
  if (30 : Int32) ≤ x1 then (
  z_X10_takeBack_28  σ
  ) else (
  ez_bd (ez_gr σ 10 h0 3) fun t_19 =>
  ez_bd (ez_ia σ 1 t_19 x1) fun t_23 =>
  if t_23 = (-1 : Int32) then (
  ez_bd (ez_gr σ 10 h0 3) fun t_31 =>
  ez_bd (ez_gi σ 10 h0 5) fun t_36 =>
  ez_bd (ez_is σ 1 t_31 x1 t_36) fun σ =>
  some ((1 : Int32), σ)
  ) else (
  z_X10_takeBack_28  σ
  )
  )
  )
  )
set_option maxHeartbeats 4000000 in
set_option maxRecDepth 100000 in
theorem c_X10_takeBack {l : Launch} {X : ez_X} {B : Nat} {σ : ez_H} {h0 : Nat} {x1 : Int32} {z : Int32 × ez_H} (h : z_X10_takeBack σ h0 x1 = some z) : ez_M l X B σ yX10_takeBack cX10_takeBack 2 (some .boolean) 0 [.ref (B + h0), .int x1] (some (.int z.1)) z.2 := by
  refine ez_starti (z := z) (by decide) (Nat.le_of_ble_eq_true rfl) (fun p e R s m args below meth c Q hC hret hS ls hl => ?_)
  have hC : ez_C p R s m args c X B RX10 cX10_takeBack 2 0 := hC
  have hx := hC.1.1
  have hb := hC.1.2.1
  have hown := hC.1.2.2.2.1
  have hts := hC.1.2.2.2.2
  have hl : lv_has ls 2 [(0, .ref (B + h0)), (1, .int x1)] := hl
  obtain ⟨σ0, eσ⟩ : ∃ σ0 : ez_H, σ0 = σ := ⟨_, rfl⟩
  rw [← eσ] at hret
  have hS : ez_S X B s.heap σ0.length σ s.heap [] := eσ ▸ hS
  obtain ⟨-, h⟩ := ez_in h
  have K_28 : ∀ (σ : ez_H) (H : Heap) (locs : List Loc) (ls : Array Slot), ez_S X B s.heap (σ0.length) σ H locs → z_X10_takeBack_28 σ = some z → lv_has ls 2 [] → W p l e R s m args below meth c H locs 0 0 Q (F0 m 28 ls []) := by
    intro σ H locs ls hS h hl
    refine lv_iconst (v := 0) hx hb dX10_takeBack_28 (by decide) ?_
    have hn : narrow .boolean (.int 0) = .int 0 := by decide
    exact hret _ _ _ _ _ _ (Option.some.inj h) hn hS dX10_takeBack_29
  refine lv_iload_n hx hb dX10_takeBack_0 rfl (lv_at hl 1 rfl) ?_
  refine lv_if_lt (tgt := 28) hx hb dX10_takeBack_1 (by decide) (fun c_1 => ?_) (fun c_1 => ?_)
  · replace h := ez_ifp h c_1
    exact K_28  σ _ _ _ hS h (lv_sub hl [] rfl)
  · replace h := ez_ifn h c_1
    refine lv_iload_n hx hb dX10_takeBack_4 rfl (lv_at hl 1 rfl) ?_
    refine lv_aload_n hx hb dX10_takeBack_5 rfl (lv_at hl 0 rfl) ?_
    refine eg_RX10_25 hC hS h dX10_takeBack_6 (fun t_6 h => ?_)
    refine lv_icmp_ge (tgt := 28) hx hb dX10_takeBack_9 (by decide) (fun c_9 => ?_) (fun c_9 => ?_)
    · replace h := ez_ifp h c_9
      exact K_28  σ _ _ _ hS h (lv_sub hl [] rfl)
    · replace h := ez_ifn h c_9
      refine lv_iload_n hx hb dX10_takeBack_12 rfl (lv_at hl 1 rfl) ?_
      refine lv_bipush (v := 30) hx hb dX10_takeBack_13 (by decide) ?_
      refine lv_icmp_ge (tgt := 28) hx hb dX10_takeBack_15 (by decide) (fun c_15 => ?_) (fun c_15 => ?_)
      · replace h := ez_ifp h c_15
        exact K_28  σ _ _ _ hS h (lv_sub hl [] rfl)
      · replace h := ez_ifn h c_15
        refine lv_aload_n hx hb dX10_takeBack_18 rfl (lv_at hl 0 rfl) ?_
        refine eg_RX10_22 hC hS h dX10_takeBack_19 (fun t_19 h => ?_)
        refine lv_iload_n hx hb dX10_takeBack_22 rfl (lv_at hl 1 rfl) ?_
        refine ez_ial hC hS h dX10_takeBack_23 (fun t_23 h => ?_)
        refine lv_iconst (v := -1) hx hb dX10_takeBack_24 (by decide) ?_
        refine lv_icmp_eq (tgt := 30) hx hb dX10_takeBack_25 (by decide) (fun c_25 => ?_) (fun c_25 => ?_)
        · replace h := ez_ifp h c_25
          refine lv_aload_n hx hb dX10_takeBack_30 rfl (lv_at hl 0 rfl) ?_
          refine eg_RX10_22 hC hS h dX10_takeBack_31 (fun t_31 h => ?_)
          refine lv_iload_n hx hb dX10_takeBack_34 rfl (lv_at hl 1 rfl) ?_
          refine lv_aload_n hx hb dX10_takeBack_35 rfl (lv_at hl 0 rfl) ?_
          refine eg_RX10_29 hC hS h dX10_takeBack_36 (fun t_36 h => ?_)
          refine ez_ias hC hS h dX10_takeBack_39 (fun σ H locs hS h => ?_)
          refine lv_iconst (v := 1) hx hb dX10_takeBack_40 (by decide) ?_
          have hn : narrow .boolean (.int 1) = .int 1 := by decide
          exact hret _ _ _ _ _ _ (Option.some.inj h) hn hS dX10_takeBack_41
        · replace h := ez_ifn h c_25
          exact K_28  σ _ _ _ hS h (lv_sub hl [] rfl)
set_option maxRecDepth 100000 in
noncomputable def z_X11_untell (σ : ez_H) (h0 : Nat) (x1 : Int32) : Option (Int32 × ez_H) :=
  ez_bd (ez_ob σ 11 h0) fun _ =>
  ez_bd (ez_gr σ 11 h0 14) fun t_1 =>
  ez_b2 (z_X10_takeBack σ t_1 x1) fun t_5 σ =>
  ez_nr .boolean t_5 <|
  some (t_5, σ)
set_option maxHeartbeats 4000000 in
set_option maxRecDepth 100000 in
theorem c_X11_untell {l : Launch} {X : ez_X} {B : Nat} {σ : ez_H} {h0 : Nat} {x1 : Int32} {z : Int32 × ez_H} (h : z_X11_untell σ h0 x1 = some z) : ez_M l X B σ yX11_untell cX11_untell 2 (some .boolean) 1 [.ref (B + h0), .int x1] (some (.int z.1)) z.2 := by
  refine ez_starti (z := z) (by decide) (Nat.le_of_ble_eq_true rfl) (fun p e R s m args below meth c Q hC hret hS ls hl => ?_)
  have hC : ez_C p R s m args c X B RX11 cX11_untell 2 1 := hC
  have hx := hC.1.1
  have hb := hC.1.2.1
  have hown := hC.1.2.2.2.1
  have hts := hC.1.2.2.2.2
  have hl : lv_has ls 2 [(0, .ref (B + h0)), (1, .int x1)] := hl
  obtain ⟨σ0, eσ⟩ : ∃ σ0 : ez_H, σ0 = σ := ⟨_, rfl⟩
  rw [← eσ] at hret
  have hS : ez_S X B s.heap σ0.length σ s.heap [] := eσ ▸ hS
  obtain ⟨-, h⟩ := ez_in h
  refine lv_aload_n hx hb dX11_untell_0 rfl (lv_at hl 0 rfl) ?_
  refine eg_RX11_93 hC hS h dX11_untell_1 (fun t_1 h => ?_)
  refine lv_iload_n hx hb dX11_untell_4 rfl (lv_at hl 1 rfl) ?_
  refine ez_cVi (As := [.int x1]) (rest := []) h (fun _ q => c_X10_takeBack q) hC k_X10_takeBack ql_RX11_407 rfl (by decide) hS (fun _ q => ez_rcv q) rfl hl.1 rfl (Nat.le_of_ble_eq_true rfl) ⟨Nat.zero_le _, Nat.zero_le _⟩ dX11_untell_5 (fun t_5 σ H locs hS h => ?_)
  obtain ⟨hn, h⟩ := ez_nr_sp rfl h
  exact hret _ _ _ _ _ _ (Option.some.inj h) hn hS dX11_untell_8
set_option maxRecDepth 100000 in
noncomputable def z_X11_walk_22 (σ : ez_H) : Option (Int32 × ez_H) :=
  some ((-1 : Int32), σ)
set_option maxRecDepth 100000 in
noncomputable def z_X11_walk_84 (σ : ez_H) : Option (Int32 × ez_H) :=
  some ((-1 : Int32), σ)
set_option maxRecDepth 100000 in
noncomputable def z_X11_walk (σ : ez_H) (h0 : Nat) (x1 : Int32) (x2 : Int32) : Option (Int32 × ez_H) :=
  ez_bd (ez_ob σ 11 h0) fun _ =>
  ez_bd (ez_gr σ 11 h0 3) fun t_1 =>
  ez_bd (z_X3_hasPerson σ t_1 x1) fun t_5 =>
  if t_5 = (0 : Int32) then (
  z_X11_walk_22  σ
  ) else (
  ez_bd (ez_gr σ 11 h0 3) fun t_12 =>
  ez_bd (z_X3_hasDoor σ t_12 x2) fun t_16 =>
  if t_16 = (0 : Int32) then (
  z_X11_walk_22  σ
  ) else (
  ez_bd (ez_gr σ 11 h0 3) fun t_25 =>
  ez_bd (ez_gr σ 11 h0 5) fun t_30 =>
  ez_bd (z_X7_room σ t_30 x1) fun t_34 =>
  ez_bd (z_X3_otherSide σ t_25 x2 t_34) fun t_37 =>
  ez_bd (ez_gr σ 11 h0 12) fun t_42 =>
  ez_bd (ez_gr σ 11 h0 3) fun t_46 =>
  ez_bd (z_X3_doorLock σ t_46 x2) fun t_50 =>
  ez_bd (z_X2_keysFor σ t_42 t_50) fun t_53 =>
  ez_bd (ez_gr σ 11 h0 5) fun t_57 =>
  ez_bd (ez_gr σ 11 h0 3) fun t_62 =>
  ez_bd (ez_gi σ 3 t_62 3) fun t_65 =>
  ez_bd (z_X7_heldBy σ t_57 x1 t_65) fun t_68 =>
  ez_let (t_53 &&& t_68) fun t_71 =>
  if t_37 = (-1 : Int32) then (
  z_X11_walk_84  σ
  ) else (
  if t_71 = (0 : Int32) then (
  z_X11_walk_84  σ
  ) else (
  ez_bd (ez_gr σ 11 h0 7) fun t_87 =>
  ez_bd (ez_gr σ 11 h0 5) fun t_91 =>
  ez_b2 (z_X1_keep σ t_87 t_91) fun _ σ =>
  ez_bd (ez_gr σ 11 h0 5) fun t_99 =>
  ez_bd (z_J6_numberOfTrailingZeros_0f7a4 σ t_71) fun t_104 =>
  ez_b2 (z_X11_useOnce σ h0 t_99 t_104) fun _ σ =>
  ez_bd (ez_gr σ 11 h0 5) fun t_111 =>
  ez_b2 (z_X7_putRoom σ t_111 x1 t_37) fun _ σ =>
  some (t_37, σ)
  )
  )
  )
  )
set_option maxHeartbeats 4000000 in
set_option maxRecDepth 100000 in
theorem c_X11_walk {l : Launch} {X : ez_X} {B : Nat} {σ : ez_H} {h0 : Nat} {x1 : Int32} {x2 : Int32} {z : Int32 × ez_H} (h : z_X11_walk σ h0 x1 x2 = some z) : ez_M l X B σ yX11_walk cX11_walk 5 (some .int) 5 [.ref (B + h0), .int x1, .int x2] (some (.int z.1)) z.2 := by
  refine ez_starti (z := z) (by decide) (Nat.le_of_ble_eq_true rfl) (fun p e R s m args below meth c Q hC hret hS ls hl => ?_)
  have hC : ez_C p R s m args c X B RX11 cX11_walk 5 5 := hC
  have hx := hC.1.1
  have hb := hC.1.2.1
  have hown := hC.1.2.2.2.1
  have hts := hC.1.2.2.2.2
  have hl : lv_has ls 5 [(0, .ref (B + h0)), (1, .int x1), (2, .int x2)] := hl
  obtain ⟨σ0, eσ⟩ : ∃ σ0 : ez_H, σ0 = σ := ⟨_, rfl⟩
  rw [← eσ] at hret
  have hS : ez_S X B s.heap σ0.length σ s.heap [] := eσ ▸ hS
  obtain ⟨-, h⟩ := ez_in h
  have K_22 : ∀ (σ : ez_H) (H : Heap) (locs : List Loc) (ls : Array Slot), ez_S X B s.heap (σ0.length) σ H locs → z_X11_walk_22 σ = some z → lv_has ls 5 [] → W p l e R s m args below meth c H locs 0 0 Q (F0 m 22 ls []) := by
    intro σ H locs ls hS h hl
    refine lv_iconst (v := -1) hx hb dX11_walk_22 (by decide) ?_
    exact hret _ _ _ _ _ _ (Option.some.inj h) rfl hS dX11_walk_23
  have K_84 : ∀ (σ : ez_H) (H : Heap) (locs : List Loc) (ls : Array Slot), ez_S X B s.heap (σ0.length) σ H locs → z_X11_walk_84 σ = some z → lv_has ls 5 [] → W p l e R s m args below meth c H locs 0 0 Q (F0 m 84 ls []) := by
    intro σ H locs ls hS h hl
    refine lv_iconst (v := -1) hx hb dX11_walk_84 (by decide) ?_
    exact hret _ _ _ _ _ _ (Option.some.inj h) rfl hS dX11_walk_85
  refine lv_aload_n hx hb dX11_walk_0 rfl (lv_at hl 0 rfl) ?_
  refine eg_RX11_29 hC hS h dX11_walk_1 (fun t_1 h => ?_)
  refine lv_iload_n hx hb dX11_walk_4 rfl (lv_at hl 1 rfl) ?_
  refine ez_cVpi (As := [.int x1]) (rest := []) h (fun _ q => c_X3_hasPerson q) hC k_X3_hasPerson ql_RX11_200 rfl (by decide) hS (fun _ q => ez_rcv q) rfl hl.1 rfl (Nat.le_of_ble_eq_true rfl) ⟨Nat.zero_le _, Nat.zero_le _⟩ dX11_walk_5 (fun t_5 H locs hS h => ?_)
  refine lv_if_eq (tgt := 22) hx hb dX11_walk_8 (by decide) (fun c_8 => ?_) (fun c_8 => ?_)
  · replace h := ez_ifp h c_8
    exact K_22  σ _ _ _ hS h (lv_sub hl [] rfl)
  · replace h := ez_ifn h c_8
    refine lv_aload_n hx hb dX11_walk_11 rfl (lv_at hl 0 rfl) ?_
    refine eg_RX11_29 hC hS h dX11_walk_12 (fun t_12 h => ?_)
    refine lv_iload_n hx hb dX11_walk_15 rfl (lv_at hl 2 rfl) ?_
    refine ez_cVpi (As := [.int x2]) (rest := []) h (fun _ q => c_X3_hasDoor q) hC k_X3_hasDoor ql_RX11_188 rfl (by decide) hS (fun _ q => ez_rcv q) rfl hl.1 rfl (Nat.le_of_ble_eq_true rfl) ⟨Nat.zero_le _, Nat.zero_le _⟩ dX11_walk_16 (fun t_16 H locs hS h => ?_)
    refine lv_if_ne (tgt := 24) hx hb dX11_walk_19 (by decide) (fun c_19 => ?_) (fun c_19 => ?_)
    · replace h := ez_ifn h c_19
      refine lv_aload_n hx hb dX11_walk_24 rfl (lv_at hl 0 rfl) ?_
      refine eg_RX11_29 hC hS h dX11_walk_25 (fun t_25 h => ?_)
      refine lv_iload_n hx hb dX11_walk_28 rfl (lv_at hl 2 rfl) ?_
      refine lv_aload_n hx hb dX11_walk_29 rfl (lv_at hl 0 rfl) ?_
      refine eg_RX11_41 hC hS h dX11_walk_30 (fun t_30 h => ?_)
      refine lv_iload_n hx hb dX11_walk_33 rfl (lv_at hl 1 rfl) ?_
      refine ez_cVpi (As := [.int x1]) (rest := [.int x2, .ref (B + t_25)]) h (fun _ q => c_X7_room q) hC k_X7_room ql_RX11_203 rfl (by decide) hS (fun _ q => ez_rcv q) rfl hl.1 rfl (Nat.le_of_ble_eq_true rfl) ⟨Nat.zero_le _, Nat.zero_le _⟩ dX11_walk_34 (fun t_34 H locs hS h => ?_)
      refine ez_cVpi (As := [.int x2, .int t_34]) (rest := []) h (fun _ q => c_X3_otherSide q) hC k_X3_otherSide ql_RX11_219 rfl (by decide) hS (fun _ q => ez_rcv q) rfl hl.1 rfl (Nat.le_of_ble_eq_true rfl) ⟨Nat.zero_le _, Nat.zero_le _⟩ dX11_walk_37 (fun t_37 H locs hS h => ?_)
      refine lv_istore_n (lv' := [(3, .int t_37), (0, .ref (B + h0)), (1, .int x1), (2, .int x2)]) hx hb dX11_walk_40 rfl hl (by decide) rfl (fun ls hl => ?_)
      refine lv_aload_n hx hb dX11_walk_41 rfl (lv_at hl 1 rfl) ?_
      refine eg_RX11_79 hC hS h dX11_walk_42 (fun t_42 h => ?_)
      refine lv_aload_n hx hb dX11_walk_45 rfl (lv_at hl 1 rfl) ?_
      refine eg_RX11_29 hC hS h dX11_walk_46 (fun t_46 h => ?_)
      refine lv_iload_n hx hb dX11_walk_49 rfl (lv_at hl 3 rfl) ?_
      refine ez_cVpi (As := [.int x2]) (rest := [.ref (B + t_42)]) h (fun _ q => c_X3_doorLock q) hC k_X3_doorLock ql_RX11_197 rfl (by decide) hS (fun _ q => ez_rcv q) rfl hl.1 rfl (Nat.le_of_ble_eq_true rfl) ⟨Nat.zero_le _, Nat.zero_le _⟩ dX11_walk_50 (fun t_50 H locs hS h => ?_)
      refine ez_cVpi (As := [.int t_50]) (rest := []) h (fun _ q => c_X2_keysFor q) hC k_X2_keysFor ql_RX11_176 rfl (by decide) hS (fun _ q => ez_rcv q) rfl hl.1 rfl (Nat.le_of_ble_eq_true rfl) ⟨Nat.zero_le _, Nat.zero_le _⟩ dX11_walk_53 (fun t_53 H locs hS h => ?_)
      refine lv_aload_n hx hb dX11_walk_56 rfl (lv_at hl 1 rfl) ?_
      refine eg_RX11_41 hC hS h dX11_walk_57 (fun t_57 h => ?_)
      refine lv_iload_n hx hb dX11_walk_60 rfl (lv_at hl 2 rfl) ?_
      refine lv_aload_n hx hb dX11_walk_61 rfl (lv_at hl 1 rfl) ?_
      refine eg_RX11_29 hC hS h dX11_walk_62 (fun t_62 h => ?_)
      refine eg_RX11_128 hC hS h dX11_walk_65 (fun t_65 h => ?_)
      refine ez_cVpi (As := [.int x1, .int t_65]) (rest := [.int t_53]) h (fun _ q => c_X7_heldBy q) hC k_X7_heldBy ql_RX11_206 rfl (by decide) hS (fun _ q => ez_rcv q) rfl hl.1 rfl (Nat.le_of_ble_eq_true rfl) ⟨Nat.zero_le _, Nat.zero_le _⟩ dX11_walk_68 (fun t_68 H locs hS h => ?_)
      refine lv_iand hx hb dX11_walk_71 ?_
      refine ez_top h (fun t_71 h => ?_)
      refine lv_istore (lv' := [(4, .int t_71), (3, .int t_37), (0, .ref (B + h0)), (1, .int x1), (2, .int x2)]) hx hb dX11_walk_72 hl (by decide) rfl (fun ls hl => ?_)
      refine lv_iload_n hx hb dX11_walk_74 rfl (lv_at hl 1 rfl) ?_
      refine lv_iconst (v := -1) hx hb dX11_walk_75 (by decide) ?_
      refine lv_icmp_eq (tgt := 84) hx hb dX11_walk_76 (by decide) (fun c_76 => ?_) (fun c_76 => ?_)
      · replace h := ez_ifp h c_76
        exact K_84  σ _ _ _ hS h (lv_sub hl [] rfl)
      · replace h := ez_ifn h c_76
        refine lv_iload hx hb dX11_walk_79 (lv_at hl 0 rfl) ?_
        refine lv_if_ne (tgt := 86) hx hb dX11_walk_81 (by decide) (fun c_81 => ?_) (fun c_81 => ?_)
        · replace h := ez_ifn h c_81
          refine lv_aload_n hx hb dX11_walk_86 rfl (lv_at hl 2 rfl) ?_
          refine eg_RX11_51 hC hS h dX11_walk_87 (fun t_87 h => ?_)
          refine lv_aload_n hx hb dX11_walk_90 rfl (lv_at hl 2 rfl) ?_
          refine eg_RX11_41 hC hS h dX11_walk_91 (fun t_91 h => ?_)
          refine ez_cVv (As := [.ref (B + t_91)]) (rest := []) h (fun _ q => c_X1_keep q) hC k_X1_keep ql_RX11_222 rfl (by decide) hS (fun _ q => ez_rcv q) rfl hl.1 rfl (Nat.le_of_ble_eq_true rfl) ⟨Nat.zero_le _, Nat.zero_le _⟩ dX11_walk_94 (fun _ σ H locs hS h => ?_)
          refine lv_aload_n hx hb dX11_walk_97 rfl (lv_at hl 2 rfl) ?_
          refine lv_aload_n hx hb dX11_walk_98 rfl (lv_at hl 2 rfl) ?_
          refine eg_RX11_41 hC hS h dX11_walk_99 (fun t_99 h => ?_)
          refine lv_iload hx hb dX11_walk_102 (lv_at hl 0 rfl) ?_
          refine ez_cSpi (As := [.int t_71]) (rest := [.ref (B + t_99), .ref (B + h0)]) h (fun _ q => c_J6_numberOfTrailingZeros_0f7a4 q) hC k_J6_numberOfTrailingZeros_0f7a4 ql_RX11_225 rfl (by decide) hS hl.1 rfl (Nat.le_of_ble_eq_true rfl) ⟨Nat.zero_le _, Nat.zero_le _⟩ dX11_walk_104 (fun t_104 H locs hS h => ?_)
          refine ez_cVv (As := [.ref (B + t_99), .int t_104]) (rest := []) h (fun _ q => c_X11_useOnce q) hC k_X11_useOnce ql_RX11_228 rfl (by decide) hS (fun _ q => ez_rcv q) rfl hl.1 rfl (Nat.le_of_ble_eq_true rfl) ⟨Nat.zero_le _, Nat.zero_le _⟩ dX11_walk_107 (fun _ σ H locs hS h => ?_)
          refine lv_aload_n hx hb dX11_walk_110 rfl (lv_at hl 2 rfl) ?_
          refine eg_RX11_41 hC hS h dX11_walk_111 (fun t_111 h => ?_)
          refine lv_iload_n hx hb dX11_walk_114 rfl (lv_at hl 3 rfl) ?_
          refine lv_iload_n hx hb dX11_walk_115 rfl (lv_at hl 1 rfl) ?_
          refine ez_cVv (As := [.int x1, .int t_37]) (rest := []) h (fun _ q => c_X7_putRoom q) hC k_X7_putRoom ql_RX11_232 rfl (by decide) hS (fun _ q => ez_rcv q) rfl hl.1 rfl (Nat.le_of_ble_eq_true rfl) ⟨Nat.zero_le _, Nat.zero_le _⟩ dX11_walk_116 (fun _ σ H locs hS h => ?_)
          refine lv_iload_n hx hb dX11_walk_119 rfl (lv_at hl 1 rfl) ?_
          exact hret _ _ _ _ _ _ (Option.some.inj h) rfl hS dX11_walk_120
        · replace h := ez_ifp h c_81
          exact K_84  σ _ _ _ hS h (lv_sub hl [] rfl)
    · replace h := ez_ifp h c_19
      exact K_22  σ _ _ _ hS h (lv_sub hl [] rfl)
set_option maxRecDepth 100000 in
noncomputable def z_X12_deep (σ : ez_H) (h0 : Nat) : Option (Int32) :=
  ez_bd (ez_ob σ 12 h0) fun _ =>
  ez_bd (ez_gr σ 12 h0 12) fun t_1 =>
  ez_bd (ez_gi σ 12 h0 43) fun t_5 =>
  ez_bd (ez_ia σ 1 t_1 t_5) fun t_8 =>
  some t_8
set_option maxHeartbeats 4000000 in
set_option maxRecDepth 100000 in
theorem c_X12_deep {l : Launch} {X : ez_X} {B : Nat} {σ : ez_H} {h0 : Nat} {z : Int32} (h : z_X12_deep σ h0 = some z) : ez_M l X B σ yX12_deep cX12_deep 1 (some .int) 0 [.ref (B + h0)] (some (.int z)) σ := by
  refine ez_startip (z := z) (by decide) (Nat.le_of_ble_eq_true rfl) (fun p e R s m args below meth c Q hC hret hS ls hl => ?_)
  have hC : ez_C p R s m args c X B RX12 cX12_deep 1 0 := hC
  have hx := hC.1.1
  have hb := hC.1.2.1
  have hown := hC.1.2.2.2.1
  have hts := hC.1.2.2.2.2
  have hl : lv_has ls 1 [(0, .ref (B + h0))] := hl
  obtain ⟨n0, e0⟩ : ∃ n0 : Nat, n0 = σ.length := ⟨_, rfl⟩
  rw [← e0] at hret hS
  obtain ⟨-, h⟩ := ez_in h
  refine lv_aload_n hx hb dX12_deep_0 rfl (lv_at hl 0 rfl) ?_
  refine eg_RX12_24 hC hS h dX12_deep_1 (fun t_1 h => ?_)
  refine lv_aload_n hx hb dX12_deep_4 rfl (lv_at hl 0 rfl) ?_
  refine eg_RX12_274 hC hS h dX12_deep_5 (fun t_5 h => ?_)
  refine ez_ial hC hS h dX12_deep_8 (fun t_8 h => ?_)
  exact hret _ _ _ _ _ (Option.some.inj h) rfl hS dX12_deep_9
set_option maxRecDepth 100000 in
noncomputable def z_X12_wide (σ : ez_H) (h0 : Nat) : Option (Int32) :=
  ez_bd (ez_ob σ 12 h0) fun _ =>
  ez_bd (ez_gr σ 12 h0 11) fun t_1 =>
  ez_bd (ez_gi σ 12 h0 43) fun t_5 =>
  ez_bd (ez_ia σ 1 t_1 t_5) fun t_8 =>
  some t_8
set_option maxHeartbeats 4000000 in
set_option maxRecDepth 100000 in
theorem c_X12_wide {l : Launch} {X : ez_X} {B : Nat} {σ : ez_H} {h0 : Nat} {z : Int32} (h : z_X12_wide σ h0 = some z) : ez_M l X B σ yX12_wide cX12_wide 1 (some .int) 0 [.ref (B + h0)] (some (.int z)) σ := by
  refine ez_startip (z := z) (by decide) (Nat.le_of_ble_eq_true rfl) (fun p e R s m args below meth c Q hC hret hS ls hl => ?_)
  have hC : ez_C p R s m args c X B RX12 cX12_wide 1 0 := hC
  have hx := hC.1.1
  have hb := hC.1.2.1
  have hown := hC.1.2.2.2.1
  have hts := hC.1.2.2.2.2
  have hl : lv_has ls 1 [(0, .ref (B + h0))] := hl
  obtain ⟨n0, e0⟩ : ∃ n0 : Nat, n0 = σ.length := ⟨_, rfl⟩
  rw [← e0] at hret hS
  obtain ⟨-, h⟩ := ez_in h
  refine lv_aload_n hx hb dX12_wide_0 rfl (lv_at hl 0 rfl) ?_
  refine eg_RX12_20 hC hS h dX12_wide_1 (fun t_1 h => ?_)
  refine lv_aload_n hx hb dX12_wide_4 rfl (lv_at hl 0 rfl) ?_
  refine eg_RX12_274 hC hS h dX12_wide_5 (fun t_5 h => ?_)
  refine ez_ial hC hS h dX12_wide_8 (fun t_8 h => ?_)
  exact hret _ _ _ _ _ (Option.some.inj h) rfl hS dX12_wide_9
set_option maxRecDepth 100000 in
noncomputable def z_X12_about (σ : ez_H) (h0 : Nat) (x1 : Int32) : Option (Int32) :=
  ez_bd (ez_ob σ 12 h0) fun _ =>
  if x1 = 0 then (
  ez_bd (z_X12_many σ h0) fun t_81 =>
  some t_81
  ) else (
  if x1 = 1 then (
  ez_bd (z_X12_bolts σ h0) fun t_86 =>
  some t_86
  ) else (
  if x1 = 2 then (
  ez_bd (ez_gr σ 12 h0 16) fun t_91 =>
  ez_bd (ez_gi σ 12 h0 43) fun t_95 =>
  ez_bd (ez_ia σ 1 t_91 t_95) fun t_98 =>
  some t_98
  ) else (
  if x1 = 3 then (
  ez_bd (ez_gr σ 12 h0 17) fun t_101 =>
  ez_bd (ez_gi σ 12 h0 43) fun t_105 =>
  ez_bd (ez_ia σ 1 t_101 t_105) fun t_108 =>
  some t_108
  ) else (
  if x1 = 4 then (
  ez_bd (ez_gr σ 12 h0 18) fun t_111 =>
  ez_bd (ez_gi σ 12 h0 43) fun t_115 =>
  ez_bd (ez_ia σ 1 t_111 t_115) fun t_118 =>
  some t_118
  ) else (
  if x1 = 5 then (
  ez_bd (z_X12_wide σ h0) fun t_121 =>
  some t_121
  ) else (
  if x1 = 6 then (
  ez_bd (z_X12_deep σ h0) fun t_126 =>
  some t_126
  ) else (
  if x1 = 7 then (
  ez_bd (ez_gr σ 12 h0 13) fun t_131 =>
  ez_bd (ez_gi σ 12 h0 43) fun t_135 =>
  ez_bd (ez_ia σ 1 t_131 t_135) fun t_138 =>
  some t_138
  ) else (
  if x1 = 8 then (
  ez_bd (ez_gr σ 12 h0 53) fun t_141 =>
  ez_bd (ez_ia σ 1 t_141 (90 : Int32)) fun t_146 =>
  some t_146
  ) else (
  if x1 = 9 then (
  ez_bd (ez_gi σ 12 h0 60) fun t_149 =>
  some t_149
  ) else (
  if x1 = 10 then (
  ez_bd (ez_gi σ 12 h0 61) fun t_154 =>
  some t_154
  ) else (
  if x1 = 11 then (
  ez_bd (ez_gi σ 12 h0 66) fun t_159 =>
  some t_159
  ) else (
  if x1 = 12 then (
  ez_bd (ez_gi σ 12 h0 67) fun t_164 =>
  some t_164
  ) else (
  if x1 = 13 then (
  ez_bd (ez_gi σ 12 h0 2) fun t_169 =>
  some t_169
  ) else (
  if x1 = 14 then (
  ez_bd (ez_gr σ 12 h0 19) fun t_174 =>
  ez_bd (ez_gi σ 12 h0 43) fun t_178 =>
  ez_bd (ez_ia σ 1 t_174 t_178) fun t_181 =>
  some t_181
  ) else (
  if x1 = 15 then (
  ez_bd (ez_gi σ 12 h0 57) fun t_184 =>
  some t_184
  ) else (
  some (-1 : Int32)
  ))))))))))))))))
set_option maxHeartbeats 4000000 in
set_option maxRecDepth 100000 in
theorem c_X12_about {l : Launch} {X : ez_X} {B : Nat} {σ : ez_H} {h0 : Nat} {x1 : Int32} {z : Int32} (h : z_X12_about σ h0 x1 = some z) : ez_M l X B σ yX12_about cX12_about 2 (some .int) 1 [.ref (B + h0), .int x1] (some (.int z)) σ := by
  refine ez_startip (z := z) (by decide) (Nat.le_of_ble_eq_true rfl) (fun p e R s m args below meth c Q hC hret hS ls hl => ?_)
  have hC : ez_C p R s m args c X B RX12 cX12_about 2 1 := hC
  have hx := hC.1.1
  have hb := hC.1.2.1
  have hown := hC.1.2.2.2.1
  have hts := hC.1.2.2.2.2
  have hl : lv_has ls 2 [(0, .ref (B + h0)), (1, .int x1)] := hl
  obtain ⟨n0, e0⟩ : ∃ n0 : Nat, n0 = σ.length := ⟨_, rfl⟩
  rw [← e0] at hret hS
  obtain ⟨-, h⟩ := ez_in h
  refine lv_iload_n hx hb dX12_about_0 rfl (lv_at hl 1 rfl) ?_
  by_cases s_1_0 : x1 = 0
  · replace h := ez_ifp h s_1_0
    refine lv_tableIn (tgt := 80) hx hb dX12_about_1 (by rw [s_1_0]; decide) (by rw [s_1_0]; decide) (by first | (rw [s_1_0]; done) | (rw [s_1_0]; rfl)) (by decide) ?_
    refine lv_aload_n hx hb dX12_about_80 rfl (lv_at hl 0 rfl) ?_
    refine ez_cVpi (As := []) (rest := []) h (fun _ q => c_X12_many q) hC k_X12_many ql_RX12_404 rfl (by decide) hS (fun _ q => ez_rcv q) rfl hl.1 rfl (Nat.le_of_ble_eq_true rfl) ⟨Nat.zero_le _, Nat.zero_le _⟩ dX12_about_81 (fun t_81 H locs hS h => ?_)
    exact hret _ _ _ _ _ (Option.some.inj h) rfl hS dX12_about_84
  replace h := ez_ifn h s_1_0
  by_cases s_1_1 : x1 = 1
  · replace h := ez_ifp h s_1_1
    refine lv_tableIn (tgt := 85) hx hb dX12_about_1 (by rw [s_1_1]; decide) (by rw [s_1_1]; decide) (by first | (rw [s_1_1]; done) | (rw [s_1_1]; rfl)) (by decide) ?_
    refine lv_aload_n hx hb dX12_about_85 rfl (lv_at hl 0 rfl) ?_
    refine ez_cVpi (As := []) (rest := []) h (fun _ q => c_X12_bolts q) hC k_X12_bolts ql_RX12_411 rfl (by decide) hS (fun _ q => ez_rcv q) rfl hl.1 rfl (Nat.le_of_ble_eq_true rfl) ⟨Nat.zero_le _, Nat.zero_le _⟩ dX12_about_86 (fun t_86 H locs hS h => ?_)
    exact hret _ _ _ _ _ (Option.some.inj h) rfl hS dX12_about_89
  replace h := ez_ifn h s_1_1
  by_cases s_1_2 : x1 = 2
  · replace h := ez_ifp h s_1_2
    refine lv_tableIn (tgt := 90) hx hb dX12_about_1 (by rw [s_1_2]; decide) (by rw [s_1_2]; decide) (by first | (rw [s_1_2]; done) | (rw [s_1_2]; rfl)) (by decide) ?_
    refine lv_aload_n hx hb dX12_about_90 rfl (lv_at hl 0 rfl) ?_
    refine eg_RX12_36 hC hS h dX12_about_91 (fun t_91 h => ?_)
    refine lv_aload_n hx hb dX12_about_94 rfl (lv_at hl 0 rfl) ?_
    refine eg_RX12_274 hC hS h dX12_about_95 (fun t_95 h => ?_)
    refine ez_ial hC hS h dX12_about_98 (fun t_98 h => ?_)
    exact hret _ _ _ _ _ (Option.some.inj h) rfl hS dX12_about_99
  replace h := ez_ifn h s_1_2
  by_cases s_1_3 : x1 = 3
  · replace h := ez_ifp h s_1_3
    refine lv_tableIn (tgt := 100) hx hb dX12_about_1 (by rw [s_1_3]; decide) (by rw [s_1_3]; decide) (by first | (rw [s_1_3]; done) | (rw [s_1_3]; rfl)) (by decide) ?_
    refine lv_aload_n hx hb dX12_about_100 rfl (lv_at hl 0 rfl) ?_
    refine eg_RX12_39 hC hS h dX12_about_101 (fun t_101 h => ?_)
    refine lv_aload_n hx hb dX12_about_104 rfl (lv_at hl 0 rfl) ?_
    refine eg_RX12_274 hC hS h dX12_about_105 (fun t_105 h => ?_)
    refine ez_ial hC hS h dX12_about_108 (fun t_108 h => ?_)
    exact hret _ _ _ _ _ (Option.some.inj h) rfl hS dX12_about_109
  replace h := ez_ifn h s_1_3
  by_cases s_1_4 : x1 = 4
  · replace h := ez_ifp h s_1_4
    refine lv_tableIn (tgt := 110) hx hb dX12_about_1 (by rw [s_1_4]; decide) (by rw [s_1_4]; decide) (by first | (rw [s_1_4]; done) | (rw [s_1_4]; rfl)) (by decide) ?_
    refine lv_aload_n hx hb dX12_about_110 rfl (lv_at hl 0 rfl) ?_
    refine eg_RX12_42 hC hS h dX12_about_111 (fun t_111 h => ?_)
    refine lv_aload_n hx hb dX12_about_114 rfl (lv_at hl 0 rfl) ?_
    refine eg_RX12_274 hC hS h dX12_about_115 (fun t_115 h => ?_)
    refine ez_ial hC hS h dX12_about_118 (fun t_118 h => ?_)
    exact hret _ _ _ _ _ (Option.some.inj h) rfl hS dX12_about_119
  replace h := ez_ifn h s_1_4
  by_cases s_1_5 : x1 = 5
  · replace h := ez_ifp h s_1_5
    refine lv_tableIn (tgt := 120) hx hb dX12_about_1 (by rw [s_1_5]; decide) (by rw [s_1_5]; decide) (by first | (rw [s_1_5]; done) | (rw [s_1_5]; rfl)) (by decide) ?_
    refine lv_aload_n hx hb dX12_about_120 rfl (lv_at hl 0 rfl) ?_
    refine ez_cVpi (As := []) (rest := []) h (fun _ q => c_X12_wide q) hC k_X12_wide ql_RX12_414 rfl (by decide) hS (fun _ q => ez_rcv q) rfl hl.1 rfl (Nat.le_of_ble_eq_true rfl) ⟨Nat.zero_le _, Nat.zero_le _⟩ dX12_about_121 (fun t_121 H locs hS h => ?_)
    exact hret _ _ _ _ _ (Option.some.inj h) rfl hS dX12_about_124
  replace h := ez_ifn h s_1_5
  by_cases s_1_6 : x1 = 6
  · replace h := ez_ifp h s_1_6
    refine lv_tableIn (tgt := 125) hx hb dX12_about_1 (by rw [s_1_6]; decide) (by rw [s_1_6]; decide) (by first | (rw [s_1_6]; done) | (rw [s_1_6]; rfl)) (by decide) ?_
    refine lv_aload_n hx hb dX12_about_125 rfl (lv_at hl 0 rfl) ?_
    refine ez_cVpi (As := []) (rest := []) h (fun _ q => c_X12_deep q) hC k_X12_deep ql_RX12_429 rfl (by decide) hS (fun _ q => ez_rcv q) rfl hl.1 rfl (Nat.le_of_ble_eq_true rfl) ⟨Nat.zero_le _, Nat.zero_le _⟩ dX12_about_126 (fun t_126 H locs hS h => ?_)
    exact hret _ _ _ _ _ (Option.some.inj h) rfl hS dX12_about_129
  replace h := ez_ifn h s_1_6
  by_cases s_1_7 : x1 = 7
  · replace h := ez_ifp h s_1_7
    refine lv_tableIn (tgt := 130) hx hb dX12_about_1 (by rw [s_1_7]; decide) (by rw [s_1_7]; decide) (by first | (rw [s_1_7]; done) | (rw [s_1_7]; rfl)) (by decide) ?_
    refine lv_aload_n hx hb dX12_about_130 rfl (lv_at hl 0 rfl) ?_
    refine eg_RX12_27 hC hS h dX12_about_131 (fun t_131 h => ?_)
    refine lv_aload_n hx hb dX12_about_134 rfl (lv_at hl 0 rfl) ?_
    refine eg_RX12_274 hC hS h dX12_about_135 (fun t_135 h => ?_)
    refine ez_ial hC hS h dX12_about_138 (fun t_138 h => ?_)
    exact hret _ _ _ _ _ (Option.some.inj h) rfl hS dX12_about_139
  replace h := ez_ifn h s_1_7
  by_cases s_1_8 : x1 = 8
  · replace h := ez_ifp h s_1_8
    refine lv_tableIn (tgt := 140) hx hb dX12_about_1 (by rw [s_1_8]; decide) (by rw [s_1_8]; decide) (by first | (rw [s_1_8]; done) | (rw [s_1_8]; rfl)) (by decide) ?_
    refine lv_aload_n hx hb dX12_about_140 rfl (lv_at hl 0 rfl) ?_
    refine eg_RX12_118 hC hS h dX12_about_141 (fun t_141 h => ?_)
    refine lv_bipush (v := 90) hx hb dX12_about_144 (by decide) ?_
    refine ez_ial hC hS h dX12_about_146 (fun t_146 h => ?_)
    exact hret _ _ _ _ _ (Option.some.inj h) rfl hS dX12_about_147
  replace h := ez_ifn h s_1_8
  by_cases s_1_9 : x1 = 9
  · replace h := ez_ifp h s_1_9
    refine lv_tableIn (tgt := 148) hx hb dX12_about_1 (by rw [s_1_9]; decide) (by rw [s_1_9]; decide) (by first | (rw [s_1_9]; done) | (rw [s_1_9]; rfl)) (by decide) ?_
    refine lv_aload_n hx hb dX12_about_148 rfl (lv_at hl 0 rfl) ?_
    refine eg_RX12_417 hC hS h dX12_about_149 (fun t_149 h => ?_)
    exact hret _ _ _ _ _ (Option.some.inj h) rfl hS dX12_about_152
  replace h := ez_ifn h s_1_9
  by_cases s_1_10 : x1 = 10
  · replace h := ez_ifp h s_1_10
    refine lv_tableIn (tgt := 153) hx hb dX12_about_1 (by rw [s_1_10]; decide) (by rw [s_1_10]; decide) (by first | (rw [s_1_10]; done) | (rw [s_1_10]; rfl)) (by decide) ?_
    refine lv_aload_n hx hb dX12_about_153 rfl (lv_at hl 0 rfl) ?_
    refine eg_RX12_420 hC hS h dX12_about_154 (fun t_154 h => ?_)
    exact hret _ _ _ _ _ (Option.some.inj h) rfl hS dX12_about_157
  replace h := ez_ifn h s_1_10
  by_cases s_1_11 : x1 = 11
  · replace h := ez_ifp h s_1_11
    refine lv_tableIn (tgt := 158) hx hb dX12_about_1 (by rw [s_1_11]; decide) (by rw [s_1_11]; decide) (by first | (rw [s_1_11]; done) | (rw [s_1_11]; rfl)) (by decide) ?_
    refine lv_aload_n hx hb dX12_about_158 rfl (lv_at hl 0 rfl) ?_
    refine eg_RX12_423 hC hS h dX12_about_159 (fun t_159 h => ?_)
    exact hret _ _ _ _ _ (Option.some.inj h) rfl hS dX12_about_162
  replace h := ez_ifn h s_1_11
  by_cases s_1_12 : x1 = 12
  · replace h := ez_ifp h s_1_12
    refine lv_tableIn (tgt := 163) hx hb dX12_about_1 (by rw [s_1_12]; decide) (by rw [s_1_12]; decide) (by first | (rw [s_1_12]; done) | (rw [s_1_12]; rfl)) (by decide) ?_
    refine lv_aload_n hx hb dX12_about_163 rfl (lv_at hl 0 rfl) ?_
    refine eg_RX12_609 hC hS h dX12_about_164 (fun t_164 h => ?_)
    exact hret _ _ _ _ _ (Option.some.inj h) rfl hS dX12_about_167
  replace h := ez_ifn h s_1_12
  by_cases s_1_13 : x1 = 13
  · replace h := ez_ifp h s_1_13
    refine lv_tableIn (tgt := 168) hx hb dX12_about_1 (by rw [s_1_13]; decide) (by rw [s_1_13]; decide) (by first | (rw [s_1_13]; done) | (rw [s_1_13]; rfl)) (by decide) ?_
    refine lv_aload_n hx hb dX12_about_168 rfl (lv_at hl 0 rfl) ?_
    refine eg_RX12_271 hC hS h dX12_about_169 (fun t_169 h => ?_)
    exact hret _ _ _ _ _ (Option.some.inj h) rfl hS dX12_about_172
  replace h := ez_ifn h s_1_13
  by_cases s_1_14 : x1 = 14
  · replace h := ez_ifp h s_1_14
    refine lv_tableIn (tgt := 173) hx hb dX12_about_1 (by rw [s_1_14]; decide) (by rw [s_1_14]; decide) (by first | (rw [s_1_14]; done) | (rw [s_1_14]; rfl)) (by decide) ?_
    refine lv_aload_n hx hb dX12_about_173 rfl (lv_at hl 0 rfl) ?_
    refine eg_RX12_45 hC hS h dX12_about_174 (fun t_174 h => ?_)
    refine lv_aload_n hx hb dX12_about_177 rfl (lv_at hl 0 rfl) ?_
    refine eg_RX12_274 hC hS h dX12_about_178 (fun t_178 h => ?_)
    refine ez_ial hC hS h dX12_about_181 (fun t_181 h => ?_)
    exact hret _ _ _ _ _ (Option.some.inj h) rfl hS dX12_about_182
  replace h := ez_ifn h s_1_14
  by_cases s_1_15 : x1 = 15
  · replace h := ez_ifp h s_1_15
    refine lv_tableIn (tgt := 183) hx hb dX12_about_1 (by rw [s_1_15]; decide) (by rw [s_1_15]; decide) (by first | (rw [s_1_15]; done) | (rw [s_1_15]; rfl)) (by decide) ?_
    refine lv_aload_n hx hb dX12_about_183 rfl (lv_at hl 0 rfl) ?_
    refine eg_RX12_426 hC hS h dX12_about_184 (fun t_184 h => ?_)
    exact hret _ _ _ _ _ (Option.some.inj h) rfl hS dX12_about_187
  replace h := ez_ifn h s_1_15
  have w_1 : Int32.toInt x1 < 0 ∨ 15 < Int32.toInt x1 := by
    have q_0 := ez_toNe (k := 0) s_1_0 (by decide)
    have q_1 := ez_toNe (k := 1) s_1_1 (by decide)
    have q_2 := ez_toNe (k := 2) s_1_2 (by decide)
    have q_3 := ez_toNe (k := 3) s_1_3 (by decide)
    have q_4 := ez_toNe (k := 4) s_1_4 (by decide)
    have q_5 := ez_toNe (k := 5) s_1_5 (by decide)
    have q_6 := ez_toNe (k := 6) s_1_6 (by decide)
    have q_7 := ez_toNe (k := 7) s_1_7 (by decide)
    have q_8 := ez_toNe (k := 8) s_1_8 (by decide)
    have q_9 := ez_toNe (k := 9) s_1_9 (by decide)
    have q_10 := ez_toNe (k := 10) s_1_10 (by decide)
    have q_11 := ez_toNe (k := 11) s_1_11 (by decide)
    have q_12 := ez_toNe (k := 12) s_1_12 (by decide)
    have q_13 := ez_toNe (k := 13) s_1_13 (by decide)
    have q_14 := ez_toNe (k := 14) s_1_14 (by decide)
    have q_15 := ez_toNe (k := 15) s_1_15 (by decide)
    omega
  refine lv_tableOut (tgt := 188) hx hb dX12_about_1 w_1 (by decide) ?_
  refine lv_iconst (v := -1) hx hb dX12_about_188 (by decide) ?_
  exact hret _ _ _ _ _ (Option.some.inj h) rfl hS dX12_about_189
set_option maxRecDepth 100000 in
noncomputable def z_X12_isIn_15 (σ : ez_H) (y0 : Int32) : Option (Int32) :=
  ez_nr .boolean y0 <|
  some y0
set_option maxRecDepth 100000 in
noncomputable def z_X12_isIn_14 (σ : ez_H) : Option (Int32) :=
  z_X12_isIn_15 σ (0 : Int32)
set_option maxRecDepth 100000 in
noncomputable def z_X12_isIn (σ : ez_H) (x0 : Int32) (x1 : Int32) (x2 : Int32) : Option (Int32) :=
  if x0 < x1 then (
  z_X12_isIn_14 σ 
  ) else (
  if x2 < x0 then (
  z_X12_isIn_14 σ 
  ) else (
  z_X12_isIn_15 σ (1 : Int32)
  )
  )
set_option maxHeartbeats 4000000 in
set_option maxRecDepth 100000 in
theorem c_X12_isIn {l : Launch} {X : ez_X} {B : Nat} {σ : ez_H} {x0 : Int32} {x1 : Int32} {x2 : Int32} {z : Int32} (h : z_X12_isIn σ x0 x1 x2 = some z) : ez_M l X B σ yX12_isIn cX12_isIn 3 (some .boolean) 0 [.int x0, .int x1, .int x2] (some (.int z)) σ := by
  refine ez_startip (z := z) (by decide) (Nat.le_of_ble_eq_true rfl) (fun p e R s m args below meth c Q hC hret hS ls hl => ?_)
  have hC : ez_C p R s m args c X B RX12 cX12_isIn 3 0 := hC
  have hx := hC.1.1
  have hb := hC.1.2.1
  have hown := hC.1.2.2.2.1
  have hts := hC.1.2.2.2.2
  have hl : lv_has ls 3 [(0, .int x0), (1, .int x1), (2, .int x2)] := hl
  obtain ⟨n0, e0⟩ : ∃ n0 : Nat, n0 = σ.length := ⟨_, rfl⟩
  rw [← e0] at hret hS
  have K_15 : ∀ (y0 : Int32) (H : Heap) (locs : List Loc) (ls : Array Slot), ez_S X B s.heap (n0) σ H locs → z_X12_isIn_15 σ y0 = some z → lv_has ls 3 [] → W p l e R s m args below meth c H locs 0 0 Q (F0 m 15 ls [.int y0]) := by
    intro y0 H locs ls hS h hl
    obtain ⟨hn, h⟩ := ez_nr_sp rfl h
    exact hret _ _ _ _ _ (Option.some.inj h) hn hS dX12_isIn_15
  have K_14 : ∀ (H : Heap) (locs : List Loc) (ls : Array Slot), ez_S X B s.heap (n0) σ H locs → z_X12_isIn_14 σ = some z → lv_has ls 3 [] → W p l e R s m args below meth c H locs 0 0 Q (F0 m 14 ls []) := by
    intro  H locs ls hS h hl
    refine lv_iconst (v := 0) hx hb dX12_isIn_14 (by decide) ?_
    exact K_15  (0 : Int32) _ _ _ hS h (lv_sub hl [] rfl)
  refine lv_iload_n hx hb dX12_isIn_0 rfl (lv_at hl 0 rfl) ?_
  refine lv_iload_n hx hb dX12_isIn_1 rfl (lv_at hl 1 rfl) ?_
  refine lv_icmp_lt (tgt := 14) hx hb dX12_isIn_2 (by decide) (fun c_2 => ?_) (fun c_2 => ?_)
  · replace h := ez_ifp h c_2
    exact K_14   _ _ _ hS h (lv_sub hl [] rfl)
  · replace h := ez_ifn h c_2
    refine lv_iload_n hx hb dX12_isIn_5 rfl (lv_at hl 0 rfl) ?_
    refine lv_iload_n hx hb dX12_isIn_6 rfl (lv_at hl 2 rfl) ?_
    refine lv_icmp_gt (tgt := 14) hx hb dX12_isIn_7 (by decide) (fun c_7 => ?_) (fun c_7 => ?_)
    · replace h := ez_ifp h c_7
      exact K_14   _ _ _ hS h (lv_sub hl [] rfl)
    · replace h := ez_ifn h c_7
      refine lv_iconst (v := 1) hx hb dX12_isIn_10 (by decide) ?_
      refine lv_goto (tgt := 15) hx hb dX12_isIn_11 (by decide) ?_
      exact K_15  (1 : Int32) _ _ _ hS h (lv_sub hl [] rfl)
set_option maxRecDepth 100000 in
noncomputable def z_X12_power_4 (σ : ez_H) (k_4 : Int32 → Int32 → Int32 → Int32 → Option (Int32)) (x0 : Int32) (x1 : Int32) (x2 : Int32) (x3 : Int32) : Option (Int32) :=
  if x1 ≤ x3 then (
  some x2
  ) else (
  ez_let (x2 * x0) fun t_11 =>
  ez_let (x3 + 1) fun t_13 =>
  k_4 x0 x1 t_11 t_13
  )
set_option maxRecDepth 100000 in
noncomputable def z_X12_power (σ : ez_H) (x0 : Int32) (x1 : Int32) : Option (Int32) :=
  ez_fix (fun _ _ _ _ => none) (z_X12_power_4 σ) ez_N x0 x1 (1 : Int32) (0 : Int32)
set_option maxHeartbeats 4000000 in
set_option maxRecDepth 100000 in
theorem c_X12_power {l : Launch} {X : ez_X} {B : Nat} {σ : ez_H} {x0 : Int32} {x1 : Int32} {z : Int32} (h : z_X12_power σ x0 x1 = some z) : ez_M l X B σ yX12_power cX12_power 4 (some .int) 0 [.int x0, .int x1] (some (.int z)) σ := by
  refine ez_startip (z := z) (by decide) (Nat.le_of_ble_eq_true rfl) (fun p e R s m args below meth c Q hC hret hS ls hl => ?_)
  have hC : ez_C p R s m args c X B RX12 cX12_power 4 0 := hC
  have hx := hC.1.1
  have hb := hC.1.2.1
  have hown := hC.1.2.2.2.1
  have hts := hC.1.2.2.2.2
  have hl : lv_has ls 4 [(0, .int x0), (1, .int x1)] := hl
  obtain ⟨n0, e0⟩ : ∃ n0 : Nat, n0 = σ.length := ⟨_, rfl⟩
  rw [← e0] at hret hS
  have K_4 : ∀ (k_4 : Int32 → Int32 → Int32 → Int32 → Option (Int32)) (hk_4 : ∀ (x0 : Int32) (x1 : Int32) (x2 : Int32) (x3 : Int32) (H : Heap) (locs : List Loc) (ls : Array Slot), ez_S X B s.heap (n0) σ H locs → k_4 x0 x1 x2 x3 = some z → lv_has ls 4 [(0, .int x0), (1, .int x1), (2, .int x2), (3, .int x3)] → W p l e R s m args below meth c H locs 0 0 Q (F0 m 4 ls [])), ∀ (x0 : Int32) (x1 : Int32) (x2 : Int32) (x3 : Int32) (H : Heap) (locs : List Loc) (ls : Array Slot), ez_S X B s.heap (n0) σ H locs → z_X12_power_4 σ k_4 x0 x1 x2 x3 = some z → lv_has ls 4 [(0, .int x0), (1, .int x1), (2, .int x2), (3, .int x3)] → W p l e R s m args below meth c H locs 0 0 Q (F0 m 4 ls []) := by
    intro k_4 hk_4 x0 x1 x2 x3 H locs ls hS h hl
    refine lv_iload_n hx hb dX12_power_4 rfl (lv_at hl 3 rfl) ?_
    refine lv_iload_n hx hb dX12_power_5 rfl (lv_at hl 1 rfl) ?_
    refine lv_icmp_ge (tgt := 19) hx hb dX12_power_6 (by decide) (fun c_6 => ?_) (fun c_6 => ?_)
    · replace h := ez_ifp h c_6
      refine lv_iload_n hx hb dX12_power_19 rfl (lv_at hl 2 rfl) ?_
      exact hret _ _ _ _ _ (Option.some.inj h) rfl hS dX12_power_20
    · replace h := ez_ifn h c_6
      refine lv_iload_n hx hb dX12_power_9 rfl (lv_at hl 2 rfl) ?_
      refine lv_iload_n hx hb dX12_power_10 rfl (lv_at hl 0 rfl) ?_
      refine lv_imul hx hb dX12_power_11 ?_
      refine ez_top h (fun t_11 h => ?_)
      refine lv_istore_n (lv' := [(2, .int t_11), (0, .int x0), (1, .int x1), (3, .int x3)]) hx hb dX12_power_12 rfl hl (by decide) rfl (fun ls hl => ?_)
      obtain ⟨t_13, e_13, h⟩ := ez_let_sp h
      refine lv_iinc (v := t_13) (lv' := [(3, .int t_13), (2, .int t_11), (0, .int x0), (1, .int x1)]) hx hb dX12_power_13 hl (k := 3) rfl (by rw [e_13]; rfl) (by decide) rfl (fun ls hl => ?_)
      refine lv_goto (tgt := 4) hx hb dX12_power_16 (by decide) ?_
      exact hk_4 x0 x1 t_11 t_13 _ _ _ hS h (lv_sub hl [2, 3, 1, 0] rfl)
  have E_4 : ∀ (x0 : Int32) (x1 : Int32) (x2 : Int32) (x3 : Int32) (H : Heap) (locs : List Loc) (ls : Array Slot), ez_S X B s.heap (n0) σ H locs → (ez_fix (fun _ _ _ _ => none) (z_X12_power_4 σ) ez_N) x0 x1 x2 x3 = some z → lv_has ls 4 [(0, .int x0), (1, .int x1), (2, .int x2), (3, .int x3)] → W p l e R s m args below meth c H locs 0 0 Q (F0 m 4 ls []) := ez_fix_ind (fun k_4 : Int32 → Int32 → Int32 → Int32 → Option (Int32) => ∀ (x0 : Int32) (x1 : Int32) (x2 : Int32) (x3 : Int32) (H : Heap) (locs : List Loc) (ls : Array Slot), ez_S X B s.heap (n0) σ H locs → k_4 x0 x1 x2 x3 = some z → lv_has ls 4 [(0, .int x0), (1, .int x1), (2, .int x2), (3, .int x3)] → W p l e R s m args below meth c H locs 0 0 Q (F0 m 4 ls [])) (fun _ _ _ _ _ _ _ _ h _ => by cases h) (fun k_4 hk_4 => K_4 k_4 hk_4) ez_N
  refine lv_iconst (v := 1) hx hb dX12_power_0 (by decide) ?_
  refine lv_istore_n (lv' := [(2, .int 1), (0, .int x0), (1, .int x1)]) hx hb dX12_power_1 rfl hl (by decide) rfl (fun ls hl => ?_)
  refine lv_iconst (v := 0) hx hb dX12_power_2 (by decide) ?_
  refine lv_istore_n (lv' := [(3, .int 0), (2, .int 1), (0, .int x0), (1, .int x1)]) hx hb dX12_power_3 rfl hl (by decide) rfl (fun ls hl => ?_)
  exact E_4  x0 x1 (1 : Int32) (0 : Int32) _ _ _ hS h (lv_sub hl [2, 3, 1, 0] rfl)
set_option maxRecDepth 100000 in
noncomputable def z_X12_bittings (σ : ez_H) (h0 : Nat) : Option (Int32) :=
  ez_bd (ez_ob σ 12 h0) fun _ =>
  ez_bd (z_X12_deep σ h0) fun t_1 =>
  ez_bd (z_X12_wide σ h0) fun t_5 =>
  ez_bd (z_X12_power σ t_1 t_5) fun t_8 =>
  some t_8
set_option maxHeartbeats 4000000 in
set_option maxRecDepth 100000 in
theorem c_X12_bittings {l : Launch} {X : ez_X} {B : Nat} {σ : ez_H} {h0 : Nat} {z : Int32} (h : z_X12_bittings σ h0 = some z) : ez_M l X B σ yX12_bittings cX12_bittings 1 (some .int) 1 [.ref (B + h0)] (some (.int z)) σ := by
  refine ez_startip (z := z) (by decide) (Nat.le_of_ble_eq_true rfl) (fun p e R s m args below meth c Q hC hret hS ls hl => ?_)
  have hC : ez_C p R s m args c X B RX12 cX12_bittings 1 1 := hC
  have hx := hC.1.1
  have hb := hC.1.2.1
  have hown := hC.1.2.2.2.1
  have hts := hC.1.2.2.2.2
  have hl : lv_has ls 1 [(0, .ref (B + h0))] := hl
  obtain ⟨n0, e0⟩ : ∃ n0 : Nat, n0 = σ.length := ⟨_, rfl⟩
  rw [← e0] at hret hS
  obtain ⟨-, h⟩ := ez_in h
  refine lv_aload_n hx hb dX12_bittings_0 rfl (lv_at hl 0 rfl) ?_
  refine ez_cVpi (As := []) (rest := []) h (fun _ q => c_X12_deep q) hC k_X12_deep ql_RX12_429 rfl (by decide) hS (fun _ q => ez_rcv q) rfl hl.1 rfl (Nat.le_of_ble_eq_true rfl) ⟨Nat.zero_le _, Nat.zero_le _⟩ dX12_bittings_1 (fun t_1 H locs hS h => ?_)
  refine lv_aload_n hx hb dX12_bittings_4 rfl (lv_at hl 0 rfl) ?_
  refine ez_cVpi (As := []) (rest := [.int t_1]) h (fun _ q => c_X12_wide q) hC k_X12_wide ql_RX12_414 rfl (by decide) hS (fun _ q => ez_rcv q) rfl hl.1 rfl (Nat.le_of_ble_eq_true rfl) ⟨Nat.zero_le _, Nat.zero_le _⟩ dX12_bittings_5 (fun t_5 H locs hS h => ?_)
  refine ez_cSpi (As := [.int t_1, .int t_5]) (rest := []) h (fun _ q => c_X12_power q) hC k_X12_power ql_RX12_432 rfl (by decide) hS hl.1 rfl (Nat.le_of_ble_eq_true rfl) ⟨Nat.zero_le _, Nat.zero_le _⟩ dX12_bittings_8 (fun t_8 H locs hS h => ?_)
  exact hret _ _ _ _ _ (Option.some.inj h) rfl hS dX12_bittings_11
set_option maxRecDepth 100000 in
noncomputable def z_X12_absolute_10 (σ : ez_H) (y0 : Int32) : Option (Int32) :=
  some y0
set_option maxRecDepth 100000 in
noncomputable def z_X12_absolute (σ : ez_H) (x0 : Int32) : Option (Int32) :=
  if (0 : Int32) ≤ x0 then (
  z_X12_absolute_10 σ x0
  ) else (
  ez_let (-x0) fun t_5 =>
  z_X12_absolute_10 σ t_5
  )
set_option maxHeartbeats 4000000 in
set_option maxRecDepth 100000 in
theorem c_X12_absolute {l : Launch} {X : ez_X} {B : Nat} {σ : ez_H} {x0 : Int32} {z : Int32} (h : z_X12_absolute σ x0 = some z) : ez_M l X B σ yX12_absolute cX12_absolute 1 (some .int) 0 [.int x0] (some (.int z)) σ := by
  refine ez_startip (z := z) (by decide) (Nat.le_of_ble_eq_true rfl) (fun p e R s m args below meth c Q hC hret hS ls hl => ?_)
  have hC : ez_C p R s m args c X B RX12 cX12_absolute 1 0 := hC
  have hx := hC.1.1
  have hb := hC.1.2.1
  have hown := hC.1.2.2.2.1
  have hts := hC.1.2.2.2.2
  have hl : lv_has ls 1 [(0, .int x0)] := hl
  obtain ⟨n0, e0⟩ : ∃ n0 : Nat, n0 = σ.length := ⟨_, rfl⟩
  rw [← e0] at hret hS
  have K_10 : ∀ (y0 : Int32) (H : Heap) (locs : List Loc) (ls : Array Slot), ez_S X B s.heap (n0) σ H locs → z_X12_absolute_10 σ y0 = some z → lv_has ls 1 [] → W p l e R s m args below meth c H locs 0 0 Q (F0 m 10 ls [.int y0]) := by
    intro y0 H locs ls hS h hl
    exact hret _ _ _ _ _ (Option.some.inj h) rfl hS dX12_absolute_10
  refine lv_iload_n hx hb dX12_absolute_0 rfl (lv_at hl 0 rfl) ?_
  refine lv_if_ge (tgt := 9) hx hb dX12_absolute_1 (by decide) (fun c_1 => ?_) (fun c_1 => ?_)
  · replace h := ez_ifp h c_1
    refine lv_iload_n hx hb dX12_absolute_9 rfl (lv_at hl 0 rfl) ?_
    exact K_10  x0 _ _ _ hS h (lv_sub hl [] rfl)
  · replace h := ez_ifn h c_1
    refine lv_iload_n hx hb dX12_absolute_4 rfl (lv_at hl 0 rfl) ?_
    refine lv_ineg hx hb dX12_absolute_5 ?_
    refine ez_top h (fun t_5 h => ?_)
    refine lv_goto (tgt := 10) hx hb dX12_absolute_6 (by decide) ?_
    exact K_10  t_5 _ _ _ hS h (lv_sub hl [] rfl)
set_option maxRecDepth 100000 in
noncomputable def z_X12_isLegalBy_13 (σ : ez_H) (k_13 : Nat → Int32 → Int32 → Int32 → Int32 → Option (Int32)) (h0 : Nat) (x2 : Int32) (x3 : Int32) (x4 : Int32) (x5 : Int32) : Option (Int32) :=
  ez_bd (z_X12_wide σ h0) fun t_16 =>
  if t_16 ≤ x5 then (
  some (1 : Int32)
  ) else (
  ez_bd (z_X12_deep σ h0) fun t_24 =>
  ez_nz t_24 <|
  ez_let (x3 / t_24) fun t_27 =>
  ez_bd (z_X12_deep σ h0) fun t_31 =>
  ez_nz t_31 <|
  ez_let (t_27 - t_27 / t_31 * t_31) fun t_34 =>
  ez_let (t_34 - x4) fun t_37 =>
  ez_bd (z_X12_absolute σ t_37) fun t_38 =>
  if t_38 ≤ x2 then (
  ez_bd (z_X12_deep σ h0) fun t_49 =>
  ez_nz t_49 <|
  ez_let (t_27 - t_27 / t_49 * t_49) fun t_52 =>
  ez_let (x5 + 1) fun t_55 =>
  k_13 h0 x2 t_27 t_52 t_55
  ) else (
  some (0 : Int32)
  )
  )
set_option maxRecDepth 100000 in
noncomputable def z_X12_isLegalBy (σ : ez_H) (h0 : Nat) (x1 : Int32) (x2 : Int32) : Option (Int32) :=
  ez_bd (ez_ob σ 12 h0) fun _ =>
  ez_bd (z_X12_deep σ h0) fun t_4 =>
  ez_nz t_4 <|
  ez_let (x1 - x1 / t_4 * t_4) fun t_7 =>
  ez_fix (fun _ _ _ _ _ => none) (z_X12_isLegalBy_13 σ) ez_N h0 x2 x1 t_7 (1 : Int32)
set_option maxHeartbeats 4000000 in
set_option maxRecDepth 100000 in
theorem c_X12_isLegalBy {l : Launch} {X : ez_X} {B : Nat} {σ : ez_H} {h0 : Nat} {x1 : Int32} {x2 : Int32} {z : Int32} (h : z_X12_isLegalBy σ h0 x1 x2 = some z) : ez_M l X B σ yX12_isLegalBy cX12_isLegalBy 6 (some .boolean) 1 [.ref (B + h0), .int x1, .int x2] (some (.int z)) σ := by
  refine ez_startip (z := z) (by decide) (Nat.le_of_ble_eq_true rfl) (fun p e R s m args below meth c Q hC hret hS ls hl => ?_)
  have hC : ez_C p R s m args c X B RX12 cX12_isLegalBy 6 1 := hC
  have hx := hC.1.1
  have hb := hC.1.2.1
  have hown := hC.1.2.2.2.1
  have hts := hC.1.2.2.2.2
  have hl : lv_has ls 6 [(0, .ref (B + h0)), (1, .int x1), (2, .int x2)] := hl
  obtain ⟨n0, e0⟩ : ∃ n0 : Nat, n0 = σ.length := ⟨_, rfl⟩
  rw [← e0] at hret hS
  obtain ⟨-, h⟩ := ez_in h
  have K_13 : ∀ (k_13 : Nat → Int32 → Int32 → Int32 → Int32 → Option (Int32)) (hk_13 : ∀ (h0 : Nat) (x2 : Int32) (x3 : Int32) (x4 : Int32) (x5 : Int32) (H : Heap) (locs : List Loc) (ls : Array Slot), ez_S X B s.heap (n0) σ H locs → k_13 h0 x2 x3 x4 x5 = some z → lv_has ls 6 [(0, .ref (B + h0)), (2, .int x2), (3, .int x3), (4, .int x4), (5, .int x5)] → W p l e R s m args below meth c H locs 0 0 Q (F0 m 13 ls [])), ∀ (h0 : Nat) (x2 : Int32) (x3 : Int32) (x4 : Int32) (x5 : Int32) (H : Heap) (locs : List Loc) (ls : Array Slot), ez_S X B s.heap (n0) σ H locs → z_X12_isLegalBy_13 σ k_13 h0 x2 x3 x4 x5 = some z → lv_has ls 6 [(0, .ref (B + h0)), (2, .int x2), (3, .int x3), (4, .int x4), (5, .int x5)] → W p l e R s m args below meth c H locs 0 0 Q (F0 m 13 ls []) := by
    intro k_13 hk_13 h0 x2 x3 x4 x5 H locs ls hS h hl
    refine lv_iload hx hb dX12_isLegalBy_13 (lv_at hl 4 rfl) ?_
    refine lv_aload_n hx hb dX12_isLegalBy_15 rfl (lv_at hl 0 rfl) ?_
    refine ez_cVpi (As := []) (rest := [.int x5]) h (fun _ q => c_X12_wide q) hC k_X12_wide ql_RX12_414 rfl (by decide) hS (fun _ q => ez_rcv q) rfl hl.1 rfl (Nat.le_of_ble_eq_true rfl) ⟨Nat.zero_le _, Nat.zero_le _⟩ dX12_isLegalBy_16 (fun t_16 H locs hS h => ?_)
    refine lv_icmp_ge (tgt := 61) hx hb dX12_isLegalBy_19 (by decide) (fun c_19 => ?_) (fun c_19 => ?_)
    · replace h := ez_ifp h c_19
      refine lv_iconst (v := 1) hx hb dX12_isLegalBy_61 (by decide) ?_
      have hn : narrow .boolean (.int 1) = .int 1 := by decide
      exact hret _ _ _ _ _ (Option.some.inj h) hn hS dX12_isLegalBy_62
    · replace h := ez_ifn h c_19
      refine lv_iload_n hx hb dX12_isLegalBy_22 rfl (lv_at hl 2 rfl) ?_
      refine lv_aload_n hx hb dX12_isLegalBy_23 rfl (lv_at hl 0 rfl) ?_
      refine ez_cVpi (As := []) (rest := [.int x3]) h (fun _ q => c_X12_deep q) hC k_X12_deep ql_RX12_429 rfl (by decide) hS (fun _ q => ez_rcv q) rfl hl.1 rfl (Nat.le_of_ble_eq_true rfl) ⟨Nat.zero_le _, Nat.zero_le _⟩ dX12_isLegalBy_24 (fun t_24 H locs hS h => ?_)
      obtain ⟨nz_27, h⟩ := ez_nz_sp h
      refine lv_idiv hx hb dX12_isLegalBy_27 nz_27 ?_
      refine ez_top h (fun t_27 h => ?_)
      refine lv_istore_n (lv' := [(3, .int t_27), (0, .ref (B + h0)), (2, .int x2), (4, .int x4), (5, .int x5)]) hx hb dX12_isLegalBy_28 rfl hl (by decide) rfl (fun ls hl => ?_)
      refine lv_iload_n hx hb dX12_isLegalBy_29 rfl (lv_at hl 0 rfl) ?_
      refine lv_aload_n hx hb dX12_isLegalBy_30 rfl (lv_at hl 1 rfl) ?_
      refine ez_cVpi (As := []) (rest := [.int t_27]) h (fun _ q => c_X12_deep q) hC k_X12_deep ql_RX12_429 rfl (by decide) hS (fun _ q => ez_rcv q) rfl hl.1 rfl (Nat.le_of_ble_eq_true rfl) ⟨Nat.zero_le _, Nat.zero_le _⟩ dX12_isLegalBy_31 (fun t_31 H locs hS h => ?_)
      obtain ⟨nz_34, h⟩ := ez_nz_sp h
      refine lv_irem hx hb dX12_isLegalBy_34 nz_34 ?_
      refine ez_top h (fun t_34 h => ?_)
      refine lv_iload hx hb dX12_isLegalBy_35 (lv_at hl 3 rfl) ?_
      refine lv_isub hx hb dX12_isLegalBy_37 ?_
      refine ez_top h (fun t_37 h => ?_)
      refine ez_cSpi (As := [.int t_37]) (rest := []) h (fun _ q => c_X12_absolute q) hC k_X12_absolute ql_RX12_435 rfl (by decide) hS hl.1 rfl (Nat.le_of_ble_eq_true rfl) ⟨Nat.zero_le _, Nat.zero_le _⟩ dX12_isLegalBy_38 (fun t_38 H locs hS h => ?_)
      refine lv_iload_n hx hb dX12_isLegalBy_41 rfl (lv_at hl 2 rfl) ?_
      refine lv_icmp_le (tgt := 47) hx hb dX12_isLegalBy_42 (by decide) (fun c_42 => ?_) (fun c_42 => ?_)
      · replace h := ez_ifp h c_42
        refine lv_iload_n hx hb dX12_isLegalBy_47 rfl (lv_at hl 0 rfl) ?_
        refine lv_aload_n hx hb dX12_isLegalBy_48 rfl (lv_at hl 1 rfl) ?_
        refine ez_cVpi (As := []) (rest := [.int t_27]) h (fun _ q => c_X12_deep q) hC k_X12_deep ql_RX12_429 rfl (by decide) hS (fun _ q => ez_rcv q) rfl hl.1 rfl (Nat.le_of_ble_eq_true rfl) ⟨Nat.zero_le _, Nat.zero_le _⟩ dX12_isLegalBy_49 (fun t_49 H locs hS h => ?_)
        obtain ⟨nz_52, h⟩ := ez_nz_sp h
        refine lv_irem hx hb dX12_isLegalBy_52 nz_52 ?_
        refine ez_top h (fun t_52 h => ?_)
        refine lv_istore (lv' := [(4, .int t_52), (3, .int t_27), (0, .ref (B + h0)), (2, .int x2), (5, .int x5)]) hx hb dX12_isLegalBy_53 hl (by decide) rfl (fun ls hl => ?_)
        obtain ⟨t_55, e_55, h⟩ := ez_let_sp h
        refine lv_iinc (v := t_55) (lv' := [(5, .int t_55), (4, .int t_52), (3, .int t_27), (0, .ref (B + h0)), (2, .int x2)]) hx hb dX12_isLegalBy_55 hl (k := 4) rfl (by rw [e_55]; rfl) (by decide) rfl (fun ls hl => ?_)
        refine lv_goto (tgt := 13) hx hb dX12_isLegalBy_58 (by decide) ?_
        exact hk_13 h0 x2 t_27 t_52 t_55 _ _ _ hS h (lv_sub hl [3, 4, 2, 1, 0] rfl)
      · replace h := ez_ifn h c_42
        refine lv_iconst (v := 0) hx hb dX12_isLegalBy_45 (by decide) ?_
        have hn : narrow .boolean (.int 0) = .int 0 := by decide
        exact hret _ _ _ _ _ (Option.some.inj h) hn hS dX12_isLegalBy_46
  have E_13 : ∀ (h0 : Nat) (x2 : Int32) (x3 : Int32) (x4 : Int32) (x5 : Int32) (H : Heap) (locs : List Loc) (ls : Array Slot), ez_S X B s.heap (n0) σ H locs → (ez_fix (fun _ _ _ _ _ => none) (z_X12_isLegalBy_13 σ) ez_N) h0 x2 x3 x4 x5 = some z → lv_has ls 6 [(0, .ref (B + h0)), (2, .int x2), (3, .int x3), (4, .int x4), (5, .int x5)] → W p l e R s m args below meth c H locs 0 0 Q (F0 m 13 ls []) := ez_fix_ind (fun k_13 : Nat → Int32 → Int32 → Int32 → Int32 → Option (Int32) => ∀ (h0 : Nat) (x2 : Int32) (x3 : Int32) (x4 : Int32) (x5 : Int32) (H : Heap) (locs : List Loc) (ls : Array Slot), ez_S X B s.heap (n0) σ H locs → k_13 h0 x2 x3 x4 x5 = some z → lv_has ls 6 [(0, .ref (B + h0)), (2, .int x2), (3, .int x3), (4, .int x4), (5, .int x5)] → W p l e R s m args below meth c H locs 0 0 Q (F0 m 13 ls [])) (fun _ _ _ _ _ _ _ _ _ h _ => by cases h) (fun k_13 hk_13 => K_13 k_13 hk_13) ez_N
  refine lv_iload_n hx hb dX12_isLegalBy_0 rfl (lv_at hl 1 rfl) ?_
  refine lv_istore_n (lv' := [(3, .int x1), (0, .ref (B + h0)), (1, .int x1), (2, .int x2)]) hx hb dX12_isLegalBy_1 rfl hl (by decide) rfl (fun ls hl => ?_)
  refine lv_iload_n hx hb dX12_isLegalBy_2 rfl (lv_at hl 0 rfl) ?_
  refine lv_aload_n hx hb dX12_isLegalBy_3 rfl (lv_at hl 1 rfl) ?_
  refine ez_cVpi (As := []) (rest := [.int x1]) h (fun _ q => c_X12_deep q) hC k_X12_deep ql_RX12_429 rfl (by decide) hS (fun _ q => ez_rcv q) rfl hl.1 rfl (Nat.le_of_ble_eq_true rfl) ⟨Nat.zero_le _, Nat.zero_le _⟩ dX12_isLegalBy_4 (fun t_4 H locs hS h => ?_)
  obtain ⟨nz_7, h⟩ := ez_nz_sp h
  refine lv_irem hx hb dX12_isLegalBy_7 nz_7 ?_
  refine ez_top h (fun t_7 h => ?_)
  refine lv_istore (lv' := [(4, .int t_7), (3, .int x1), (0, .ref (B + h0)), (1, .int x1), (2, .int x2)]) hx hb dX12_isLegalBy_8 hl (by decide) rfl (fun ls hl => ?_)
  refine lv_iconst (v := 1) hx hb dX12_isLegalBy_10 (by decide) ?_
  refine lv_istore (lv' := [(5, .int 1), (4, .int t_7), (3, .int x1), (0, .ref (B + h0)), (1, .int x1), (2, .int x2)]) hx hb dX12_isLegalBy_11 hl (by decide) rfl (fun ls hl => ?_)
  exact E_13  h0 x2 x1 t_7 (1 : Int32) _ _ _ hS h (lv_sub hl [3, 5, 2, 1, 0] rfl)
set_option maxRecDepth 100000 in
noncomputable def z_X12_isLegal_36 (σ : ez_H) (y0 : Int32) : Option (Int32) :=
  ez_nr .boolean y0 <|
  some y0
set_option maxRecDepth 100000 in
noncomputable def z_X12_isLegal_35 (σ : ez_H) : Option (Int32) :=
  z_X12_isLegal_36 σ (0 : Int32)
set_option maxRecDepth 100000 in
noncomputable def z_X12_isLegal (σ : ez_H) (h0 : Nat) (x1 : Int32) : Option (Int32) :=
  ez_bd (ez_ob σ 12 h0) fun _ =>
  ez_bd (z_X12_bittings σ h0) fun t_3 =>
  ez_let (t_3 - (1 : Int32)) fun t_7 =>
  ez_bd (z_X12_isIn σ x1 (0 : Int32) t_7) fun t_8 =>
  if t_8 = (0 : Int32) then (
  z_X12_isLegal_35 σ 
  ) else (
  ez_bd (ez_gr σ 12 h0 13) fun t_17 =>
  ez_bd (ez_gi σ 12 h0 43) fun t_21 =>
  ez_bd (ez_ia σ 1 t_17 t_21) fun t_24 =>
  ez_bd (z_X12_isLegalBy σ h0 x1 t_24) fun t_25 =>
  if t_25 = (0 : Int32) then (
  z_X12_isLegal_35 σ 
  ) else (
  z_X12_isLegal_36 σ (1 : Int32)
  )
  )
set_option maxHeartbeats 4000000 in
set_option maxRecDepth 100000 in
theorem c_X12_isLegal {l : Launch} {X : ez_X} {B : Nat} {σ : ez_H} {h0 : Nat} {x1 : Int32} {z : Int32} (h : z_X12_isLegal σ h0 x1 = some z) : ez_M l X B σ yX12_isLegal cX12_isLegal 2 (some .boolean) 2 [.ref (B + h0), .int x1] (some (.int z)) σ := by
  refine ez_startip (z := z) (by decide) (Nat.le_of_ble_eq_true rfl) (fun p e R s m args below meth c Q hC hret hS ls hl => ?_)
  have hC : ez_C p R s m args c X B RX12 cX12_isLegal 2 2 := hC
  have hx := hC.1.1
  have hb := hC.1.2.1
  have hown := hC.1.2.2.2.1
  have hts := hC.1.2.2.2.2
  have hl : lv_has ls 2 [(0, .ref (B + h0)), (1, .int x1)] := hl
  obtain ⟨n0, e0⟩ : ∃ n0 : Nat, n0 = σ.length := ⟨_, rfl⟩
  rw [← e0] at hret hS
  obtain ⟨-, h⟩ := ez_in h
  have K_36 : ∀ (y0 : Int32) (H : Heap) (locs : List Loc) (ls : Array Slot), ez_S X B s.heap (n0) σ H locs → z_X12_isLegal_36 σ y0 = some z → lv_has ls 2 [] → W p l e R s m args below meth c H locs 0 0 Q (F0 m 36 ls [.int y0]) := by
    intro y0 H locs ls hS h hl
    obtain ⟨hn, h⟩ := ez_nr_sp rfl h
    exact hret _ _ _ _ _ (Option.some.inj h) hn hS dX12_isLegal_36
  have K_35 : ∀ (H : Heap) (locs : List Loc) (ls : Array Slot), ez_S X B s.heap (n0) σ H locs → z_X12_isLegal_35 σ = some z → lv_has ls 2 [] → W p l e R s m args below meth c H locs 0 0 Q (F0 m 35 ls []) := by
    intro  H locs ls hS h hl
    refine lv_iconst (v := 0) hx hb dX12_isLegal_35 (by decide) ?_
    exact K_36  (0 : Int32) _ _ _ hS h (lv_sub hl [] rfl)
  refine lv_iload_n hx hb dX12_isLegal_0 rfl (lv_at hl 1 rfl) ?_
  refine lv_iconst (v := 0) hx hb dX12_isLegal_1 (by decide) ?_
  refine lv_aload_n hx hb dX12_isLegal_2 rfl (lv_at hl 0 rfl) ?_
  refine ez_cVpi (As := []) (rest := [.int 0, .int x1]) h (fun _ q => c_X12_bittings q) hC k_X12_bittings ql_RX12_438 rfl (by decide) hS (fun _ q => ez_rcv q) rfl hl.1 rfl (Nat.le_of_ble_eq_true rfl) ⟨Nat.zero_le _, Nat.zero_le _⟩ dX12_isLegal_3 (fun t_3 H locs hS h => ?_)
  refine lv_iconst (v := 1) hx hb dX12_isLegal_6 (by decide) ?_
  refine lv_isub hx hb dX12_isLegal_7 ?_
  refine ez_top h (fun t_7 h => ?_)
  refine ez_cSpi (As := [.int x1, .int 0, .int t_7]) (rest := []) h (fun _ q => c_X12_isIn q) hC k_X12_isIn ql_RX12_407 rfl (by decide) hS hl.1 rfl (Nat.le_of_ble_eq_true rfl) ⟨Nat.zero_le _, Nat.zero_le _⟩ dX12_isLegal_8 (fun t_8 H locs hS h => ?_)
  refine lv_if_eq (tgt := 35) hx hb dX12_isLegal_11 (by decide) (fun c_11 => ?_) (fun c_11 => ?_)
  · replace h := ez_ifp h c_11
    exact K_35   _ _ _ hS h (lv_sub hl [] rfl)
  · replace h := ez_ifn h c_11
    refine lv_aload_n hx hb dX12_isLegal_14 rfl (lv_at hl 0 rfl) ?_
    refine lv_iload_n hx hb dX12_isLegal_15 rfl (lv_at hl 1 rfl) ?_
    refine lv_aload_n hx hb dX12_isLegal_16 rfl (lv_at hl 0 rfl) ?_
    refine eg_RX12_27 hC hS h dX12_isLegal_17 (fun t_17 h => ?_)
    refine lv_aload_n hx hb dX12_isLegal_20 rfl (lv_at hl 0 rfl) ?_
    refine eg_RX12_274 hC hS h dX12_isLegal_21 (fun t_21 h => ?_)
    refine ez_ial hC hS h dX12_isLegal_24 (fun t_24 h => ?_)
    refine ez_cVpi (As := [.int x1, .int t_24]) (rest := []) h (fun _ q => c_X12_isLegalBy q) hC k_X12_isLegalBy ql_RX12_441 rfl (by decide) hS (fun _ q => ez_rcv q) rfl hl.1 rfl (Nat.le_of_ble_eq_true rfl) ⟨Nat.zero_le _, Nat.zero_le _⟩ dX12_isLegal_25 (fun t_25 H locs hS h => ?_)
    refine lv_if_eq (tgt := 35) hx hb dX12_isLegal_28 (by decide) (fun c_28 => ?_) (fun c_28 => ?_)
    · replace h := ez_ifp h c_28
      exact K_35   _ _ _ hS h (lv_sub hl [] rfl)
    · replace h := ez_ifn h c_28
      refine lv_iconst (v := 1) hx hb dX12_isLegal_31 (by decide) ?_
      refine lv_goto (tgt := 36) hx hb dX12_isLegal_32 (by decide) ?_
      exact K_36  (1 : Int32) _ _ _ hS h (lv_sub hl [] rfl)
