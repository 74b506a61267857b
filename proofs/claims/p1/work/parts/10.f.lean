set_option maxRecDepth 100000 in
noncomputable def z_X3_hasKey_17 (σ : ez_H) (y0 : Int32) : Option (Int32) :=
  ez_nr .boolean y0 <|
  some y0
set_option maxRecDepth 100000 in
noncomputable def z_X3_hasKey_16 (σ : ez_H) : Option (Int32) :=
  z_X3_hasKey_17 σ (0 : Int32)
set_option maxRecDepth 100000 in
noncomputable def z_X3_hasKey (σ : ez_H) (h0 : Nat) (x1 : Int32) : Option (Int32) :=
  ez_bd (ez_ob σ 3 h0) fun _ =>
  if x1 < (0 : Int32) then (
  z_X3_hasKey_16 σ 
  ) else (
  ez_bd (ez_gi σ 3 h0 3) fun t_6 =>
  if t_6 ≤ x1 then (
  z_X3_hasKey_16 σ 
  ) else (
  z_X3_hasKey_17 σ (1 : Int32)
  )
  )
set_option maxHeartbeats 4000000 in
set_option maxRecDepth 100000 in
theorem c_X3_hasKey {l : Launch} {X : ez_X} {B : Nat} {σ : ez_H} {h0 : Nat} {x1 : Int32} {z : Int32} (h : z_X3_hasKey σ h0 x1 = some z) : ez_M l X B σ yX3_hasKey cX3_hasKey 2 (some .boolean) 0 [.ref (B + h0), .int x1] (some (.int z)) σ := by
  refine ez_startip (by decide) (Nat.le_of_ble_eq_true rfl) (fun p e R s m args below meth c Q hC hret hS ls hl => ?_)
  have hC : ez_C p R s m args c X B RX3 cX3_hasKey 2 0 := hC
  have hx := hC.1.1
  have hb := hC.1.2.1
  have hown := hC.1.2.2.2.1
  have hts := hC.1.2.2.2.2
  have hl : lv_has ls 2 [(0, .ref (B + h0)), (1, .int x1)] := hl
  obtain ⟨n0, e0⟩ : ∃ n0 : Nat, n0 = σ.length := ⟨_, rfl⟩
  rw [← e0] at hret hS
  obtain ⟨-, h⟩ := ez_in h
  have K_17 : ∀ (y0 : Int32) (H : Heap) (locs : List Loc) (ls : Array Slot), ez_S X B s.heap (n0) σ H locs → z_X3_hasKey_17 σ y0 = some z → lv_has ls 2 [] → W p l e R s m args below meth c H locs 0 0 Q (F0 m 17 ls [.int y0]) := by
    intro y0 H locs ls hS h hl
    obtain ⟨hn, h⟩ := ez_nr_sp rfl h
    exact hret _ _ _ _ _ (Option.some.inj h) hn hS dX3_hasKey_17
  have K_16 : ∀ (H : Heap) (locs : List Loc) (ls : Array Slot), ez_S X B s.heap (n0) σ H locs → z_X3_hasKey_16 σ = some z → lv_has ls 2 [] → W p l e R s m args below meth c H locs 0 0 Q (F0 m 16 ls []) := by
    intro  H locs ls hS h hl
    refine lv_iconst (v := 0) hx hb dX3_hasKey_16 (by decide) ?_
    exact K_17  (0 : Int32) _ _ _ hS h (lv_sub hl [] rfl)
  refine lv_iload_n hx hb dX3_hasKey_0 rfl (lv_at hl 1 rfl) ?_
  refine lv_if_lt (tgt := 16) hx hb dX3_hasKey_1 (by decide) (fun c_1 => ?_) (fun c_1 => ?_)
  · replace h := ez_ifp h c_1
    exact K_16   _ _ _ hS h (lv_sub hl [] rfl)
  · replace h := ez_ifn h c_1
    refine lv_iload_n hx hb dX3_hasKey_4 rfl (lv_at hl 1 rfl) ?_
    refine lv_aload_n hx hb dX3_hasKey_5 rfl (lv_at hl 0 rfl) ?_
    refine eg_RX3_55 hC hS h dX3_hasKey_6 (fun t_6 h => ?_)
    refine lv_icmp_ge (tgt := 16) hx hb dX3_hasKey_9 (by decide) (fun c_9 => ?_) (fun c_9 => ?_)
    · replace h := ez_ifp h c_9
      exact K_16   _ _ _ hS h (lv_sub hl [] rfl)
    · replace h := ez_ifn h c_9
      refine lv_iconst (v := 1) hx hb dX3_hasKey_12 (by decide) ?_
      refine lv_goto (tgt := 17) hx hb dX3_hasKey_13 (by decide) ?_
      exact K_17  (1 : Int32) _ _ _ hS h (lv_sub hl [] rfl)
set_option maxRecDepth 100000 in
noncomputable def z_X6_depthsAt (σ : ez_H) (x0 : Int32) (x1 : Int32) : Option (Int32) :=
  ez_let (x1 * (6 : Int32)) fun t_4 =>
  ez_let (x0 >>> (t_4 &&& 31)) fun t_5 =>
  ez_let (t_5 &&& (63 : Int32)) fun t_8 =>
  some t_8
set_option maxHeartbeats 4000000 in
set_option maxRecDepth 100000 in
theorem c_X6_depthsAt {l : Launch} {X : ez_X} {B : Nat} {σ : ez_H} {x0 : Int32} {x1 : Int32} {z : Int32} (h : z_X6_depthsAt σ x0 x1 = some z) : ez_M l X B σ yX6_depthsAt cX6_depthsAt 2 (some .int) 0 [.int x0, .int x1] (some (.int z)) σ := by
  refine ez_startip (by decide) (Nat.le_of_ble_eq_true rfl) (fun p e R s m args below meth c Q hC hret hS ls hl => ?_)
  have hC : ez_C p R s m args c X B RX6 cX6_depthsAt 2 0 := hC
  have hx := hC.1.1
  have hb := hC.1.2.1
  have hown := hC.1.2.2.2.1
  have hts := hC.1.2.2.2.2
  have hl : lv_has ls 2 [(0, .int x0), (1, .int x1)] := hl
  obtain ⟨n0, e0⟩ : ∃ n0 : Nat, n0 = σ.length := ⟨_, rfl⟩
  rw [← e0] at hret hS
  refine lv_iload_n hx hb dX6_depthsAt_0 rfl (lv_at hl 0 rfl) ?_
  refine lv_iload_n hx hb dX6_depthsAt_1 rfl (lv_at hl 1 rfl) ?_
  refine lv_bipush (v := 6) hx hb dX6_depthsAt_2 (by decide) ?_
  refine lv_imul hx hb dX6_depthsAt_4 ?_
  refine ez_top h (fun t_4 h => ?_)
  refine lv_ishr hx hb dX6_depthsAt_5 ?_
  refine ez_top h (fun t_5 h => ?_)
  refine lv_bipush (v := 63) hx hb dX6_depthsAt_6 (by decide) ?_
  refine lv_iand hx hb dX6_depthsAt_8 ?_
  refine ez_top h (fun t_8 h => ?_)
  exact hret _ _ _ _ _ (Option.some.inj h) rfl hS dX6_depthsAt_9
set_option maxRecDepth 100000 in
noncomputable def z_J6_numberOfTrailingZeros_0f7a4_74 (σ : ez_H) (x0 : Int32) (x1 : Int32) : Option (Int32) :=
  ez_let ((Int32.toUInt32 x0 >>> (Int32.toUInt32 (1 : Int32) &&& Int32.toUInt32 31)).toInt32) fun t_77 =>
  ez_let (x1 + t_77) fun t_78 =>
  some t_78
set_option maxRecDepth 100000 in
noncomputable def z_J6_numberOfTrailingZeros_0f7a4_62 (σ : ez_H) (x0 : Int32) (x1 : Int32) : Option (Int32) :=
  if x0 ≤ (4 : Int32) then (
  z_J6_numberOfTrailingZeros_0f7a4_74 σ x0 x1
  ) else (
  ez_let (x1 + 2) fun t_67 =>
  ez_let ((Int32.toUInt32 x0 >>> (Int32.toUInt32 (2 : Int32) &&& Int32.toUInt32 31)).toInt32) fun t_72 =>
  z_J6_numberOfTrailingZeros_0f7a4_74 σ t_72 t_67
  )
set_option maxRecDepth 100000 in
noncomputable def z_J6_numberOfTrailingZeros_0f7a4_49 (σ : ez_H) (x0 : Int32) (x1 : Int32) : Option (Int32) :=
  if x0 ≤ (16 : Int32) then (
  z_J6_numberOfTrailingZeros_0f7a4_62 σ x0 x1
  ) else (
  ez_let (x1 + 4) fun t_55 =>
  ez_let ((Int32.toUInt32 x0 >>> (Int32.toUInt32 (4 : Int32) &&& Int32.toUInt32 31)).toInt32) fun t_60 =>
  z_J6_numberOfTrailingZeros_0f7a4_62 σ t_60 t_55
  )
set_option maxRecDepth 100000 in
noncomputable def z_J6_numberOfTrailingZeros_0f7a4_34 (σ : ez_H) (x0 : Int32) (x1 : Int32) : Option (Int32) :=
  if x0 ≤ (256 : Int32) then (
  z_J6_numberOfTrailingZeros_0f7a4_49 σ x0 x1
  ) else (
  ez_let (x1 + 8) fun t_41 =>
  ez_let ((Int32.toUInt32 x0 >>> (Int32.toUInt32 (8 : Int32) &&& Int32.toUInt32 31)).toInt32) fun t_47 =>
  z_J6_numberOfTrailingZeros_0f7a4_49 σ t_47 t_41
  )
set_option maxRecDepth 100000 in
noncomputable def z_J6_numberOfTrailingZeros_0f7a4 (σ : ez_H) (x0 : Int32) : Option (Int32) :=
  ez_let (x0 ^^^ (-1 : Int32)) fun t_2 =>
  ez_let (x0 - (1 : Int32)) fun t_5 =>
  ez_let (t_2 &&& t_5) fun t_6 =>
  if (0 : Int32) < t_6 then (
  if t_6 ≤ (65536 : Int32) then (
  z_J6_numberOfTrailingZeros_0f7a4_34 σ t_6 (1 : Int32)
  ) else (
  ez_let ((1 : Int32) + 16) fun t_26 =>
  ez_let ((Int32.toUInt32 t_6 >>> (Int32.toUInt32 (16 : Int32) &&& Int32.toUInt32 31)).toInt32) fun t_32 =>
  z_J6_numberOfTrailingZeros_0f7a4_34 σ t_32 t_26
  )
  ) else (
  ez_let (t_6 &&& (32 : Int32)) fun t_15 =>
  some t_15
  )
set_option maxHeartbeats 4000000 in
set_option maxRecDepth 100000 in
theorem c_J6_numberOfTrailingZeros_0f7a4 {l : Launch} {X : ez_X} {B : Nat} {σ : ez_H} {x0 : Int32} {z : Int32} (h : z_J6_numberOfTrailingZeros_0f7a4 σ x0 = some z) : ez_M l X B σ yJ6_numberOfTrailingZeros_0f7a4 cJ6_numberOfTrailingZeros_0f7a4 2 (some .int) 0 [.int x0] (some (.int z)) σ := by
  refine ez_startip (by decide) (Nat.le_of_ble_eq_true rfl) (fun p e R s m args below meth c Q hC hret hS ls hl => ?_)
  have hC : ez_C p R s m args c X B RJ6 cJ6_numberOfTrailingZeros_0f7a4 2 0 := hC
  have hx := hC.1.1
  have hb := hC.1.2.1
  have hown := hC.1.2.2.2.1
  have hts := hC.1.2.2.2.2
  have hl : lv_has ls 2 [(0, .int x0)] := hl
  obtain ⟨n0, e0⟩ : ∃ n0 : Nat, n0 = σ.length := ⟨_, rfl⟩
  rw [← e0] at hret hS
  have K_74 : ∀ (x0 : Int32) (x1 : Int32) (H : Heap) (locs : List Loc) (ls : Array Slot), ez_S X B s.heap (n0) σ H locs → z_J6_numberOfTrailingZeros_0f7a4_74 σ x0 x1 = some z → lv_has ls 2 [(0, .int x0), (1, .int x1)] → W p l e R s m args below meth c H locs 0 0 Q (F0 m 74 ls []) := by
    intro x0 x1 H locs ls hS h hl
    refine lv_iload_n hx hb dJ6_numberOfTrailingZeros_0f7a4_74 rfl (lv_at hl 1 rfl) ?_
    refine lv_iload_n hx hb dJ6_numberOfTrailingZeros_0f7a4_75 rfl (lv_at hl 0 rfl) ?_
    refine lv_iconst (v := 1) hx hb dJ6_numberOfTrailingZeros_0f7a4_76 (by decide) ?_
    refine lv_iushr hx hb dJ6_numberOfTrailingZeros_0f7a4_77 rfl ?_
    refine ez_top h (fun t_77 h => ?_)
    refine lv_iadd hx hb dJ6_numberOfTrailingZeros_0f7a4_78 ?_
    refine ez_top h (fun t_78 h => ?_)
    exact hret _ _ _ _ _ (Option.some.inj h) rfl hS dJ6_numberOfTrailingZeros_0f7a4_79
  have K_62 : ∀ (x0 : Int32) (x1 : Int32) (H : Heap) (locs : List Loc) (ls : Array Slot), ez_S X B s.heap (n0) σ H locs → z_J6_numberOfTrailingZeros_0f7a4_62 σ x0 x1 = some z → lv_has ls 2 [(0, .int x0), (1, .int x1)] → W p l e R s m args below meth c H locs 0 0 Q (F0 m 62 ls []) := by
    intro x0 x1 H locs ls hS h hl
    refine lv_iload_n hx hb dJ6_numberOfTrailingZeros_0f7a4_62 rfl (lv_at hl 0 rfl) ?_
    refine lv_iconst (v := 4) hx hb dJ6_numberOfTrailingZeros_0f7a4_63 (by decide) ?_
    refine lv_icmp_le (tgt := 74) hx hb dJ6_numberOfTrailingZeros_0f7a4_64 (by decide) (fun c_64 => ?_) (fun c_64 => ?_)
    · replace h := ez_ifp h c_64
      exact K_74  x0 x1 _ _ _ hS h (lv_sub hl [0, 1] rfl)
    · replace h := ez_ifn h c_64
      obtain ⟨t_67, e_67, h⟩ := ez_let_sp h
      refine lv_iinc (v := t_67) (lv' := [(1, .int t_67), (0, .int x0)]) hx hb dJ6_numberOfTrailingZeros_0f7a4_67 hl (k := 1) rfl (by rw [e_67]; rfl) (by decide) rfl (fun ls hl => ?_)
      refine lv_iload_n hx hb dJ6_numberOfTrailingZeros_0f7a4_70 rfl (lv_at hl 1 rfl) ?_
      refine lv_iconst (v := 2) hx hb dJ6_numberOfTrailingZeros_0f7a4_71 (by decide) ?_
      refine lv_iushr hx hb dJ6_numberOfTrailingZeros_0f7a4_72 rfl ?_
      refine ez_top h (fun t_72 h => ?_)
      refine lv_istore_n (lv' := [(0, .int t_72), (1, .int t_67)]) hx hb dJ6_numberOfTrailingZeros_0f7a4_73 rfl hl (by decide) rfl (fun ls hl => ?_)
      exact K_74  t_72 t_67 _ _ _ hS h (lv_sub hl [0, 1] rfl)
  have K_49 : ∀ (x0 : Int32) (x1 : Int32) (H : Heap) (locs : List Loc) (ls : Array Slot), ez_S X B s.heap (n0) σ H locs → z_J6_numberOfTrailingZeros_0f7a4_49 σ x0 x1 = some z → lv_has ls 2 [(0, .int x0), (1, .int x1)] → W p l e R s m args below meth c H locs 0 0 Q (F0 m 49 ls []) := by
    intro x0 x1 H locs ls hS h hl
    refine lv_iload_n hx hb dJ6_numberOfTrailingZeros_0f7a4_49 rfl (lv_at hl 0 rfl) ?_
    refine lv_bipush (v := 16) hx hb dJ6_numberOfTrailingZeros_0f7a4_50 (by decide) ?_
    refine lv_icmp_le (tgt := 62) hx hb dJ6_numberOfTrailingZeros_0f7a4_52 (by decide) (fun c_52 => ?_) (fun c_52 => ?_)
    · replace h := ez_ifp h c_52
      exact K_62  x0 x1 _ _ _ hS h (lv_sub hl [0, 1] rfl)
    · replace h := ez_ifn h c_52
      obtain ⟨t_55, e_55, h⟩ := ez_let_sp h
      refine lv_iinc (v := t_55) (lv' := [(1, .int t_55), (0, .int x0)]) hx hb dJ6_numberOfTrailingZeros_0f7a4_55 hl (k := 1) rfl (by rw [e_55]; rfl) (by decide) rfl (fun ls hl => ?_)
      refine lv_iload_n hx hb dJ6_numberOfTrailingZeros_0f7a4_58 rfl (lv_at hl 1 rfl) ?_
      refine lv_iconst (v := 4) hx hb dJ6_numberOfTrailingZeros_0f7a4_59 (by decide) ?_
      refine lv_iushr hx hb dJ6_numberOfTrailingZeros_0f7a4_60 rfl ?_
      refine ez_top h (fun t_60 h => ?_)
      refine lv_istore_n (lv' := [(0, .int t_60), (1, .int t_55)]) hx hb dJ6_numberOfTrailingZeros_0f7a4_61 rfl hl (by decide) rfl (fun ls hl => ?_)
      exact K_62  t_60 t_55 _ _ _ hS h (lv_sub hl [0, 1] rfl)
  have K_34 : ∀ (x0 : Int32) (x1 : Int32) (H : Heap) (locs : List Loc) (ls : Array Slot), ez_S X B s.heap (n0) σ H locs → z_J6_numberOfTrailingZeros_0f7a4_34 σ x0 x1 = some z → lv_has ls 2 [(0, .int x0), (1, .int x1)] → W p l e R s m args below meth c H locs 0 0 Q (F0 m 34 ls []) := by
    intro x0 x1 H locs ls hS h hl
    refine lv_iload_n hx hb dJ6_numberOfTrailingZeros_0f7a4_34 rfl (lv_at hl 0 rfl) ?_
    refine lv_sipush (v := 256) hx hb dJ6_numberOfTrailingZeros_0f7a4_35 (by decide) ?_
    refine lv_icmp_le (tgt := 49) hx hb dJ6_numberOfTrailingZeros_0f7a4_38 (by decide) (fun c_38 => ?_) (fun c_38 => ?_)
    · replace h := ez_ifp h c_38
      exact K_49  x0 x1 _ _ _ hS h (lv_sub hl [0, 1] rfl)
    · replace h := ez_ifn h c_38
      obtain ⟨t_41, e_41, h⟩ := ez_let_sp h
      refine lv_iinc (v := t_41) (lv' := [(1, .int t_41), (0, .int x0)]) hx hb dJ6_numberOfTrailingZeros_0f7a4_41 hl (k := 1) rfl (by rw [e_41]; rfl) (by decide) rfl (fun ls hl => ?_)
      refine lv_iload_n hx hb dJ6_numberOfTrailingZeros_0f7a4_44 rfl (lv_at hl 1 rfl) ?_
      refine lv_bipush (v := 8) hx hb dJ6_numberOfTrailingZeros_0f7a4_45 (by decide) ?_
      refine lv_iushr hx hb dJ6_numberOfTrailingZeros_0f7a4_47 rfl ?_
      refine ez_top h (fun t_47 h => ?_)
      refine lv_istore_n (lv' := [(0, .int t_47), (1, .int t_41)]) hx hb dJ6_numberOfTrailingZeros_0f7a4_48 rfl hl (by decide) rfl (fun ls hl => ?_)
      exact K_49  t_47 t_41 _ _ _ hS h (lv_sub hl [0, 1] rfl)
  refine lv_iload_n hx hb dJ6_numberOfTrailingZeros_0f7a4_0 rfl (lv_at hl 0 rfl) ?_
  refine lv_iconst (v := -1) hx hb dJ6_numberOfTrailingZeros_0f7a4_1 (by decide) ?_
  refine lv_ixor hx hb dJ6_numberOfTrailingZeros_0f7a4_2 ?_
  refine ez_top h (fun t_2 h => ?_)
  refine lv_iload_n hx hb dJ6_numberOfTrailingZeros_0f7a4_3 rfl (lv_at hl 0 rfl) ?_
  refine lv_iconst (v := 1) hx hb dJ6_numberOfTrailingZeros_0f7a4_4 (by decide) ?_
  refine lv_isub hx hb dJ6_numberOfTrailingZeros_0f7a4_5 ?_
  refine ez_top h (fun t_5 h => ?_)
  refine lv_iand hx hb dJ6_numberOfTrailingZeros_0f7a4_6 ?_
  refine ez_top h (fun t_6 h => ?_)
  refine lv_istore_n (lv' := [(0, .int t_6)]) hx hb dJ6_numberOfTrailingZeros_0f7a4_7 rfl hl (by decide) rfl (fun ls hl => ?_)
  refine lv_iload_n hx hb dJ6_numberOfTrailingZeros_0f7a4_8 rfl (lv_at hl 0 rfl) ?_
  refine lv_if_gt (tgt := 17) hx hb dJ6_numberOfTrailingZeros_0f7a4_9 (by decide) (fun c_9 => ?_) (fun c_9 => ?_)
  · replace h := ez_ifp h c_9
    refine lv_iconst (v := 1) hx hb dJ6_numberOfTrailingZeros_0f7a4_17 (by decide) ?_
    refine lv_istore_n (lv' := [(1, .int 1), (0, .int t_6)]) hx hb dJ6_numberOfTrailingZeros_0f7a4_18 rfl hl (by decide) rfl (fun ls hl => ?_)
    refine lv_iload_n hx hb dJ6_numberOfTrailingZeros_0f7a4_19 rfl (lv_at hl 1 rfl) ?_
    refine lv_ldcw hx hb hown (hts _ qc_RJ6_264) dJ6_numberOfTrailingZeros_0f7a4_20 ?_
    refine lv_icmp_le (tgt := 34) hx hb dJ6_numberOfTrailingZeros_0f7a4_23 (by decide) (fun c_23 => ?_) (fun c_23 => ?_)
    · replace h := ez_ifp h c_23
      exact K_34  t_6 (1 : Int32) _ _ _ hS h (lv_sub hl [1, 0] rfl)
    · replace h := ez_ifn h c_23
      obtain ⟨t_26, e_26, h⟩ := ez_let_sp h
      refine lv_iinc (v := t_26) (lv' := [(1, .int t_26), (0, .int t_6)]) hx hb dJ6_numberOfTrailingZeros_0f7a4_26 hl (k := 0) rfl (by rw [e_26]; rfl) (by decide) rfl (fun ls hl => ?_)
      refine lv_iload_n hx hb dJ6_numberOfTrailingZeros_0f7a4_29 rfl (lv_at hl 1 rfl) ?_
      refine lv_bipush (v := 16) hx hb dJ6_numberOfTrailingZeros_0f7a4_30 (by decide) ?_
      refine lv_iushr hx hb dJ6_numberOfTrailingZeros_0f7a4_32 rfl ?_
      refine ez_top h (fun t_32 h => ?_)
      refine lv_istore_n (lv' := [(0, .int t_32), (1, .int t_26)]) hx hb dJ6_numberOfTrailingZeros_0f7a4_33 rfl hl (by decide) rfl (fun ls hl => ?_)
      exact K_34  t_32 t_26 _ _ _ hS h (lv_sub hl [0, 1] rfl)
  · replace h := ez_ifn h c_9
    refine lv_iload_n hx hb dJ6_numberOfTrailingZeros_0f7a4_12 rfl (lv_at hl 0 rfl) ?_
    refine lv_bipush (v := 32) hx hb dJ6_numberOfTrailingZeros_0f7a4_13 (by decide) ?_
    refine lv_iand hx hb dJ6_numberOfTrailingZeros_0f7a4_15 ?_
    refine ez_top h (fun t_15 h => ?_)
    exact hret _ _ _ _ _ (Option.some.inj h) rfl hS dJ6_numberOfTrailingZeros_0f7a4_16
set_option maxRecDepth 100000 in
noncomputable def z_X6_depthAt (σ : ez_H) (h0 : Nat) (x1 : Int32) (x2 : Int32) : Option (Int32) :=
  ez_bd (ez_ob σ 6 h0) fun _ =>
  ez_bd (z_X6_depthsAt σ x1 x2) fun t_2 =>
  ez_bd (z_J6_numberOfTrailingZeros_0f7a4 σ t_2) fun t_5 =>
  some t_5
set_option maxHeartbeats 4000000 in
set_option maxRecDepth 100000 in
theorem c_X6_depthAt {l : Launch} {X : ez_X} {B : Nat} {σ : ez_H} {h0 : Nat} {x1 : Int32} {x2 : Int32} {z : Int32} (h : z_X6_depthAt σ h0 x1 x2 = some z) : ez_M l X B σ yX6_depthAt cX6_depthAt 3 (some .int) 1 [.ref (B + h0), .int x1, .int x2] (some (.int z)) σ := by
  refine ez_startip (by decide) (Nat.le_of_ble_eq_true rfl) (fun p e R s m args below meth c Q hC hret hS ls hl => ?_)
  have hC : ez_C p R s m args c X B RX6 cX6_depthAt 3 1 := hC
  have hx := hC.1.1
  have hb := hC.1.2.1
  have hown := hC.1.2.2.2.1
  have hts := hC.1.2.2.2.2
  have hl : lv_has ls 3 [(0, .ref (B + h0)), (1, .int x1), (2, .int x2)] := hl
  obtain ⟨n0, e0⟩ : ∃ n0 : Nat, n0 = σ.length := ⟨_, rfl⟩
  rw [← e0] at hret hS
  obtain ⟨-, h⟩ := ez_in h
  refine lv_iload_n hx hb dX6_depthAt_0 rfl (lv_at hl 1 rfl) ?_
  refine lv_iload_n hx hb dX6_depthAt_1 rfl (lv_at hl 2 rfl) ?_
  refine ez_cSpi (As := [.int x1, .int x2]) (rest := []) h (fun _ q => c_X6_depthsAt q) hC k_X6_depthsAt ql_RX6_28 rfl (by decide) hS hl.1 rfl (Nat.le_of_ble_eq_true rfl) ⟨Nat.zero_le _, Nat.zero_le _⟩ dX6_depthAt_2 (fun t_2 H locs hS h => ?_)
  refine ez_cSpi (As := [.int t_2]) (rest := []) h (fun _ q => c_J6_numberOfTrailingZeros_0f7a4 q) hC k_J6_numberOfTrailingZeros_0f7a4 ql_RX6_32 rfl (by decide) hS hl.1 rfl (Nat.le_of_ble_eq_true rfl) ⟨Nat.zero_le _, Nat.zero_le _⟩ dX6_depthAt_5 (fun t_5 H locs hS h => ?_)
  exact hret _ _ _ _ _ (Option.some.inj h) rfl hS dX6_depthAt_8
set_option maxRecDepth 100000 in
noncomputable def z_X6_numberOf_10 (σ : ez_H) (k_10 : Nat → Int32 → Int32 → Int32 → Option (Int32)) (h0 : Nat) (x1 : Int32) (x2 : Int32) (x3 : Int32) : Option (Int32) :=
  ez_bd (ez_gi σ 6 h0 0) fun t_12 =>
  if t_12 ≤ x3 then (
  some x2
  ) else (
  ez_bd (ez_gi σ 6 h0 1) fun t_20 =>
  ez_let (x2 * t_20) fun t_23 =>
  ez_bd (z_X6_depthAt σ h0 x1 x3) fun t_27 =>
  ez_let (t_23 + t_27) fun t_30 =>
  ez_let (x3 + 1) fun t_32 =>
  k_10 h0 x1 t_30 t_32
  )
set_option maxRecDepth 100000 in
noncomputable def z_X6_numberOf (σ : ez_H) (h0 : Nat) (x1 : Int32) : Option (Int32) :=
  ez_bd (ez_ob σ 6 h0) fun _ =>
  if x1 = (0 : Int32) then (
  some (-1 : Int32)
  ) else (
  ez_fix (fun _ _ _ _ => none) (z_X6_numberOf_10 σ) ez_N h0 x1 (0 : Int32) (0 : Int32)
  )
set_option maxHeartbeats 4000000 in
set_option maxRecDepth 100000 in
theorem c_X6_numberOf {l : Launch} {X : ez_X} {B : Nat} {σ : ez_H} {h0 : Nat} {x1 : Int32} {z : Int32} (h : z_X6_numberOf σ h0 x1 = some z) : ez_M l X B σ yX6_numberOf cX6_numberOf 4 (some .int) 2 [.ref (B + h0), .int x1] (some (.int z)) σ := by
  refine ez_startip (by decide) (Nat.le_of_ble_eq_true rfl) (fun p e R s m args below meth c Q hC hret hS ls hl => ?_)
  have hC : ez_C p R s m args c X B RX6 cX6_numberOf 4 2 := hC
  have hx := hC.1.1
  have hb := hC.1.2.1
  have hown := hC.1.2.2.2.1
  have hts := hC.1.2.2.2.2
  have hl : lv_has ls 4 [(0, .ref (B + h0)), (1, .int x1)] := hl
  obtain ⟨n0, e0⟩ : ∃ n0 : Nat, n0 = σ.length := ⟨_, rfl⟩
  rw [← e0] at hret hS
  obtain ⟨-, h⟩ := ez_in h
  have K_10 : ∀ (k_10 : Nat → Int32 → Int32 → Int32 → Option (Int32)) (hk_10 : ∀ (h0 : Nat) (x1 : Int32) (x2 : Int32) (x3 : Int32) (H : Heap) (locs : List Loc) (ls : Array Slot), ez_S X B s.heap (n0) σ H locs → k_10 h0 x1 x2 x3 = some z → lv_has ls 4 [(0, .ref (B + h0)), (1, .int x1), (2, .int x2), (3, .int x3)] → W p l e R s m args below meth c H locs 0 0 Q (F0 m 10 ls [])), ∀ (h0 : Nat) (x1 : Int32) (x2 : Int32) (x3 : Int32) (H : Heap) (locs : List Loc) (ls : Array Slot), ez_S X B s.heap (n0) σ H locs → z_X6_numberOf_10 σ k_10 h0 x1 x2 x3 = some z → lv_has ls 4 [(0, .ref (B + h0)), (1, .int x1), (2, .int x2), (3, .int x3)] → W p l e R s m args below meth c H locs 0 0 Q (F0 m 10 ls []) := by
    intro k_10 hk_10 h0 x1 x2 x3 H locs ls hS h hl
    refine lv_iload_n hx hb dX6_numberOf_10 rfl (lv_at hl 3 rfl) ?_
    refine lv_aload_n hx hb dX6_numberOf_11 rfl (lv_at hl 0 rfl) ?_
    refine eg_RX6_18 hC hS h dX6_numberOf_12 (fun t_12 h => ?_)
    refine lv_icmp_ge (tgt := 38) hx hb dX6_numberOf_15 (by decide) (fun c_15 => ?_) (fun c_15 => ?_)
    · replace h := ez_ifp h c_15
      refine lv_iload_n hx hb dX6_numberOf_38 rfl (lv_at hl 2 rfl) ?_
      exact hret _ _ _ _ _ (Option.some.inj h) rfl hS dX6_numberOf_39
    · replace h := ez_ifn h c_15
      refine lv_iload_n hx hb dX6_numberOf_18 rfl (lv_at hl 2 rfl) ?_
      refine lv_aload_n hx hb dX6_numberOf_19 rfl (lv_at hl 0 rfl) ?_
      refine eg_RX6_22 hC hS h dX6_numberOf_20 (fun t_20 h => ?_)
      refine lv_imul hx hb dX6_numberOf_23 ?_
      refine ez_top h (fun t_23 h => ?_)
      refine lv_aload_n hx hb dX6_numberOf_24 rfl (lv_at hl 0 rfl) ?_
      refine lv_iload_n hx hb dX6_numberOf_25 rfl (lv_at hl 1 rfl) ?_
      refine lv_iload_n hx hb dX6_numberOf_26 rfl (lv_at hl 3 rfl) ?_
      refine ez_cVpi (As := [.int x1, .int x3]) (rest := [.int t_23]) h (fun _ q => c_X6_depthAt q) hC k_X6_depthAt ql_RX6_41 rfl (by decide) hS (fun _ q => ez_rcv q) rfl hl.1 rfl (Nat.le_of_ble_eq_true rfl) ⟨Nat.zero_le _, Nat.zero_le _⟩ dX6_numberOf_27 (fun t_27 H locs hS h => ?_)
      refine lv_iadd hx hb dX6_numberOf_30 ?_
      refine ez_top h (fun t_30 h => ?_)
      refine lv_istore_n (lv' := [(2, .int t_30), (0, .ref (B + h0)), (1, .int x1), (3, .int x3)]) hx hb dX6_numberOf_31 rfl hl (by decide) rfl (fun ls hl => ?_)
      obtain ⟨t_32, e_32, h⟩ := ez_let_sp h
      refine lv_iinc (v := t_32) (lv' := [(3, .int t_32), (2, .int t_30), (0, .ref (B + h0)), (1, .int x1)]) hx hb dX6_numberOf_32 hl (k := 3) rfl (by rw [e_32]; rfl) (by decide) rfl (fun ls hl => ?_)
      refine lv_goto (tgt := 10) hx hb dX6_numberOf_35 (by decide) ?_
      exact hk_10 h0 x1 t_30 t_32 _ _ _ hS h (lv_sub hl [2, 3, 1, 0] rfl)
  have E_10 : ∀ (h0 : Nat) (x1 : Int32) (x2 : Int32) (x3 : Int32) (H : Heap) (locs : List Loc) (ls : Array Slot), ez_S X B s.heap (n0) σ H locs → (ez_fix (fun _ _ _ _ => none) (z_X6_numberOf_10 σ) ez_N) h0 x1 x2 x3 = some z → lv_has ls 4 [(0, .ref (B + h0)), (1, .int x1), (2, .int x2), (3, .int x3)] → W p l e R s m args below meth c H locs 0 0 Q (F0 m 10 ls []) := ez_fix_ind (fun k_10 : Nat → Int32 → Int32 → Int32 → Option (Int32) => ∀ (h0 : Nat) (x1 : Int32) (x2 : Int32) (x3 : Int32) (H : Heap) (locs : List Loc) (ls : Array Slot), ez_S X B s.heap (n0) σ H locs → k_10 h0 x1 x2 x3 = some z → lv_has ls 4 [(0, .ref (B + h0)), (1, .int x1), (2, .int x2), (3, .int x3)] → W p l e R s m args below meth c H locs 0 0 Q (F0 m 10 ls [])) (fun _ _ _ _ _ _ _ _ h _ => by cases h) (fun k_10 hk_10 => K_10 k_10 hk_10) ez_N
  refine lv_iload_n hx hb dX6_numberOf_0 rfl (lv_at hl 1 rfl) ?_
  refine lv_if_ne (tgt := 6) hx hb dX6_numberOf_1 (by decide) (fun c_1 => ?_) (fun c_1 => ?_)
  · replace h := ez_ifn h c_1
    refine lv_iconst (v := 0) hx hb dX6_numberOf_6 (by decide) ?_
    refine lv_istore_n (lv' := [(2, .int 0), (0, .ref (B + h0)), (1, .int x1)]) hx hb dX6_numberOf_7 rfl hl (by decide) rfl (fun ls hl => ?_)
    refine lv_iconst (v := 0) hx hb dX6_numberOf_8 (by decide) ?_
    refine lv_istore_n (lv' := [(3, .int 0), (2, .int 0), (0, .ref (B + h0)), (1, .int x1)]) hx hb dX6_numberOf_9 rfl hl (by decide) rfl (fun ls hl => ?_)
    exact E_10  h0 x1 (0 : Int32) (0 : Int32) _ _ _ hS h (lv_sub hl [2, 3, 1, 0] rfl)
  · replace h := ez_ifp h c_1
    refine lv_iconst (v := -1) hx hb dX6_numberOf_4 (by decide) ?_
    exact hret _ _ _ _ _ (Option.some.inj h) rfl hS dX6_numberOf_5
set_option maxRecDepth 100000 in
noncomputable def z_X6_notch (σ : ez_H) (x0 : Int32) (x1 : Int32) : Option (Int32) :=
  ez_let (x0 * (6 : Int32)) fun t_4 =>
  ez_let (t_4 + x1) fun t_6 =>
  ez_let ((1 : Int32) <<< (t_6 &&& 31)) fun t_7 =>
  some t_7
set_option maxHeartbeats 4000000 in
set_option maxRecDepth 100000 in
theorem c_X6_notch {l : Launch} {X : ez_X} {B : Nat} {σ : ez_H} {x0 : Int32} {x1 : Int32} {z : Int32} (h : z_X6_notch σ x0 x1 = some z) : ez_M l X B σ yX6_notch cX6_notch 2 (some .int) 0 [.int x0, .int x1] (some (.int z)) σ := by
  refine ez_startip (by decide) (Nat.le_of_ble_eq_true rfl) (fun p e R s m args below meth c Q hC hret hS ls hl => ?_)
  have hC : ez_C p R s m args c X B RX6 cX6_notch 2 0 := hC
  have hx := hC.1.1
  have hb := hC.1.2.1
  have hown := hC.1.2.2.2.1
  have hts := hC.1.2.2.2.2
  have hl : lv_has ls 2 [(0, .int x0), (1, .int x1)] := hl
  obtain ⟨n0, e0⟩ : ∃ n0 : Nat, n0 = σ.length := ⟨_, rfl⟩
  rw [← e0] at hret hS
  refine lv_iconst (v := 1) hx hb dX6_notch_0 (by decide) ?_
  refine lv_iload_n hx hb dX6_notch_1 rfl (lv_at hl 0 rfl) ?_
  refine lv_bipush (v := 6) hx hb dX6_notch_2 (by decide) ?_
  refine lv_imul hx hb dX6_notch_4 ?_
  refine ez_top h (fun t_4 h => ?_)
  refine lv_iload_n hx hb dX6_notch_5 rfl (lv_at hl 1 rfl) ?_
  refine lv_iadd hx hb dX6_notch_6 ?_
  refine ez_top h (fun t_6 h => ?_)
  refine lv_ishl hx hb dX6_notch_7 ?_
  refine ez_top h (fun t_7 h => ?_)
  exact hret _ _ _ _ _ (Option.some.inj h) rfl hS dX6_notch_8
set_option maxRecDepth 100000 in
noncomputable def z_X6_onwardAt_30 (σ : ez_H) (y0 : Int32) : Option (Int32) :=
  some y0
set_option maxRecDepth 100000 in
noncomputable def z_X6_onwardAt_29 (σ : ez_H) : Option (Int32) :=
  z_X6_onwardAt_30 σ (0 : Int32)
set_option maxRecDepth 100000 in
noncomputable def z_X6_onwardAt (σ : ez_H) (h0 : Nat) (x1 : Int32) (x2 : Int32) : Option (Int32) :=
  ez_bd (ez_ob σ 6 h0) fun _ =>
  ez_let (x1 * (6 : Int32)) fun t_3 =>
  ez_let (t_3 + x2) fun t_5 =>
  if t_5 < (0 : Int32) then (
  z_X6_onwardAt_29 σ 
  ) else (
  ez_bd (ez_gr σ 6 h0 3) fun t_13 =>
  ez_bd (ez_ln σ 1 t_13) fun t_16 =>
  if t_16 ≤ t_5 then (
  z_X6_onwardAt_29 σ 
  ) else (
  ez_bd (ez_gr σ 6 h0 3) fun t_21 =>
  ez_bd (ez_ia σ 1 t_21 t_5) fun t_25 =>
  z_X6_onwardAt_30 σ t_25
  )
  )
set_option maxHeartbeats 4000000 in
set_option maxRecDepth 100000 in
theorem c_X6_onwardAt {l : Launch} {X : ez_X} {B : Nat} {σ : ez_H} {h0 : Nat} {x1 : Int32} {x2 : Int32} {z : Int32} (h : z_X6_onwardAt σ h0 x1 x2 = some z) : ez_M l X B σ yX6_onwardAt cX6_onwardAt 4 (some .int) 0 [.ref (B + h0), .int x1, .int x2] (some (.int z)) σ := by
  refine ez_startip (by decide) (Nat.le_of_ble_eq_true rfl) (fun p e R s m args below meth c Q hC hret hS ls hl => ?_)
  have hC : ez_C p R s m args c X B RX6 cX6_onwardAt 4 0 := hC
  have hx := hC.1.1
  have hb := hC.1.2.1
  have hown := hC.1.2.2.2.1
  have hts := hC.1.2.2.2.2
  have hl : lv_has ls 4 [(0, .ref (B + h0)), (1, .int x1), (2, .int x2)] := hl
  obtain ⟨n0, e0⟩ : ∃ n0 : Nat, n0 = σ.length := ⟨_, rfl⟩
  rw [← e0] at hret hS
  obtain ⟨-, h⟩ := ez_in h
  have K_30 : ∀ (y0 : Int32) (H : Heap) (locs : List Loc) (ls : Array Slot), ez_S X B s.heap (n0) σ H locs → z_X6_onwardAt_30 σ y0 = some z → lv_has ls 4 [] → W p l e R s m args below meth c H locs 0 0 Q (F0 m 30 ls [.int y0]) := by
    intro y0 H locs ls hS h hl
    exact hret _ _ _ _ _ (Option.some.inj h) rfl hS dX6_onwardAt_30
  have K_29 : ∀ (H : Heap) (locs : List Loc) (ls : Array Slot), ez_S X B s.heap (n0) σ H locs → z_X6_onwardAt_29 σ = some z → lv_has ls 4 [] → W p l e R s m args below meth c H locs 0 0 Q (F0 m 29 ls []) := by
    intro  H locs ls hS h hl
    refine lv_iconst (v := 0) hx hb dX6_onwardAt_29 (by decide) ?_
    exact K_30  (0 : Int32) _ _ _ hS h (lv_sub hl [] rfl)
  refine lv_iload_n hx hb dX6_onwardAt_0 rfl (lv_at hl 1 rfl) ?_
  refine lv_bipush (v := 6) hx hb dX6_onwardAt_1 (by decide) ?_
  refine lv_imul hx hb dX6_onwardAt_3 ?_
  refine ez_top h (fun t_3 h => ?_)
  refine lv_iload_n hx hb dX6_onwardAt_4 rfl (lv_at hl 2 rfl) ?_
  refine lv_iadd hx hb dX6_onwardAt_5 ?_
  refine ez_top h (fun t_5 h => ?_)
  refine lv_istore_n (lv' := [(3, .int t_5), (0, .ref (B + h0)), (1, .int x1), (2, .int x2)]) hx hb dX6_onwardAt_6 rfl hl (by decide) rfl (fun ls hl => ?_)
  refine lv_iload_n hx hb dX6_onwardAt_7 rfl (lv_at hl 0 rfl) ?_
  refine lv_if_lt (tgt := 29) hx hb dX6_onwardAt_8 (by decide) (fun c_8 => ?_) (fun c_8 => ?_)
  · replace h := ez_ifp h c_8
    exact K_29   _ _ _ hS h (lv_sub hl [] rfl)
  · replace h := ez_ifn h c_8
    refine lv_iload_n hx hb dX6_onwardAt_11 rfl (lv_at hl 0 rfl) ?_
    refine lv_aload_n hx hb dX6_onwardAt_12 rfl (lv_at hl 1 rfl) ?_
    refine eg_RX6_9 hC hS h dX6_onwardAt_13 (fun t_13 h => ?_)
    refine ez_lnA hC hS h dX6_onwardAt_16 (fun t_16 h => ?_)
    refine lv_icmp_ge (tgt := 29) hx hb dX6_onwardAt_17 (by decide) (fun c_17 => ?_) (fun c_17 => ?_)
    · replace h := ez_ifp h c_17
      exact K_29   _ _ _ hS h (lv_sub hl [] rfl)
    · replace h := ez_ifn h c_17
      refine lv_aload_n hx hb dX6_onwardAt_20 rfl (lv_at hl 1 rfl) ?_
      refine eg_RX6_9 hC hS h dX6_onwardAt_21 (fun t_21 h => ?_)
      refine lv_iload_n hx hb dX6_onwardAt_24 rfl (lv_at hl 0 rfl) ?_
      refine ez_ial hC hS h dX6_onwardAt_25 (fun t_25 h => ?_)
      refine lv_goto (tgt := 30) hx hb dX6_onwardAt_26 (by decide) ?_
      exact K_30  t_25 _ _ _ hS h (lv_sub hl [] rfl)
set_option maxRecDepth 100000 in
noncomputable def z_X6_waysFrom_52 (σ : ez_H) (k_18 : Nat → Int32 → Int32 → Int32 → Int32 → Int32 → Option (Int32)) (h0 : Nat) (x1 : Int32) (x2 : Int32) (x3 : Int32) (x4 : Int32) (x5 : Int32) : Option (Int32) :=
  ez_let (x5 + 1) fun t_52 =>
  k_18 h0 x1 x2 x3 x4 t_52
set_option maxRecDepth 100000 in
noncomputable def z_X6_waysFrom_18 (σ : ez_H) (k_18 : Nat → Int32 → Int32 → Int32 → Int32 → Int32 → Option (Int32)) (h0 : Nat) (x1 : Int32) (x2 : Int32) (x3 : Int32) (x4 : Int32) (x5 : Int32) : Option (Int32) :=
  ez_bd (ez_gi σ 6 h0 1) fun t_21 =>
  if t_21 ≤ x5 then (
  some x4
  ) else (
  ez_let (x5 - x2) fun t_30 =>
  ez_let (if t_30 < 0 then -t_30 else t_30) fun t_31 =>
  if x3 < t_31 then (
  z_X6_waysFrom_52 σ k_18 h0 x1 x2 x3 x4 x5
  ) else (
  ez_let (x1 + (1 : Int32)) fun t_43 =>
  ez_bd (z_X6_onwardAt σ h0 t_43 x5) fun t_46 =>
  ez_let (x4 + t_46) fun t_49 =>
  z_X6_waysFrom_52 σ k_18 h0 x1 x2 x3 t_49 x5
  )
  )
set_option maxRecDepth 100000 in
noncomputable def z_X6_waysFrom (σ : ez_H) (h0 : Nat) (x1 : Int32) (x2 : Int32) (x3 : Int32) : Option (Int32) :=
  ez_bd (ez_ob σ 6 h0) fun _ =>
  ez_let (x1 + (1 : Int32)) fun t_2 =>
  ez_bd (ez_gi σ 6 h0 0) fun t_4 =>
  if t_2 < t_4 then (
  ez_fix (fun _ _ _ _ _ _ => none) (z_X6_waysFrom_18 σ) ez_N h0 x1 x2 x3 (0 : Int32) (0 : Int32)
  ) else (
  some (1 : Int32)
  )
set_option maxHeartbeats 4000000 in
set_option maxRecDepth 100000 in
theorem c_X6_waysFrom {l : Launch} {X : ez_X} {B : Nat} {σ : ez_H} {h0 : Nat} {x1 : Int32} {x2 : Int32} {x3 : Int32} {z : Int32} (h : z_X6_waysFrom σ h0 x1 x2 x3 = some z) : ez_M l X B σ yX6_waysFrom cX6_waysFrom 6 (some .int) 1 [.ref (B + h0), .int x1, .int x2, .int x3] (some (.int z)) σ := by
  refine ez_startip (by decide) (Nat.le_of_ble_eq_true rfl) (fun p e R s m args below meth c Q hC hret hS ls hl => ?_)
  have hC : ez_C p R s m args c X B RX6 cX6_waysFrom 6 1 := hC
  have hx := hC.1.1
  have hb := hC.1.2.1
  have hown := hC.1.2.2.2.1
  have hts := hC.1.2.2.2.2
  have hl : lv_has ls 6 [(0, .ref (B + h0)), (1, .int x1), (2, .int x2), (3, .int x3)] := hl
  obtain ⟨n0, e0⟩ : ∃ n0 : Nat, n0 = σ.length := ⟨_, rfl⟩
  rw [← e0] at hret hS
  obtain ⟨-, h⟩ := ez_in h
  have K_52 : ∀ (k_18 : Nat → Int32 → Int32 → Int32 → Int32 → Int32 → Option (Int32)) (hk_18 : ∀ (h0 : Nat) (x1 : Int32) (x2 : Int32) (x3 : Int32) (x4 : Int32) (x5 : Int32) (H : Heap) (locs : List Loc) (ls : Array Slot), ez_S X B s.heap (n0) σ H locs → k_18 h0 x1 x2 x3 x4 x5 = some z → lv_has ls 6 [(0, .ref (B + h0)), (1, .int x1), (2, .int x2), (3, .int x3), (4, .int x4), (5, .int x5)] → W p l e R s m args below meth c H locs 0 0 Q (F0 m 18 ls [])), ∀ (h0 : Nat) (x1 : Int32) (x2 : Int32) (x3 : Int32) (x4 : Int32) (x5 : Int32) (H : Heap) (locs : List Loc) (ls : Array Slot), ez_S X B s.heap (n0) σ H locs → z_X6_waysFrom_52 σ k_18 h0 x1 x2 x3 x4 x5 = some z → lv_has ls 6 [(0, .ref (B + h0)), (1, .int x1), (2, .int x2), (3, .int x3), (4, .int x4), (5, .int x5)] → W p l e R s m args below meth c H locs 0 0 Q (F0 m 52 ls []) := by
    intro k_18 hk_18 h0 x1 x2 x3 x4 x5 H locs ls hS h hl
    obtain ⟨t_52, e_52, h⟩ := ez_let_sp h
    refine lv_iinc (v := t_52) (lv' := [(5, .int t_52), (0, .ref (B + h0)), (1, .int x1), (2, .int x2), (3, .int x3), (4, .int x4)]) hx hb dX6_waysFrom_52 hl (k := 5) rfl (by rw [e_52]; rfl) (by decide) rfl (fun ls hl => ?_)
    refine lv_goto (tgt := 18) hx hb dX6_waysFrom_55 (by decide) ?_
    exact hk_18 h0 x1 x2 x3 x4 t_52 _ _ _ hS h (lv_sub hl [1, 2, 3, 4, 5, 0] rfl)
  have K_18 : ∀ (k_18 : Nat → Int32 → Int32 → Int32 → Int32 → Int32 → Option (Int32)) (hk_18 : ∀ (h0 : Nat) (x1 : Int32) (x2 : Int32) (x3 : Int32) (x4 : Int32) (x5 : Int32) (H : Heap) (locs : List Loc) (ls : Array Slot), ez_S X B s.heap (n0) σ H locs → k_18 h0 x1 x2 x3 x4 x5 = some z → lv_has ls 6 [(0, .ref (B + h0)), (1, .int x1), (2, .int x2), (3, .int x3), (4, .int x4), (5, .int x5)] → W p l e R s m args below meth c H locs 0 0 Q (F0 m 18 ls [])), ∀ (h0 : Nat) (x1 : Int32) (x2 : Int32) (x3 : Int32) (x4 : Int32) (x5 : Int32) (H : Heap) (locs : List Loc) (ls : Array Slot), ez_S X B s.heap (n0) σ H locs → z_X6_waysFrom_18 σ k_18 h0 x1 x2 x3 x4 x5 = some z → lv_has ls 6 [(0, .ref (B + h0)), (1, .int x1), (2, .int x2), (3, .int x3), (4, .int x4), (5, .int x5)] → W p l e R s m args below meth c H locs 0 0 Q (F0 m 18 ls []) := by
    intro k_18 hk_18 h0 x1 x2 x3 x4 x5 H locs ls hS h hl
    refine lv_iload hx hb dX6_waysFrom_18 (lv_at hl 5 rfl) ?_
    refine lv_aload_n hx hb dX6_waysFrom_20 rfl (lv_at hl 0 rfl) ?_
    refine eg_RX6_22 hC hS h dX6_waysFrom_21 (fun t_21 h => ?_)
    refine lv_icmp_ge (tgt := 58) hx hb dX6_waysFrom_24 (by decide) (fun c_24 => ?_) (fun c_24 => ?_)
    · replace h := ez_ifp h c_24
      refine lv_iload hx hb dX6_waysFrom_58 (lv_at hl 4 rfl) ?_
      exact hret _ _ _ _ _ (Option.some.inj h) rfl hS dX6_waysFrom_60
    · replace h := ez_ifn h c_24
      refine lv_iload hx hb dX6_waysFrom_27 (lv_at hl 5 rfl) ?_
      refine lv_iload_n hx hb dX6_waysFrom_29 rfl (lv_at hl 2 rfl) ?_
      refine lv_isub hx hb dX6_waysFrom_30 ?_
      refine ez_top h (fun t_30 h => ?_)
      refine va_mabs hx hb (hC.1.2.2.1.trans hl.1.symm) hown (hts _ ql_RX6_59) (hts _ qm_abs_s) (hts _ qm_i) (hts _ qm_abs_c) (Nat.le_trans (by decide) hC.2.2.1) (Nat.le_trans (Nat.le_of_ble_eq_true rfl) hC.2.2.2.1) (Nat.zero_le _) (Nat.zero_le _) dX6_waysFrom_31 ?_
      refine ez_top h (fun t_31 h => ?_)
      refine lv_iload_n hx hb dX6_waysFrom_34 rfl (lv_at hl 3 rfl) ?_
      refine lv_icmp_gt (tgt := 52) hx hb dX6_waysFrom_35 (by decide) (fun c_35 => ?_) (fun c_35 => ?_)
      · replace h := ez_ifp h c_35
        exact K_52 k_18 hk_18 h0 x1 x2 x3 x4 x5 _ _ _ hS h (lv_sub hl [0, 1, 2, 3, 4, 5] rfl)
      · replace h := ez_ifn h c_35
        refine lv_iload hx hb dX6_waysFrom_38 (lv_at hl 4 rfl) ?_
        refine lv_aload_n hx hb dX6_waysFrom_40 rfl (lv_at hl 0 rfl) ?_
        refine lv_iload_n hx hb dX6_waysFrom_41 rfl (lv_at hl 1 rfl) ?_
        refine lv_iconst (v := 1) hx hb dX6_waysFrom_42 (by decide) ?_
        refine lv_iadd hx hb dX6_waysFrom_43 ?_
        refine ez_top h (fun t_43 h => ?_)
        refine lv_iload hx hb dX6_waysFrom_44 (lv_at hl 5 rfl) ?_
        refine ez_cVpi (As := [.int t_43, .int x5]) (rest := [.int x4]) h (fun _ q => c_X6_onwardAt q) hC k_X6_onwardAt ql_RX6_79 rfl (by decide) hS (fun _ q => ez_rcv q) rfl hl.1 rfl (Nat.le_of_ble_eq_true rfl) ⟨Nat.zero_le _, Nat.zero_le _⟩ dX6_waysFrom_46 (fun t_46 H locs hS h => ?_)
        refine lv_iadd hx hb dX6_waysFrom_49 ?_
        refine ez_top h (fun t_49 h => ?_)
        refine lv_istore (lv' := [(4, .int t_49), (0, .ref (B + h0)), (1, .int x1), (2, .int x2), (3, .int x3), (5, .int x5)]) hx hb dX6_waysFrom_50 hl (by decide) rfl (fun ls hl => ?_)
        exact K_52 k_18 hk_18 h0 x1 x2 x3 t_49 x5 _ _ _ hS h (lv_sub hl [1, 2, 3, 4, 0, 5] rfl)
  have E_18 : ∀ (h0 : Nat) (x1 : Int32) (x2 : Int32) (x3 : Int32) (x4 : Int32) (x5 : Int32) (H : Heap) (locs : List Loc) (ls : Array Slot), ez_S X B s.heap (n0) σ H locs → (ez_fix (fun _ _ _ _ _ _ => none) (z_X6_waysFrom_18 σ) ez_N) h0 x1 x2 x3 x4 x5 = some z → lv_has ls 6 [(0, .ref (B + h0)), (1, .int x1), (2, .int x2), (3, .int x3), (4, .int x4), (5, .int x5)] → W p l e R s m args below meth c H locs 0 0 Q (F0 m 18 ls []) := ez_fix_ind (fun k_18 : Nat → Int32 → Int32 → Int32 → Int32 → Int32 → Option (Int32) => ∀ (h0 : Nat) (x1 : Int32) (x2 : Int32) (x3 : Int32) (x4 : Int32) (x5 : Int32) (H : Heap) (locs : List Loc) (ls : Array Slot), ez_S X B s.heap (n0) σ H locs → k_18 h0 x1 x2 x3 x4 x5 = some z → lv_has ls 6 [(0, .ref (B + h0)), (1, .int x1), (2, .int x2), (3, .int x3), (4, .int x4), (5, .int x5)] → W p l e R s m args below meth c H locs 0 0 Q (F0 m 18 ls [])) (fun _ _ _ _ _ _ _ _ _ _ h _ => by cases h) (fun k_18 hk_18 => K_18 k_18 hk_18) ez_N
  refine lv_iload_n hx hb dX6_waysFrom_0 rfl (lv_at hl 1 rfl) ?_
  refine lv_iconst (v := 1) hx hb dX6_waysFrom_1 (by decide) ?_
  refine lv_iadd hx hb dX6_waysFrom_2 ?_
  refine ez_top h (fun t_2 h => ?_)
  refine lv_aload_n hx hb dX6_waysFrom_3 rfl (lv_at hl 0 rfl) ?_
  refine eg_RX6_18 hC hS h dX6_waysFrom_4 (fun t_4 h => ?_)
  refine lv_icmp_lt (tgt := 12) hx hb dX6_waysFrom_7 (by decide) (fun c_7 => ?_) (fun c_7 => ?_)
  · replace h := ez_ifp h c_7
    refine lv_iconst (v := 0) hx hb dX6_waysFrom_12 (by decide) ?_
    refine lv_istore (lv' := [(4, .int 0), (0, .ref (B + h0)), (1, .int x1), (2, .int x2), (3, .int x3)]) hx hb dX6_waysFrom_13 hl (by decide) rfl (fun ls hl => ?_)
    refine lv_iconst (v := 0) hx hb dX6_waysFrom_15 (by decide) ?_
    refine lv_istore (lv' := [(5, .int 0), (4, .int 0), (0, .ref (B + h0)), (1, .int x1), (2, .int x2), (3, .int x3)]) hx hb dX6_waysFrom_16 hl (by decide) rfl (fun ls hl => ?_)
    exact E_18  h0 x1 x2 x3 (0 : Int32) (0 : Int32) _ _ _ hS h (lv_sub hl [2, 3, 4, 5, 1, 0] rfl)
  · replace h := ez_ifn h c_7
    refine lv_iconst (v := 1) hx hb dX6_waysFrom_10 (by decide) ?_
    exact hret _ _ _ _ _ (Option.some.inj h) rfl hS dX6_waysFrom_11
set_option maxRecDepth 100000 in
noncomputable def z_X6_putOnward_31 (σ : ez_H) : Option (Unit × ez_H) :=
  some ((), σ)
set_option maxRecDepth 100000 in
noncomputable def z_X6_putOnward (σ : ez_H) (h0 : Nat) (x1 : Int32) (x2 : Int32) (x3 : Int32) : Option (Unit × ez_H) :=
  ez_bd (ez_ob σ 6 h0) fun _ =>
  ez_let (x1 * (6 : Int32)) fun t_3 =>
  ez_let (t_3 + x2) fun t_5 =>
  if t_5 < (0 : Int32) then (
  z_X6_putOnward_31  σ
  ) else (
  ez_bd (ez_gr σ 6 h0 3) fun t_16 =>
  ez_bd (ez_ln σ 1 t_16) fun t_19 =>
  if t_19 ≤ t_5 then (
  z_X6_putOnward_31  σ
  ) else (
  ez_bd (ez_gr σ 6 h0 3) fun t_24 =>
  ez_bd (ez_is σ 1 t_24 t_5 x3) fun σ =>
  z_X6_putOnward_31  σ
  )
  )
set_option maxHeartbeats 4000000 in
set_option maxRecDepth 100000 in
theorem c_X6_putOnward {l : Launch} {X : ez_X} {B : Nat} {σ : ez_H} {h0 : Nat} {x1 : Int32} {x2 : Int32} {x3 : Int32} {z : Unit × ez_H} (h : z_X6_putOnward σ h0 x1 x2 x3 = some z) : ez_M l X B σ yX6_putOnward cX6_putOnward 5 (none) 0 [.ref (B + h0), .int x1, .int x2, .int x3] (none) z.2 := by
  refine ez_startv (by decide) (Nat.le_of_ble_eq_true rfl) (fun p e R s m args below meth c Q hC hret hS ls hl => ?_)
  have hC : ez_C p R s m args c X B RX6 cX6_putOnward 5 0 := hC
  have hx := hC.1.1
  have hb := hC.1.2.1
  have hown := hC.1.2.2.2.1
  have hts := hC.1.2.2.2.2
  have hl : lv_has ls 5 [(0, .ref (B + h0)), (1, .int x1), (2, .int x2), (3, .int x3)] := hl
  obtain ⟨σ0, eσ⟩ : ∃ σ0 : ez_H, σ0 = σ := ⟨_, rfl⟩
  rw [← eσ] at hret
  have hS : ez_S X B s.heap σ0.length σ s.heap [] := eσ ▸ hS
  obtain ⟨-, h⟩ := ez_in h
  have K_31 : ∀ (σ : ez_H) (H : Heap) (locs : List Loc) (ls : Array Slot), ez_S X B s.heap (σ0.length) σ H locs → z_X6_putOnward_31 σ = some z → lv_has ls 5 [] → W p l e R s m args below meth c H locs 0 0 Q (F0 m 31 ls []) := by
    intro σ H locs ls hS h hl
    exact hret _ _ _ _ _ _ (Option.some.inj h) hS dX6_putOnward_31
  refine lv_iload_n hx hb dX6_putOnward_0 rfl (lv_at hl 1 rfl) ?_
  refine lv_bipush (v := 6) hx hb dX6_putOnward_1 (by decide) ?_
  refine lv_imul hx hb dX6_putOnward_3 ?_
  refine ez_top h (fun t_3 h => ?_)
  refine lv_iload_n hx hb dX6_putOnward_4 rfl (lv_at hl 2 rfl) ?_
  refine lv_iadd hx hb dX6_putOnward_5 ?_
  refine ez_top h (fun t_5 h => ?_)
  refine lv_istore (lv' := [(4, .int t_5), (0, .ref (B + h0)), (1, .int x1), (2, .int x2), (3, .int x3)]) hx hb dX6_putOnward_6 hl (by decide) rfl (fun ls hl => ?_)
  refine lv_iload hx hb dX6_putOnward_8 (lv_at hl 0 rfl) ?_
  refine lv_if_lt (tgt := 31) hx hb dX6_putOnward_10 (by decide) (fun c_10 => ?_) (fun c_10 => ?_)
  · replace h := ez_ifp h c_10
    exact K_31  σ _ _ _ hS h (lv_sub hl [] rfl)
  · replace h := ez_ifn h c_10
    refine lv_iload hx hb dX6_putOnward_13 (lv_at hl 0 rfl) ?_
    refine lv_aload_n hx hb dX6_putOnward_15 rfl (lv_at hl 1 rfl) ?_
    refine eg_RX6_9 hC hS h dX6_putOnward_16 (fun t_16 h => ?_)
    refine ez_lnA hC hS h dX6_putOnward_19 (fun t_19 h => ?_)
    refine lv_icmp_ge (tgt := 31) hx hb dX6_putOnward_20 (by decide) (fun c_20 => ?_) (fun c_20 => ?_)
    · replace h := ez_ifp h c_20
      exact K_31  σ _ _ _ hS h (lv_sub hl [] rfl)
    · replace h := ez_ifn h c_20
      refine lv_aload_n hx hb dX6_putOnward_23 rfl (lv_at hl 1 rfl) ?_
      refine eg_RX6_9 hC hS h dX6_putOnward_24 (fun t_24 h => ?_)
      refine lv_iload hx hb dX6_putOnward_27 (lv_at hl 0 rfl) ?_
      refine lv_iload_n hx hb dX6_putOnward_29 rfl (lv_at hl 4 rfl) ?_
      refine ez_ias hC hS h dX6_putOnward_30 (fun σ H locs hS h => ?_)
      exact K_31  σ _ _ _ hS h (lv_sub hl [] rfl)
set_option maxRecDepth 100000 in
noncomputable def z_X6_howMany_70 (k_70 : ez_H → Nat → Int32 → Int32 → Option (Int32 × ez_H)) (σ : ez_H) (h0 : Nat) (x3 : Int32) (x4 : Int32) : Option (Int32 × ez_H) :=
  ez_bd (ez_gi σ 6 h0 1) fun t_73 =>
  if t_73 ≤ x4 then (
  some (x3, σ)
  ) else (
  ez_bd (z_X6_onwardAt σ h0 (0 : Int32) x4) fun t_84 =>
  ez_let (x3 + t_84) fun t_87 =>
  ez_let (x4 + 1) fun t_89 =>
  k_70 σ h0 t_87 t_89
  )
set_option maxRecDepth 100000 in
noncomputable def z_X6_howMany_50 (k_7 : ez_H → Nat → Int32 → Int32 → Int32 → Option (Int32 × ez_H)) (k_14 : ez_H → Nat → Int32 → Int32 → Int32 → Int32 → Option (Int32 × ez_H)) (σ : ez_H) (h0 : Nat) (x1 : Int32) (x2 : Int32) (x3 : Int32) (x4 : Int32) (y0 : Nat) (y1 : Int32) (y2 : Int32) (y3 : Int32) : Option (Int32 × ez_H) :=
  ez_b2 (z_X6_putOnward σ y0 y1 y2 y3) fun _ σ =>
  ez_let (x4 + 1) fun t_53 =>
  k_14 σ h0 x1 x2 x3 t_53
set_option maxRecDepth 100000 in
noncomputable def z_X6_howMany_14 (k_7 : ez_H → Nat → Int32 → Int32 → Int32 → Option (Int32 × ez_H)) (k_14 : ez_H → Nat → Int32 → Int32 → Int32 → Int32 → Option (Int32 × ez_H)) (σ : ez_H) (h0 : Nat) (x1 : Int32) (x2 : Int32) (x3 : Int32) (x4 : Int32) : Option (Int32 × ez_H) :=
  ez_bd (ez_gi σ 6 h0 1) fun t_17 =>
  if t_17 ≤ x4 then (
  ez_let (x3 + (-1)) fun t_59 =>
  k_7 σ h0 x1 x2 t_59
  ) else (
  ez_bd (z_X6_notch σ x3 x4) fun t_31 =>
  ez_let (x1 &&& t_31) fun t_34 =>
  if t_34 = (0 : Int32) then (
  z_X6_howMany_50 k_7 k_14 σ h0 x1 x2 x3 x4 h0 x3 x4 (0 : Int32)
  ) else (
  ez_bd (z_X6_waysFrom σ h0 x3 x4 x2) fun t_47 =>
  z_X6_howMany_50 k_7 k_14 σ h0 x1 x2 x3 x4 h0 x3 x4 t_47
  )
  )
set_option maxRecDepth 100000 in
noncomputable def z_X6_howMany_7 (k_7 : ez_H → Nat → Int32 → Int32 → Int32 → Option (Int32 × ez_H)) (σ : ez_H) (h0 : Nat) (x1 : Int32) (x2 : Int32) (x3 : Int32) : Option (Int32 × ez_H) :=
  if x3 < (0 : Int32) then (
  ez_fix (fun _ _ _ _ => none) (z_X6_howMany_70 ) ez_N σ h0 (0 : Int32) (0 : Int32)
  ) else (
  ez_fix (fun _ _ _ _ _ _ => none) (z_X6_howMany_14 k_7) ez_N σ h0 x1 x2 x3 (0 : Int32)
  )
set_option maxRecDepth 100000 in
noncomputable def z_X6_howMany (σ : ez_H) (h0 : Nat) (x1 : Int32) (x2 : Int32) : Option (Int32 × ez_H) :=
  ez_bd (ez_ob σ 6 h0) fun _ =>
  ez_bd (ez_gi σ 6 h0 0) fun t_1 =>
  ez_let (t_1 - (1 : Int32)) fun t_5 =>
  ez_fix (fun _ _ _ _ _ => none) (z_X6_howMany_7 ) ez_N σ h0 x1 x2 t_5
set_option maxHeartbeats 4000000 in
set_option maxRecDepth 100000 in
theorem c_X6_howMany {l : Launch} {X : ez_X} {B : Nat} {σ : ez_H} {h0 : Nat} {x1 : Int32} {x2 : Int32} {z : Int32 × ez_H} (h : z_X6_howMany σ h0 x1 x2 = some z) : ez_M l X B σ yX6_howMany cX6_howMany 5 (some .int) 2 [.ref (B + h0), .int x1, .int x2] (some (.int z.1)) z.2 := by
  refine ez_starti (by decide) (Nat.le_of_ble_eq_true rfl) (fun p e R s m args below meth c Q hC hret hS ls hl => ?_)
  have hC : ez_C p R s m args c X B RX6 cX6_howMany 5 2 := hC
  have hx := hC.1.1
  have hb := hC.1.2.1
  have hown := hC.1.2.2.2.1
  have hts := hC.1.2.2.2.2
  have hl : lv_has ls 5 [(0, .ref (B + h0)), (1, .int x1), (2, .int x2)] := hl
  obtain ⟨σ0, eσ⟩ : ∃ σ0 : ez_H, σ0 = σ := ⟨_, rfl⟩
  rw [← eσ] at hret
  have hS : ez_S X B s.heap σ0.length σ s.heap [] := eσ ▸ hS
  obtain ⟨-, h⟩ := ez_in h
  have K_70 : ∀ (k_70 : ez_H → Nat → Int32 → Int32 → Option (Int32 × ez_H)) (hk_70 : ∀ (σ : ez_H) (h0 : Nat) (x3 : Int32) (x4 : Int32) (H : Heap) (locs : List Loc) (ls : Array Slot), ez_S X B s.heap (σ0.length) σ H locs → k_70 σ h0 x3 x4 = some z → lv_has ls 5 [(0, .ref (B + h0)), (3, .int x3), (4, .int x4)] → W p l e R s m args below meth c H locs 0 0 Q (F0 m 70 ls [])), ∀ (σ : ez_H) (h0 : Nat) (x3 : Int32) (x4 : Int32) (H : Heap) (locs : List Loc) (ls : Array Slot), ez_S X B s.heap (σ0.length) σ H locs → z_X6_howMany_70 k_70 σ h0 x3 x4 = some z → lv_has ls 5 [(0, .ref (B + h0)), (3, .int x3), (4, .int x4)] → W p l e R s m args below meth c H locs 0 0 Q (F0 m 70 ls []) := by
    intro k_70 hk_70 σ h0 x3 x4 H locs ls hS h hl
    refine lv_iload hx hb dX6_howMany_70 (lv_at hl 2 rfl) ?_
    refine lv_aload_n hx hb dX6_howMany_72 rfl (lv_at hl 0 rfl) ?_
    refine eg_RX6_22 hC hS h dX6_howMany_73 (fun t_73 h => ?_)
    refine lv_icmp_ge (tgt := 95) hx hb dX6_howMany_76 (by decide) (fun c_76 => ?_) (fun c_76 => ?_)
    · replace h := ez_ifp h c_76
      refine lv_iload_n hx hb dX6_howMany_95 rfl (lv_at hl 1 rfl) ?_
      exact hret _ _ _ _ _ _ (Option.some.inj h) rfl hS dX6_howMany_96
    · replace h := ez_ifn h c_76
      refine lv_iload_n hx hb dX6_howMany_79 rfl (lv_at hl 1 rfl) ?_
      refine lv_aload_n hx hb dX6_howMany_80 rfl (lv_at hl 0 rfl) ?_
      refine lv_iconst (v := 0) hx hb dX6_howMany_81 (by decide) ?_
      refine lv_iload hx hb dX6_howMany_82 (lv_at hl 2 rfl) ?_
      refine ez_cVpi (As := [.int 0, .int x4]) (rest := [.int x3]) h (fun _ q => c_X6_onwardAt q) hC k_X6_onwardAt ql_RX6_79 rfl (by decide) hS (fun _ q => ez_rcv q) rfl hl.1 rfl (Nat.le_of_ble_eq_true rfl) ⟨Nat.zero_le _, Nat.zero_le _⟩ dX6_howMany_84 (fun t_84 H locs hS h => ?_)
      refine lv_iadd hx hb dX6_howMany_87 ?_
      refine ez_top h (fun t_87 h => ?_)
      refine lv_istore_n (lv' := [(3, .int t_87), (0, .ref (B + h0)), (4, .int x4)]) hx hb dX6_howMany_88 rfl hl (by decide) rfl (fun ls hl => ?_)
      obtain ⟨t_89, e_89, h⟩ := ez_let_sp h
      refine lv_iinc (v := t_89) (lv' := [(4, .int t_89), (3, .int t_87), (0, .ref (B + h0))]) hx hb dX6_howMany_89 hl (k := 2) rfl (by rw [e_89]; rfl) (by decide) rfl (fun ls hl => ?_)
      refine lv_goto (tgt := 70) hx hb dX6_howMany_92 (by decide) ?_
      exact hk_70 σ h0 t_87 t_89 _ _ _ hS h (lv_sub hl [2, 1, 0] rfl)
  have E_70 : ∀ (σ : ez_H) (h0 : Nat) (x3 : Int32) (x4 : Int32) (H : Heap) (locs : List Loc) (ls : Array Slot), ez_S X B s.heap (σ0.length) σ H locs → (ez_fix (fun _ _ _ _ => none) (z_X6_howMany_70) ez_N) σ h0 x3 x4 = some z → lv_has ls 5 [(0, .ref (B + h0)), (3, .int x3), (4, .int x4)] → W p l e R s m args below meth c H locs 0 0 Q (F0 m 70 ls []) := ez_fix_ind (fun k_70 : ez_H → Nat → Int32 → Int32 → Option (Int32 × ez_H) => ∀ (σ : ez_H) (h0 : Nat) (x3 : Int32) (x4 : Int32) (H : Heap) (locs : List Loc) (ls : Array Slot), ez_S X B s.heap (σ0.length) σ H locs → k_70 σ h0 x3 x4 = some z → lv_has ls 5 [(0, .ref (B + h0)), (3, .int x3), (4, .int x4)] → W p l e R s m args below meth c H locs 0 0 Q (F0 m 70 ls [])) (fun _ _ _ _ _ _ _ _ h _ => by cases h) (fun k_70 hk_70 => K_70 k_70 hk_70) ez_N
  have K_50 : ∀ (k_7 : ez_H → Nat → Int32 → Int32 → Int32 → Option (Int32 × ez_H)) (hk_7 : ∀ (σ : ez_H) (h0 : Nat) (x1 : Int32) (x2 : Int32) (x3 : Int32) (H : Heap) (locs : List Loc) (ls : Array Slot), ez_S X B s.heap (σ0.length) σ H locs → k_7 σ h0 x1 x2 x3 = some z → lv_has ls 5 [(0, .ref (B + h0)), (1, .int x1), (2, .int x2), (3, .int x3)] → W p l e R s m args below meth c H locs 0 0 Q (F0 m 7 ls [])) (k_14 : ez_H → Nat → Int32 → Int32 → Int32 → Int32 → Option (Int32 × ez_H)) (hk_14 : ∀ (σ : ez_H) (h0 : Nat) (x1 : Int32) (x2 : Int32) (x3 : Int32) (x4 : Int32) (H : Heap) (locs : List Loc) (ls : Array Slot), ez_S X B s.heap (σ0.length) σ H locs → k_14 σ h0 x1 x2 x3 x4 = some z → lv_has ls 5 [(0, .ref (B + h0)), (1, .int x1), (2, .int x2), (3, .int x3), (4, .int x4)] → W p l e R s m args below meth c H locs 0 0 Q (F0 m 14 ls [])), ∀ (σ : ez_H) (h0 : Nat) (x1 : Int32) (x2 : Int32) (x3 : Int32) (x4 : Int32) (y0 : Nat) (y1 : Int32) (y2 : Int32) (y3 : Int32) (H : Heap) (locs : List Loc) (ls : Array Slot), ez_S X B s.heap (σ0.length) σ H locs → z_X6_howMany_50 k_7 k_14 σ h0 x1 x2 x3 x4 y0 y1 y2 y3 = some z → lv_has ls 5 [(0, .ref (B + h0)), (1, .int x1), (2, .int x2), (3, .int x3), (4, .int x4)] → W p l e R s m args below meth c H locs 0 0 Q (F0 m 50 ls [.int y3, .int y2, .int y1, .ref (B + y0)]) := by
    intro k_7 hk_7 k_14 hk_14 σ h0 x1 x2 x3 x4 y0 y1 y2 y3 H locs ls hS h hl
    refine ez_cVv (As := [.int y1, .int y2, .int y3]) (rest := []) h (fun _ q => c_X6_putOnward q) hC k_X6_putOnward ql_RX6_75 rfl (by decide) hS (fun _ q => ez_rcv q) rfl hl.1 rfl (Nat.le_of_ble_eq_true rfl) ⟨Nat.zero_le _, Nat.zero_le _⟩ dX6_howMany_50 (fun _ σ H locs hS h => ?_)
    obtain ⟨t_53, e_53, h⟩ := ez_let_sp h
    refine lv_iinc (v := t_53) (lv' := [(4, .int t_53), (0, .ref (B + h0)), (1, .int x1), (2, .int x2), (3, .int x3)]) hx hb dX6_howMany_53 hl (k := 4) rfl (by rw [e_53]; rfl) (by decide) rfl (fun ls hl => ?_)
    refine lv_goto (tgt := 14) hx hb dX6_howMany_56 (by decide) ?_
    exact hk_14 σ h0 x1 x2 x3 t_53 _ _ _ hS h (lv_sub hl [1, 2, 3, 4, 0] rfl)
  have K_14 : ∀ (k_7 : ez_H → Nat → Int32 → Int32 → Int32 → Option (Int32 × ez_H)) (hk_7 : ∀ (σ : ez_H) (h0 : Nat) (x1 : Int32) (x2 : Int32) (x3 : Int32) (H : Heap) (locs : List Loc) (ls : Array Slot), ez_S X B s.heap (σ0.length) σ H locs → k_7 σ h0 x1 x2 x3 = some z → lv_has ls 5 [(0, .ref (B + h0)), (1, .int x1), (2, .int x2), (3, .int x3)] → W p l e R s m args below meth c H locs 0 0 Q (F0 m 7 ls [])) (k_14 : ez_H → Nat → Int32 → Int32 → Int32 → Int32 → Option (Int32 × ez_H)) (hk_14 : ∀ (σ : ez_H) (h0 : Nat) (x1 : Int32) (x2 : Int32) (x3 : Int32) (x4 : Int32) (H : Heap) (locs : List Loc) (ls : Array Slot), ez_S X B s.heap (σ0.length) σ H locs → k_14 σ h0 x1 x2 x3 x4 = some z → lv_has ls 5 [(0, .ref (B + h0)), (1, .int x1), (2, .int x2), (3, .int x3), (4, .int x4)] → W p l e R s m args below meth c H locs 0 0 Q (F0 m 14 ls [])), ∀ (σ : ez_H) (h0 : Nat) (x1 : Int32) (x2 : Int32) (x3 : Int32) (x4 : Int32) (H : Heap) (locs : List Loc) (ls : Array Slot), ez_S X B s.heap (σ0.length) σ H locs → z_X6_howMany_14 k_7 k_14 σ h0 x1 x2 x3 x4 = some z → lv_has ls 5 [(0, .ref (B + h0)), (1, .int x1), (2, .int x2), (3, .int x3), (4, .int x4)] → W p l e R s m args below meth c H locs 0 0 Q (F0 m 14 ls []) := by
    intro k_7 hk_7 k_14 hk_14 σ h0 x1 x2 x3 x4 H locs ls hS h hl
    refine lv_iload hx hb dX6_howMany_14 (lv_at hl 4 rfl) ?_
    refine lv_aload_n hx hb dX6_howMany_16 rfl (lv_at hl 0 rfl) ?_
    refine eg_RX6_22 hC hS h dX6_howMany_17 (fun t_17 h => ?_)
    refine lv_icmp_ge (tgt := 59) hx hb dX6_howMany_20 (by decide) (fun c_20 => ?_) (fun c_20 => ?_)
    · replace h := ez_ifp h c_20
      obtain ⟨t_59, e_59, h⟩ := ez_let_sp h
      refine lv_iinc (v := t_59) (lv' := [(3, .int t_59), (0, .ref (B + h0)), (1, .int x1), (2, .int x2), (4, .int x4)]) hx hb dX6_howMany_59 hl (k := 3) rfl (by rw [e_59]; rfl) (by decide) rfl (fun ls hl => ?_)
      refine lv_goto (tgt := 7) hx hb dX6_howMany_62 (by decide) ?_
      exact hk_7 σ h0 x1 x2 t_59 _ _ _ hS h (lv_sub hl [1, 2, 3, 0] rfl)
    · replace h := ez_ifn h c_20
      refine lv_aload_n hx hb dX6_howMany_23 rfl (lv_at hl 0 rfl) ?_
      refine lv_iload_n hx hb dX6_howMany_24 rfl (lv_at hl 3 rfl) ?_
      refine lv_iload hx hb dX6_howMany_25 (lv_at hl 4 rfl) ?_
      refine lv_iload_n hx hb dX6_howMany_27 rfl (lv_at hl 1 rfl) ?_
      refine lv_iload_n hx hb dX6_howMany_28 rfl (lv_at hl 3 rfl) ?_
      refine lv_iload hx hb dX6_howMany_29 (lv_at hl 4 rfl) ?_
      refine ez_cSpi (As := [.int x3, .int x4]) (rest := [.int x1, .int x4, .int x3, .ref (B + h0)]) h (fun _ q => c_X6_notch q) hC k_X6_notch ql_RX6_44 rfl (by decide) hS hl.1 rfl (Nat.le_of_ble_eq_true rfl) ⟨Nat.zero_le _, Nat.zero_le _⟩ dX6_howMany_31 (fun t_31 H locs hS h => ?_)
      refine lv_iand hx hb dX6_howMany_34 ?_
      refine ez_top h (fun t_34 h => ?_)
      refine lv_if_ne (tgt := 42) hx hb dX6_howMany_35 (by decide) (fun c_35 => ?_) (fun c_35 => ?_)
      · replace h := ez_ifn h c_35
        refine lv_aload_n hx hb dX6_howMany_42 rfl (lv_at hl 0 rfl) ?_
        refine lv_iload_n hx hb dX6_howMany_43 rfl (lv_at hl 3 rfl) ?_
        refine lv_iload hx hb dX6_howMany_44 (lv_at hl 4 rfl) ?_
        refine lv_iload_n hx hb dX6_howMany_46 rfl (lv_at hl 2 rfl) ?_
        refine ez_cVpi (As := [.int x3, .int x4, .int x2]) (rest := [.int x4, .int x3, .ref (B + h0)]) h (fun _ q => c_X6_waysFrom q) hC k_X6_waysFrom ql_RX6_72 rfl (by decide) hS (fun _ q => ez_rcv q) rfl hl.1 rfl (Nat.le_of_ble_eq_true rfl) ⟨Nat.zero_le _, Nat.zero_le _⟩ dX6_howMany_47 (fun t_47 H locs hS h => ?_)
        exact K_50 k_7 hk_7 k_14 hk_14 σ h0 x1 x2 x3 x4 h0 x3 x4 t_47 _ _ _ hS h (lv_sub hl [0, 1, 2, 3, 4] rfl)
      · replace h := ez_ifp h c_35
        refine lv_iconst (v := 0) hx hb dX6_howMany_38 (by decide) ?_
        refine lv_goto (tgt := 50) hx hb dX6_howMany_39 (by decide) ?_
        exact K_50 k_7 hk_7 k_14 hk_14 σ h0 x1 x2 x3 x4 h0 x3 x4 (0 : Int32) _ _ _ hS h (lv_sub hl [0, 1, 2, 3, 4] rfl)
  have E_14 : ∀ (k_7 : ez_H → Nat → Int32 → Int32 → Int32 → Option (Int32 × ez_H)) (hk_7 : ∀ (σ : ez_H) (h0 : Nat) (x1 : Int32) (x2 : Int32) (x3 : Int32) (H : Heap) (locs : List Loc) (ls : Array Slot), ez_S X B s.heap (σ0.length) σ H locs → k_7 σ h0 x1 x2 x3 = some z → lv_has ls 5 [(0, .ref (B + h0)), (1, .int x1), (2, .int x2), (3, .int x3)] → W p l e R s m args below meth c H locs 0 0 Q (F0 m 7 ls [])), ∀ (σ : ez_H) (h0 : Nat) (x1 : Int32) (x2 : Int32) (x3 : Int32) (x4 : Int32) (H : Heap) (locs : List Loc) (ls : Array Slot), ez_S X B s.heap (σ0.length) σ H locs → (ez_fix (fun _ _ _ _ _ _ => none) (z_X6_howMany_14 k_7) ez_N) σ h0 x1 x2 x3 x4 = some z → lv_has ls 5 [(0, .ref (B + h0)), (1, .int x1), (2, .int x2), (3, .int x3), (4, .int x4)] → W p l e R s m args below meth c H locs 0 0 Q (F0 m 14 ls []) := fun k_7 hk_7 => ez_fix_ind (fun k_14 : ez_H → Nat → Int32 → Int32 → Int32 → Int32 → Option (Int32 × ez_H) => ∀ (σ : ez_H) (h0 : Nat) (x1 : Int32) (x2 : Int32) (x3 : Int32) (x4 : Int32) (H : Heap) (locs : List Loc) (ls : Array Slot), ez_S X B s.heap (σ0.length) σ H locs → k_14 σ h0 x1 x2 x3 x4 = some z → lv_has ls 5 [(0, .ref (B + h0)), (1, .int x1), (2, .int x2), (3, .int x3), (4, .int x4)] → W p l e R s m args below meth c H locs 0 0 Q (F0 m 14 ls [])) (fun _ _ _ _ _ _ _ _ _ _ h _ => by cases h) (fun k_14 hk_14 => K_14 k_7 hk_7 k_14 hk_14) ez_N
  have K_7 : ∀ (k_7 : ez_H → Nat → Int32 → Int32 → Int32 → Option (Int32 × ez_H)) (hk_7 : ∀ (σ : ez_H) (h0 : Nat) (x1 : Int32) (x2 : Int32) (x3 : Int32) (H : Heap) (locs : List Loc) (ls : Array Slot), ez_S X B s.heap (σ0.length) σ H locs → k_7 σ h0 x1 x2 x3 = some z → lv_has ls 5 [(0, .ref (B + h0)), (1, .int x1), (2, .int x2), (3, .int x3)] → W p l e R s m args below meth c H locs 0 0 Q (F0 m 7 ls [])), ∀ (σ : ez_H) (h0 : Nat) (x1 : Int32) (x2 : Int32) (x3 : Int32) (H : Heap) (locs : List Loc) (ls : Array Slot), ez_S X B s.heap (σ0.length) σ H locs → z_X6_howMany_7 k_7 σ h0 x1 x2 x3 = some z → lv_has ls 5 [(0, .ref (B + h0)), (1, .int x1), (2, .int x2), (3, .int x3)] → W p l e R s m args below meth c H locs 0 0 Q (F0 m 7 ls []) := by
    intro k_7 hk_7 σ h0 x1 x2 x3 H locs ls hS h hl
    refine lv_iload_n hx hb dX6_howMany_7 rfl (lv_at hl 3 rfl) ?_
    refine lv_if_lt (tgt := 65) hx hb dX6_howMany_8 (by decide) (fun c_8 => ?_) (fun c_8 => ?_)
    · replace h := ez_ifp h c_8
      refine lv_iconst (v := 0) hx hb dX6_howMany_65 (by decide) ?_
      refine lv_istore_n (lv' := [(3, .int 0), (0, .ref (B + h0)), (1, .int x1), (2, .int x2)]) hx hb dX6_howMany_66 rfl hl (by decide) rfl (fun ls hl => ?_)
      refine lv_iconst (v := 0) hx hb dX6_howMany_67 (by decide) ?_
      refine lv_istore (lv' := [(4, .int 0), (3, .int 0), (0, .ref (B + h0)), (1, .int x1), (2, .int x2)]) hx hb dX6_howMany_68 hl (by decide) rfl (fun ls hl => ?_)
      exact E_70  σ h0 (0 : Int32) (0 : Int32) _ _ _ hS h (lv_sub hl [2, 1, 0] rfl)
    · replace h := ez_ifn h c_8
      refine lv_iconst (v := 0) hx hb dX6_howMany_11 (by decide) ?_
      refine lv_istore (lv' := [(4, .int 0), (0, .ref (B + h0)), (1, .int x1), (2, .int x2), (3, .int x3)]) hx hb dX6_howMany_12 hl (by decide) rfl (fun ls hl => ?_)
      exact E_14 k_7 hk_7 σ h0 x1 x2 x3 (0 : Int32) _ _ _ hS h (lv_sub hl [1, 2, 3, 4, 0] rfl)
  have E_7 : ∀ (σ : ez_H) (h0 : Nat) (x1 : Int32) (x2 : Int32) (x3 : Int32) (H : Heap) (locs : List Loc) (ls : Array Slot), ez_S X B s.heap (σ0.length) σ H locs → (ez_fix (fun _ _ _ _ _ => none) (z_X6_howMany_7) ez_N) σ h0 x1 x2 x3 = some z → lv_has ls 5 [(0, .ref (B + h0)), (1, .int x1), (2, .int x2), (3, .int x3)] → W p l e R s m args below meth c H locs 0 0 Q (F0 m 7 ls []) := ez_fix_ind (fun k_7 : ez_H → Nat → Int32 → Int32 → Int32 → Option (Int32 × ez_H) => ∀ (σ : ez_H) (h0 : Nat) (x1 : Int32) (x2 : Int32) (x3 : Int32) (H : Heap) (locs : List Loc) (ls : Array Slot), ez_S X B s.heap (σ0.length) σ H locs → k_7 σ h0 x1 x2 x3 = some z → lv_has ls 5 [(0, .ref (B + h0)), (1, .int x1), (2, .int x2), (3, .int x3)] → W p l e R s m args below meth c H locs 0 0 Q (F0 m 7 ls [])) (fun _ _ _ _ _ _ _ _ _ h _ => by cases h) (fun k_7 hk_7 => K_7 k_7 hk_7) ez_N
  refine lv_aload_n hx hb dX6_howMany_0 rfl (lv_at hl 0 rfl) ?_
  refine eg_RX6_18 hC hS h dX6_howMany_1 (fun t_1 h => ?_)
  refine lv_iconst (v := 1) hx hb dX6_howMany_4 (by decide) ?_
  refine lv_isub hx hb dX6_howMany_5 ?_
  refine ez_top h (fun t_5 h => ?_)
  refine lv_istore_n (lv' := [(3, .int t_5), (0, .ref (B + h0)), (1, .int x1), (2, .int x2)]) hx hb dX6_howMany_6 rfl hl (by decide) rfl (fun ls hl => ?_)
  exact E_7  σ h0 x1 x2 t_5 _ _ _ hS h (lv_sub hl [1, 2, 3, 0] rfl)
set_option maxRecDepth 100000 in
noncomputable def z_X11_putOnTape_47 (k_3 : ez_H → Nat → Int32 → Int32 → Option (Unit × ez_H)) (σ : ez_H) (h0 : Nat) (x1 : Int32) (x2 : Int32) : Option (Unit × ez_H) :=
  ez_let (x2 + (-8)) fun t_47 =>
  k_3 σ h0 x1 t_47
set_option maxRecDepth 100000 in
noncomputable def z_X11_putOnTape_3 (k_3 : ez_H → Nat → Int32 → Int32 → Option (Unit × ez_H)) (σ : ez_H) (h0 : Nat) (x1 : Int32) (x2 : Int32) : Option (Unit × ez_H) :=
  if x2 < (0 : Int32) then (
  some ((), σ)
  ) else (
  ez_bd (ez_gi σ 11 h0 1) fun t_8 =>
  if t_8 < (0 : Int32) then (
  z_X11_putOnTape_47 k_3 σ h0 x1 x2
  ) else (
  ez_bd (ez_gi σ 11 h0 1) fun t_15 =>
  if (1600 : Int32) ≤ t_15 then (
  z_X11_putOnTape_47 k_3 σ h0 x1 x2
  ) else (
  ez_bd (ez_gr σ 11 h0 0) fun t_25 =>
  ez_bd (ez_gi σ 11 h0 1) fun t_29 =>
  ez_let (x1 >>> (x2 &&& 31)) fun t_34 =>
  ez_let ((Int32.toInt8 t_34).toInt32) fun t_35 =>
  ez_bd (ez_is σ 0 t_25 t_29 (vp_nar .byte t_35)) fun σ =>
  ez_bd (ez_gi σ 11 h0 1) fun t_39 =>
  ez_let (t_39 + (1 : Int32)) fun t_43 =>
  ez_bd (ez_pf σ 11 h0 1 (.inl t_43)) fun σ =>
  z_X11_putOnTape_47 k_3 σ h0 x1 x2
  )
  )
  )
set_option maxRecDepth 100000 in
noncomputable def z_X11_putOnTape (σ : ez_H) (h0 : Nat) (x1 : Int32) : Option (Unit × ez_H) :=
  ez_bd (ez_ob σ 11 h0) fun _ =>
  ez_fix (fun _ _ _ _ => none) (z_X11_putOnTape_3 ) ez_N σ h0 x1 (24 : Int32)
set_option maxHeartbeats 4000000 in
set_option maxRecDepth 100000 in
theorem c_X11_putOnTape {l : Launch} {X : ez_X} {B : Nat} {σ : ez_H} {h0 : Nat} {x1 : Int32} {z : Unit × ez_H} (h : z_X11_putOnTape σ h0 x1 = some z) : ez_M l X B σ yX11_putOnTape cX11_putOnTape 3 (none) 0 [.ref (B + h0), .int x1] (none) z.2 := by
  refine ez_startv (by decide) (Nat.le_of_ble_eq_true rfl) (fun p e R s m args below meth c Q hC hret hS ls hl => ?_)
  have hC : ez_C p R s m args c X B RX11 cX11_putOnTape 3 0 := hC
  have hx := hC.1.1
  have hb := hC.1.2.1
  have hown := hC.1.2.2.2.1
  have hts := hC.1.2.2.2.2
  have hl : lv_has ls 3 [(0, .ref (B + h0)), (1, .int x1)] := hl
  obtain ⟨σ0, eσ⟩ : ∃ σ0 : ez_H, σ0 = σ := ⟨_, rfl⟩
  rw [← eσ] at hret
  have hS : ez_S X B s.heap σ0.length σ s.heap [] := eσ ▸ hS
  obtain ⟨-, h⟩ := ez_in h
  have K_47 : ∀ (k_3 : ez_H → Nat → Int32 → Int32 → Option (Unit × ez_H)) (hk_3 : ∀ (σ : ez_H) (h0 : Nat) (x1 : Int32) (x2 : Int32) (H : Heap) (locs : List Loc) (ls : Array Slot), ez_S X B s.heap (σ0.length) σ H locs → k_3 σ h0 x1 x2 = some z → lv_has ls 3 [(0, .ref (B + h0)), (1, .int x1), (2, .int x2)] → W p l e R s m args below meth c H locs 0 0 Q (F0 m 3 ls [])), ∀ (σ : ez_H) (h0 : Nat) (x1 : Int32) (x2 : Int32) (H : Heap) (locs : List Loc) (ls : Array Slot), ez_S X B s.heap (σ0.length) σ H locs → z_X11_putOnTape_47 k_3 σ h0 x1 x2 = some z → lv_has ls 3 [(0, .ref (B + h0)), (1, .int x1), (2, .int x2)] → W p l e R s m args below meth c H locs 0 0 Q (F0 m 47 ls []) := by
    intro k_3 hk_3 σ h0 x1 x2 H locs ls hS h hl
    obtain ⟨t_47, e_47, h⟩ := ez_let_sp h
    refine lv_iinc (v := t_47) (lv' := [(2, .int t_47), (0, .ref (B + h0)), (1, .int x1)]) hx hb dX11_putOnTape_47 hl (k := 2) rfl (by rw [e_47]; rfl) (by decide) rfl (fun ls hl => ?_)
    refine lv_goto (tgt := 3) hx hb dX11_putOnTape_50 (by decide) ?_
    exact hk_3 σ h0 x1 t_47 _ _ _ hS h (lv_sub hl [1, 2, 0] rfl)
  have K_3 : ∀ (k_3 : ez_H → Nat → Int32 → Int32 → Option (Unit × ez_H)) (hk_3 : ∀ (σ : ez_H) (h0 : Nat) (x1 : Int32) (x2 : Int32) (H : Heap) (locs : List Loc) (ls : Array Slot), ez_S X B s.heap (σ0.length) σ H locs → k_3 σ h0 x1 x2 = some z → lv_has ls 3 [(0, .ref (B + h0)), (1, .int x1), (2, .int x2)] → W p l e R s m args below meth c H locs 0 0 Q (F0 m 3 ls [])), ∀ (σ : ez_H) (h0 : Nat) (x1 : Int32) (x2 : Int32) (H : Heap) (locs : List Loc) (ls : Array Slot), ez_S X B s.heap (σ0.length) σ H locs → z_X11_putOnTape_3 k_3 σ h0 x1 x2 = some z → lv_has ls 3 [(0, .ref (B + h0)), (1, .int x1), (2, .int x2)] → W p l e R s m args below meth c H locs 0 0 Q (F0 m 3 ls []) := by
    intro k_3 hk_3 σ h0 x1 x2 H locs ls hS h hl
    refine lv_iload_n hx hb dX11_putOnTape_3 rfl (lv_at hl 2 rfl) ?_
    refine lv_if_lt (tgt := 53) hx hb dX11_putOnTape_4 (by decide) (fun c_4 => ?_) (fun c_4 => ?_)
    · replace h := ez_ifp h c_4
      exact hret _ _ _ _ _ _ (Option.some.inj h) hS dX11_putOnTape_53
    · replace h := ez_ifn h c_4
      refine lv_aload_n hx hb dX11_putOnTape_7 rfl (lv_at hl 0 rfl) ?_
      refine eg_RX11_13 hC hS h dX11_putOnTape_8 (fun t_8 h => ?_)
      refine lv_if_lt (tgt := 47) hx hb dX11_putOnTape_11 (by decide) (fun c_11 => ?_) (fun c_11 => ?_)
      · replace h := ez_ifp h c_11
        exact K_47 k_3 hk_3 σ h0 x1 x2 _ _ _ hS h (lv_sub hl [0, 1, 2] rfl)
      · replace h := ez_ifn h c_11
        refine lv_aload_n hx hb dX11_putOnTape_14 rfl (lv_at hl 0 rfl) ?_
        refine eg_RX11_13 hC hS h dX11_putOnTape_15 (fun t_15 h => ?_)
        refine lv_sipush (v := 1600) hx hb dX11_putOnTape_18 (by decide) ?_
        refine lv_icmp_ge (tgt := 47) hx hb dX11_putOnTape_21 (by decide) (fun c_21 => ?_) (fun c_21 => ?_)
        · replace h := ez_ifp h c_21
          exact K_47 k_3 hk_3 σ h0 x1 x2 _ _ _ hS h (lv_sub hl [0, 1, 2] rfl)
        · replace h := ez_ifn h c_21
          refine lv_aload_n hx hb dX11_putOnTape_24 rfl (lv_at hl 0 rfl) ?_
          refine eg_RX11_9 hC hS h dX11_putOnTape_25 (fun t_25 h => ?_)
          refine lv_aload_n hx hb dX11_putOnTape_28 rfl (lv_at hl 0 rfl) ?_
          refine eg_RX11_13 hC hS h dX11_putOnTape_29 (fun t_29 h => ?_)
          refine lv_iload_n hx hb dX11_putOnTape_32 rfl (lv_at hl 1 rfl) ?_
          refine lv_iload_n hx hb dX11_putOnTape_33 rfl (lv_at hl 2 rfl) ?_
          refine lv_ishr hx hb dX11_putOnTape_34 ?_
          refine ez_top h (fun t_34 h => ?_)
          refine lv_i2b hx hb dX11_putOnTape_35 rfl ?_
          refine ez_top h (fun t_35 h => ?_)
          refine ez_bas hC hS h dX11_putOnTape_36 (fun σ H locs hS h => ?_)
          refine lv_aload_n hx hb dX11_putOnTape_37 rfl (lv_at hl 0 rfl) ?_
          refine lv_dup hx hb dX11_putOnTape_38 rfl ?_
          refine eg_RX11_13 hC hS h dX11_putOnTape_39 (fun t_39 h => ?_)
          refine lv_iconst (v := 1) hx hb dX11_putOnTape_42 (by decide) ?_
          refine lv_iadd hx hb dX11_putOnTape_43 ?_
          refine ez_top h (fun t_43 h => ?_)
          refine ep_RX11_13 hC hS h dX11_putOnTape_44 (fun σ H locs hS h => ?_)
          exact K_47 k_3 hk_3 σ h0 x1 x2 _ _ _ hS h (lv_sub hl [0, 1, 2] rfl)
  have E_3 : ∀ (σ : ez_H) (h0 : Nat) (x1 : Int32) (x2 : Int32) (H : Heap) (locs : List Loc) (ls : Array Slot), ez_S X B s.heap (σ0.length) σ H locs → (ez_fix (fun _ _ _ _ => none) (z_X11_putOnTape_3) ez_N) σ h0 x1 x2 = some z → lv_has ls 3 [(0, .ref (B + h0)), (1, .int x1), (2, .int x2)] → W p l e R s m args below meth c H locs 0 0 Q (F0 m 3 ls []) := ez_fix_ind (fun k_3 : ez_H → Nat → Int32 → Int32 → Option (Unit × ez_H) => ∀ (σ : ez_H) (h0 : Nat) (x1 : Int32) (x2 : Int32) (H : Heap) (locs : List Loc) (ls : Array Slot), ez_S X B s.heap (σ0.length) σ H locs → k_3 σ h0 x1 x2 = some z → lv_has ls 3 [(0, .ref (B + h0)), (1, .int x1), (2, .int x2)] → W p l e R s m args below meth c H locs 0 0 Q (F0 m 3 ls [])) (fun _ _ _ _ _ _ _ _ h _ => by cases h) (fun k_3 hk_3 => K_3 k_3 hk_3) ez_N
  refine lv_bipush (v := 24) hx hb dX11_putOnTape_0 (by decide) ?_
  refine lv_istore_n (lv' := [(2, .int 24), (0, .ref (B + h0)), (1, .int x1)]) hx hb dX11_putOnTape_2 rfl hl (by decide) rfl (fun ls hl => ?_)
  exact E_3  σ h0 x1 (24 : Int32) _ _ _ hS h (lv_sub hl [1, 2, 0] rfl)
set_option maxRecDepth 100000 in
noncomputable def z_X11_feed (σ : ez_H) (h0 : Nat) (x1 : Int32) (x2 : Int32) (x3 : Int32) (x4 : Int32) (x5 : Int32) : Option (Int32 × ez_H) :=
  ez_bd (ez_ob σ 11 h0) fun _ =>
  ez_bd (ez_gi σ 11 h0 1) fun t_1 =>
  ez_let (t_1 + (20 : Int32)) fun t_6 =>
  if t_6 ≤ (1600 : Int32) then (
  ez_b2 (z_X11_putOnTape σ h0 x1) fun _ σ =>
  ez_b2 (z_X11_putOnTape σ h0 x2) fun _ σ =>
  ez_b2 (z_X11_putOnTape σ h0 x3) fun _ σ =>
  ez_b2 (z_X11_putOnTape σ h0 x4) fun _ σ =>
  ez_b2 (z_X11_putOnTape σ h0 x5) fun _ σ =>
  ez_bd (ez_gi σ 11 h0 1) fun t_43 =>
  some (t_43, σ)
  ) else (
  some ((-1 : Int32), σ)
  )
set_option maxHeartbeats 4000000 in
set_option maxRecDepth 100000 in
theorem c_X11_feed {l : Launch} {X : ez_X} {B : Nat} {σ : ez_H} {h0 : Nat} {x1 : Int32} {x2 : Int32} {x3 : Int32} {x4 : Int32} {x5 : Int32} {z : Int32 × ez_H} (h : z_X11_feed σ h0 x1 x2 x3 x4 x5 = some z) : ez_M l X B σ yX11_feed cX11_feed 6 (some .int) 1 [.ref (B + h0), .int x1, .int x2, .int x3, .int x4, .int x5] (some (.int z.1)) z.2 := by
  refine ez_starti (by decide) (Nat.le_of_ble_eq_true rfl) (fun p e R s m args below meth c Q hC hret hS ls hl => ?_)
  have hC : ez_C p R s m args c X B RX11 cX11_feed 6 1 := hC
  have hx := hC.1.1
  have hb := hC.1.2.1
  have hown := hC.1.2.2.2.1
  have hts := hC.1.2.2.2.2
  have hl : lv_has ls 6 [(0, .ref (B + h0)), (1, .int x1), (2, .int x2), (3, .int x3), (4, .int x4), (5, .int x5)] := hl
  obtain ⟨σ0, eσ⟩ : ∃ σ0 : ez_H, σ0 = σ := ⟨_, rfl⟩
  rw [← eσ] at hret
  have hS : ez_S X B s.heap σ0.length σ s.heap [] := eσ ▸ hS
  obtain ⟨-, h⟩ := ez_in h
  refine lv_aload_n hx hb dX11_feed_0 rfl (lv_at hl 0 rfl) ?_
  refine eg_RX11_13 hC hS h dX11_feed_1 (fun t_1 h => ?_)
  refine lv_bipush (v := 20) hx hb dX11_feed_4 (by decide) ?_
  refine lv_iadd hx hb dX11_feed_6 ?_
  refine ez_top h (fun t_6 h => ?_)
  refine lv_sipush (v := 1600) hx hb dX11_feed_7 (by decide) ?_
  refine lv_icmp_le (tgt := 15) hx hb dX11_feed_10 (by decide) (fun c_10 => ?_) (fun c_10 => ?_)
  · replace h := ez_ifp h c_10
    refine lv_aload_n hx hb dX11_feed_15 rfl (lv_at hl 0 rfl) ?_
    refine lv_iload_n hx hb dX11_feed_16 rfl (lv_at hl 1 rfl) ?_
    refine ez_cVv (As := [.int x1]) (rest := []) h (fun _ q => c_X11_putOnTape q) hC k_X11_putOnTape ql_RX11_101 rfl (by decide) hS (fun _ q => ez_rcv q) rfl hl.1 rfl (Nat.le_of_ble_eq_true rfl) ⟨Nat.zero_le _, Nat.zero_le _⟩ dX11_feed_17 (fun _ σ H locs hS h => ?_)
    refine lv_aload_n hx hb dX11_feed_20 rfl (lv_at hl 0 rfl) ?_
    refine lv_iload_n hx hb dX11_feed_21 rfl (lv_at hl 2 rfl) ?_
    refine ez_cVv (As := [.int x2]) (rest := []) h (fun _ q => c_X11_putOnTape q) hC k_X11_putOnTape ql_RX11_101 rfl (by decide) hS (fun _ q => ez_rcv q) rfl hl.1 rfl (Nat.le_of_ble_eq_true rfl) ⟨Nat.zero_le _, Nat.zero_le _⟩ dX11_feed_22 (fun _ σ H locs hS h => ?_)
    refine lv_aload_n hx hb dX11_feed_25 rfl (lv_at hl 0 rfl) ?_
    refine lv_iload_n hx hb dX11_feed_26 rfl (lv_at hl 3 rfl) ?_
    refine ez_cVv (As := [.int x3]) (rest := []) h (fun _ q => c_X11_putOnTape q) hC k_X11_putOnTape ql_RX11_101 rfl (by decide) hS (fun _ q => ez_rcv q) rfl hl.1 rfl (Nat.le_of_ble_eq_true rfl) ⟨Nat.zero_le _, Nat.zero_le _⟩ dX11_feed_27 (fun _ σ H locs hS h => ?_)
    refine lv_aload_n hx hb dX11_feed_30 rfl (lv_at hl 0 rfl) ?_
    refine lv_iload hx hb dX11_feed_31 (lv_at hl 4 rfl) ?_
    refine ez_cVv (As := [.int x4]) (rest := []) h (fun _ q => c_X11_putOnTape q) hC k_X11_putOnTape ql_RX11_101 rfl (by decide) hS (fun _ q => ez_rcv q) rfl hl.1 rfl (Nat.le_of_ble_eq_true rfl) ⟨Nat.zero_le _, Nat.zero_le _⟩ dX11_feed_33 (fun _ σ H locs hS h => ?_)
    refine lv_aload_n hx hb dX11_feed_36 rfl (lv_at hl 0 rfl) ?_
    refine lv_iload hx hb dX11_feed_37 (lv_at hl 5 rfl) ?_
    refine ez_cVv (As := [.int x5]) (rest := []) h (fun _ q => c_X11_putOnTape q) hC k_X11_putOnTape ql_RX11_101 rfl (by decide) hS (fun _ q => ez_rcv q) rfl hl.1 rfl (Nat.le_of_ble_eq_true rfl) ⟨Nat.zero_le _, Nat.zero_le _⟩ dX11_feed_39 (fun _ σ H locs hS h => ?_)
    refine lv_aload_n hx hb dX11_feed_42 rfl (lv_at hl 0 rfl) ?_
    refine eg_RX11_13 hC hS h dX11_feed_43 (fun t_43 h => ?_)
    exact hret _ _ _ _ _ _ (Option.some.inj h) rfl hS dX11_feed_46
  · replace h := ez_ifn h c_10
    refine lv_iconst (v := -1) hx hb dX11_feed_13 (by decide) ?_
    exact hret _ _ _ _ _ _ (Option.some.inj h) rfl hS dX11_feed_14
set_option maxRecDepth 100000 in
noncomputable def z_X12_feed_71 (k_18 : ez_H → Nat → Int32 → Int32 → Int32 → Int32 → Int32 → Int32 → Option (Int32 × ez_H)) (σ : ez_H) (h0 : Nat) (x1 : Int32) (x2 : Int32) (x3 : Int32) (x4 : Int32) (x5 : Int32) (x6 : Int32) (y0 : Int32) : Option (Int32 × ez_H) :=
  ez_bd (ez_gr σ 12 h0 0) fun t_74 =>
  ez_bd (ez_gi σ 12 h0 2) fun t_78 =>
  ez_let (t_78 + x6) fun t_83 =>
  ez_let (x6 &&& (3 : Int32)) fun t_93 =>
  ez_let ((8 : Int32) * t_93) fun t_94 =>
  ez_let ((24 : Int32) - t_94) fun t_95 =>
  ez_let (y0 >>> (t_95 &&& 31)) fun t_96 =>
  ez_let ((Int32.toInt8 t_96).toInt32) fun t_97 =>
  ez_bd (ez_is σ 0 t_74 t_83 (vp_nar .byte t_97)) fun σ =>
  ez_let (x6 + 1) fun t_99 =>
  k_18 σ h0 x1 x2 x3 x4 x5 t_99
set_option maxRecDepth 100000 in
noncomputable def z_X12_feed_18 (k_18 : ez_H → Nat → Int32 → Int32 → Int32 → Int32 → Int32 → Int32 → Option (Int32 × ez_H)) (σ : ez_H) (h0 : Nat) (x1 : Int32) (x2 : Int32) (x3 : Int32) (x4 : Int32) (x5 : Int32) (x6 : Int32) : Option (Int32 × ez_H) :=
  if (20 : Int32) ≤ x6 then (
  ez_bd (ez_gi σ 12 h0 2) fun t_107 =>
  ez_let (t_107 + (20 : Int32)) fun t_112 =>
  ez_bd (ez_pf σ 12 h0 2 (.inl t_112)) fun σ =>
  ez_bd (ez_gi σ 12 h0 2) fun t_117 =>
  some (t_117, σ)
  ) else (
  if (4 : Int32) ≤ x6 then (
  if (8 : Int32) ≤ x6 then (
  if (12 : Int32) ≤ x6 then (
  if (16 : Int32) ≤ x6 then (
  z_X12_feed_71 k_18 σ h0 x1 x2 x3 x4 x5 x6 x5
  ) else (
  z_X12_feed_71 k_18 σ h0 x1 x2 x3 x4 x5 x6 x4
  )
  ) else (
  z_X12_feed_71 k_18 σ h0 x1 x2 x3 x4 x5 x6 x3
  )
  ) else (
  z_X12_feed_71 k_18 σ h0 x1 x2 x3 x4 x5 x6 x2
  )
  ) else (
  z_X12_feed_71 k_18 σ h0 x1 x2 x3 x4 x5 x6 x1
  )
  )
set_option maxRecDepth 100000 in
noncomputable def z_X12_feed (σ : ez_H) (h0 : Nat) (x1 : Int32) (x2 : Int32) (x3 : Int32) (x4 : Int32) (x5 : Int32) : Option (Int32 × ez_H) :=
  ez_bd (ez_ob σ 12 h0) fun _ =>
  ez_bd (ez_gi σ 12 h0 2) fun t_1 =>
  ez_let (t_1 + (20 : Int32)) fun t_6 =>
  if t_6 ≤ (1600 : Int32) then (
  ez_fix (fun _ _ _ _ _ _ _ _ => none) (z_X12_feed_18 ) ez_N σ h0 x1 x2 x3 x4 x5 (0 : Int32)
  ) else (
  some ((-1 : Int32), σ)
  )
set_option maxHeartbeats 4000000 in
set_option maxRecDepth 100000 in
theorem c_X12_feed {l : Launch} {X : ez_X} {B : Nat} {σ : ez_H} {h0 : Nat} {x1 : Int32} {x2 : Int32} {x3 : Int32} {x4 : Int32} {x5 : Int32} {z : Int32 × ez_H} (h : z_X12_feed σ h0 x1 x2 x3 x4 x5 = some z) : ez_M l X B σ yX12_feed cX12_feed 8 (some .int) 0 [.ref (B + h0), .int x1, .int x2, .int x3, .int x4, .int x5] (some (.int z.1)) z.2 := by
  refine ez_starti (by decide) (Nat.le_of_ble_eq_true rfl) (fun p e R s m args below meth c Q hC hret hS ls hl => ?_)
  have hC : ez_C p R s m args c X B RX12 cX12_feed 8 0 := hC
  have hx := hC.1.1
  have hb := hC.1.2.1
  have hown := hC.1.2.2.2.1
  have hts := hC.1.2.2.2.2
  have hl : lv_has ls 8 [(0, .ref (B + h0)), (1, .int x1), (2, .int x2), (3, .int x3), (4, .int x4), (5, .int x5)] := hl
  obtain ⟨σ0, eσ⟩ : ∃ σ0 : ez_H, σ0 = σ := ⟨_, rfl⟩
  rw [← eσ] at hret
  have hS : ez_S X B s.heap σ0.length σ s.heap [] := eσ ▸ hS
  obtain ⟨-, h⟩ := ez_in h
  have K_71 : ∀ (k_18 : ez_H → Nat → Int32 → Int32 → Int32 → Int32 → Int32 → Int32 → Option (Int32 × ez_H)) (hk_18 : ∀ (σ : ez_H) (h0 : Nat) (x1 : Int32) (x2 : Int32) (x3 : Int32) (x4 : Int32) (x5 : Int32) (x6 : Int32) (H : Heap) (locs : List Loc) (ls : Array Slot), ez_S X B s.heap (σ0.length) σ H locs → k_18 σ h0 x1 x2 x3 x4 x5 x6 = some z → lv_has ls 8 [(0, .ref (B + h0)), (1, .int x1), (2, .int x2), (3, .int x3), (4, .int x4), (5, .int x5), (6, .int x6)] → W p l e R s m args below meth c H locs 0 0 Q (F0 m 18 ls [])), ∀ (σ : ez_H) (h0 : Nat) (x1 : Int32) (x2 : Int32) (x3 : Int32) (x4 : Int32) (x5 : Int32) (x6 : Int32) (y0 : Int32) (H : Heap) (locs : List Loc) (ls : Array Slot), ez_S X B s.heap (σ0.length) σ H locs → z_X12_feed_71 k_18 σ h0 x1 x2 x3 x4 x5 x6 y0 = some z → lv_has ls 8 [(0, .ref (B + h0)), (1, .int x1), (2, .int x2), (3, .int x3), (4, .int x4), (5, .int x5), (6, .int x6)] → W p l e R s m args below meth c H locs 0 0 Q (F0 m 71 ls [.int y0]) := by
    intro k_18 hk_18 σ h0 x1 x2 x3 x4 x5 x6 y0 H locs ls hS h hl
    refine lv_istore (lv' := [(7, .int y0), (0, .ref (B + h0)), (1, .int x1), (2, .int x2), (3, .int x3), (4, .int x4), (5, .int x5), (6, .int x6)]) hx hb dX12_feed_71 hl (by decide) rfl (fun ls hl => ?_)
    refine lv_aload_n hx hb dX12_feed_73 rfl (lv_at hl 1 rfl) ?_
    refine eg_RX12_7 hC hS h dX12_feed_74 (fun t_74 h => ?_)
    refine lv_aload_n hx hb dX12_feed_77 rfl (lv_at hl 1 rfl) ?_
    refine eg_RX12_271 hC hS h dX12_feed_78 (fun t_78 h => ?_)
    refine lv_iload hx hb dX12_feed_81 (lv_at hl 7 rfl) ?_
    refine lv_iadd hx hb dX12_feed_83 ?_
    refine ez_top h (fun t_83 h => ?_)
    refine lv_iload hx hb dX12_feed_84 (lv_at hl 0 rfl) ?_
    refine lv_bipush (v := 24) hx hb dX12_feed_86 (by decide) ?_
    refine lv_bipush (v := 8) hx hb dX12_feed_88 (by decide) ?_
    refine lv_iload hx hb dX12_feed_90 (lv_at hl 7 rfl) ?_
    refine lv_iconst (v := 3) hx hb dX12_feed_92 (by decide) ?_
    refine lv_iand hx hb dX12_feed_93 ?_
    refine ez_top h (fun t_93 h => ?_)
    refine lv_imul hx hb dX12_feed_94 ?_
    refine ez_top h (fun t_94 h => ?_)
    refine lv_isub hx hb dX12_feed_95 ?_
    refine ez_top h (fun t_95 h => ?_)
    refine lv_ishr hx hb dX12_feed_96 ?_
    refine ez_top h (fun t_96 h => ?_)
    refine lv_i2b hx hb dX12_feed_97 rfl ?_
    refine ez_top h (fun t_97 h => ?_)
    refine ez_bas hC hS h dX12_feed_98 (fun σ H locs hS h => ?_)
    obtain ⟨t_99, e_99, h⟩ := ez_let_sp h
    refine lv_iinc (v := t_99) (lv' := [(6, .int t_99), (7, .int y0), (0, .ref (B + h0)), (1, .int x1), (2, .int x2), (3, .int x3), (4, .int x4), (5, .int x5)]) hx hb dX12_feed_99 hl (k := 7) rfl (by rw [e_99]; rfl) (by decide) rfl (fun ls hl => ?_)
    refine lv_goto (tgt := 18) hx hb dX12_feed_102 (by decide) ?_
    exact hk_18 σ h0 x1 x2 x3 x4 x5 t_99 _ _ _ hS h (lv_sub hl [2, 3, 4, 5, 6, 7, 0] rfl)
  have K_18 : ∀ (k_18 : ez_H → Nat → Int32 → Int32 → Int32 → Int32 → Int32 → Int32 → Option (Int32 × ez_H)) (hk_18 : ∀ (σ : ez_H) (h0 : Nat) (x1 : Int32) (x2 : Int32) (x3 : Int32) (x4 : Int32) (x5 : Int32) (x6 : Int32) (H : Heap) (locs : List Loc) (ls : Array Slot), ez_S X B s.heap (σ0.length) σ H locs → k_18 σ h0 x1 x2 x3 x4 x5 x6 = some z → lv_has ls 8 [(0, .ref (B + h0)), (1, .int x1), (2, .int x2), (3, .int x3), (4, .int x4), (5, .int x5), (6, .int x6)] → W p l e R s m args below meth c H locs 0 0 Q (F0 m 18 ls [])), ∀ (σ : ez_H) (h0 : Nat) (x1 : Int32) (x2 : Int32) (x3 : Int32) (x4 : Int32) (x5 : Int32) (x6 : Int32) (H : Heap) (locs : List Loc) (ls : Array Slot), ez_S X B s.heap (σ0.length) σ H locs → z_X12_feed_18 k_18 σ h0 x1 x2 x3 x4 x5 x6 = some z → lv_has ls 8 [(0, .ref (B + h0)), (1, .int x1), (2, .int x2), (3, .int x3), (4, .int x4), (5, .int x5), (6, .int x6)] → W p l e R s m args below meth c H locs 0 0 Q (F0 m 18 ls []) := by
    intro k_18 hk_18 σ h0 x1 x2 x3 x4 x5 x6 H locs ls hS h hl
    refine lv_iload hx hb dX12_feed_18 (lv_at hl 6 rfl) ?_
    refine lv_bipush (v := 20) hx hb dX12_feed_20 (by decide) ?_
    refine lv_icmp_ge (tgt := 105) hx hb dX12_feed_22 (by decide) (fun c_22 => ?_) (fun c_22 => ?_)
    · replace h := ez_ifp h c_22
      refine lv_aload_n hx hb dX12_feed_105 rfl (lv_at hl 0 rfl) ?_
      refine lv_dup hx hb dX12_feed_106 rfl ?_
      refine eg_RX12_271 hC hS h dX12_feed_107 (fun t_107 h => ?_)
      refine lv_bipush (v := 20) hx hb dX12_feed_110 (by decide) ?_
      refine lv_iadd hx hb dX12_feed_112 ?_
      refine ez_top h (fun t_112 h => ?_)
      refine ep_RX12_271 hC hS h dX12_feed_113 (fun σ H locs hS h => ?_)
      refine lv_aload_n hx hb dX12_feed_116 rfl (lv_at hl 0 rfl) ?_
      refine eg_RX12_271 hC hS h dX12_feed_117 (fun t_117 h => ?_)
      exact hret _ _ _ _ _ _ (Option.some.inj h) rfl hS dX12_feed_120
    · replace h := ez_ifn h c_22
      refine lv_iload hx hb dX12_feed_25 (lv_at hl 6 rfl) ?_
      refine lv_iconst (v := 4) hx hb dX12_feed_27 (by decide) ?_
      refine lv_icmp_ge (tgt := 35) hx hb dX12_feed_28 (by decide) (fun c_28 => ?_) (fun c_28 => ?_)
      · replace h := ez_ifp h c_28
        refine lv_iload hx hb dX12_feed_35 (lv_at hl 6 rfl) ?_
        refine lv_bipush (v := 8) hx hb dX12_feed_37 (by decide) ?_
        refine lv_icmp_ge (tgt := 46) hx hb dX12_feed_39 (by decide) (fun c_39 => ?_) (fun c_39 => ?_)
        · replace h := ez_ifp h c_39
          refine lv_iload hx hb dX12_feed_46 (lv_at hl 6 rfl) ?_
          refine lv_bipush (v := 12) hx hb dX12_feed_48 (by decide) ?_
          refine lv_icmp_ge (tgt := 57) hx hb dX12_feed_50 (by decide) (fun c_50 => ?_) (fun c_50 => ?_)
          · replace h := ez_ifp h c_50
            refine lv_iload hx hb dX12_feed_57 (lv_at hl 6 rfl) ?_
            refine lv_bipush (v := 16) hx hb dX12_feed_59 (by decide) ?_
            refine lv_icmp_ge (tgt := 69) hx hb dX12_feed_61 (by decide) (fun c_61 => ?_) (fun c_61 => ?_)
            · replace h := ez_ifp h c_61
              refine lv_iload hx hb dX12_feed_69 (lv_at hl 5 rfl) ?_
              exact K_71 k_18 hk_18 σ h0 x1 x2 x3 x4 x5 x6 x5 _ _ _ hS h (lv_sub hl [0, 1, 2, 3, 4, 5, 6] rfl)
            · replace h := ez_ifn h c_61
              refine lv_iload hx hb dX12_feed_64 (lv_at hl 4 rfl) ?_
              refine lv_goto (tgt := 71) hx hb dX12_feed_66 (by decide) ?_
              exact K_71 k_18 hk_18 σ h0 x1 x2 x3 x4 x5 x6 x4 _ _ _ hS h (lv_sub hl [0, 1, 2, 3, 4, 5, 6] rfl)
          · replace h := ez_ifn h c_50
            refine lv_iload_n hx hb dX12_feed_53 rfl (lv_at hl 3 rfl) ?_
            refine lv_goto (tgt := 71) hx hb dX12_feed_54 (by decide) ?_
            exact K_71 k_18 hk_18 σ h0 x1 x2 x3 x4 x5 x6 x3 _ _ _ hS h (lv_sub hl [0, 1, 2, 3, 4, 5, 6] rfl)
        · replace h := ez_ifn h c_39
          refine lv_iload_n hx hb dX12_feed_42 rfl (lv_at hl 2 rfl) ?_
          refine lv_goto (tgt := 71) hx hb dX12_feed_43 (by decide) ?_
          exact K_71 k_18 hk_18 σ h0 x1 x2 x3 x4 x5 x6 x2 _ _ _ hS h (lv_sub hl [0, 1, 2, 3, 4, 5, 6] rfl)
      · replace h := ez_ifn h c_28
        refine lv_iload_n hx hb dX12_feed_31 rfl (lv_at hl 1 rfl) ?_
        refine lv_goto (tgt := 71) hx hb dX12_feed_32 (by decide) ?_
        exact K_71 k_18 hk_18 σ h0 x1 x2 x3 x4 x5 x6 x1 _ _ _ hS h (lv_sub hl [0, 1, 2, 3, 4, 5, 6] rfl)
  have E_18 : ∀ (σ : ez_H) (h0 : Nat) (x1 : Int32) (x2 : Int32) (x3 : Int32) (x4 : Int32) (x5 : Int32) (x6 : Int32) (H : Heap) (locs : List Loc) (ls : Array Slot), ez_S X B s.heap (σ0.length) σ H locs → (ez_fix (fun _ _ _ _ _ _ _ _ => none) (z_X12_feed_18) ez_N) σ h0 x1 x2 x3 x4 x5 x6 = some z → lv_has ls 8 [(0, .ref (B + h0)), (1, .int x1), (2, .int x2), (3, .int x3), (4, .int x4), (5, .int x5), (6, .int x6)] → W p l e R s m args below meth c H locs 0 0 Q (F0 m 18 ls []) := ez_fix_ind (fun k_18 : ez_H → Nat → Int32 → Int32 → Int32 → Int32 → Int32 → Int32 → Option (Int32 × ez_H) => ∀ (σ : ez_H) (h0 : Nat) (x1 : Int32) (x2 : Int32) (x3 : Int32) (x4 : Int32) (x5 : Int32) (x6 : Int32) (H : Heap) (locs : List Loc) (ls : Array Slot), ez_S X B s.heap (σ0.length) σ H locs → k_18 σ h0 x1 x2 x3 x4 x5 x6 = some z → lv_has ls 8 [(0, .ref (B + h0)), (1, .int x1), (2, .int x2), (3, .int x3), (4, .int x4), (5, .int x5), (6, .int x6)] → W p l e R s m args below meth c H locs 0 0 Q (F0 m 18 ls [])) (fun _ _ _ _ _ _ _ _ _ _ _ _ h _ => by cases h) (fun k_18 hk_18 => K_18 k_18 hk_18) ez_N
  refine lv_aload_n hx hb dX12_feed_0 rfl (lv_at hl 0 rfl) ?_
  refine eg_RX12_271 hC hS h dX12_feed_1 (fun t_1 h => ?_)
  refine lv_bipush (v := 20) hx hb dX12_feed_4 (by decide) ?_
  refine lv_iadd hx hb dX12_feed_6 ?_
  refine ez_top h (fun t_6 h => ?_)
  refine lv_sipush (v := 1600) hx hb dX12_feed_7 (by decide) ?_
  refine lv_icmp_le (tgt := 15) hx hb dX12_feed_10 (by decide) (fun c_10 => ?_) (fun c_10 => ?_)
  · replace h := ez_ifp h c_10
    refine lv_iconst (v := 0) hx hb dX12_feed_15 (by decide) ?_
    refine lv_istore (lv' := [(6, .int 0), (0, .ref (B + h0)), (1, .int x1), (2, .int x2), (3, .int x3), (4, .int x4), (5, .int x5)]) hx hb dX12_feed_16 hl (by decide) rfl (fun ls hl => ?_)
    exact E_18  σ h0 x1 x2 x3 x4 x5 (0 : Int32) _ _ _ hS h (lv_sub hl [1, 2, 3, 4, 5, 6, 0] rfl)
  · replace h := ez_ifn h c_10
    refine lv_iconst (v := -1) hx hb dX12_feed_13 (by decide) ?_
    exact hret _ _ _ _ _ _ (Option.some.inj h) rfl hS dX12_feed_14
set_option maxRecDepth 100000 in
noncomputable def z_X7_init (σ : ez_H) (h0 : Nat) : Option (Unit × ez_H) :=
  ez_bd (ez_ob σ 7 h0) fun _ =>
  ez_nw σ (.inl (1, 35, [])) fun t_7 σ =>
  ez_bd (ez_pf σ 7 h0 0 (.inr (.inr (some t_7)))) fun σ =>
  some ((), σ)
set_option maxHeartbeats 4000000 in
set_option maxRecDepth 100000 in
theorem c_X7_init {l : Launch} {X : ez_X} {B : Nat} {σ : ez_H} {h0 : Nat} {z : Unit × ez_H} (h : z_X7_init σ h0 = some z) : ez_Mn l X B σ yX7_init cX7_init 1 1 1 35 [.ref (B + h0)] z.2 := by
  refine ez_startn (by decide) rfl (Nat.le_of_ble_eq_true rfl) (fun p e R s m args below meth c Q hC hin hR hsz hret hS ls hl => ?_)
  have hC : ez_C p R s m args c X B RX7 cX7_init 1 1 := hC
  have hx := hC.1.1
  have hb := hC.1.2.1
  have hown := hC.1.2.2.2.1
  have hts := hC.1.2.2.2.2
  have hl : lv_has ls 1 [(0, .ref (B + h0))] := hl
  have hB : B ≤ s.heap.size := by omega
  obtain ⟨σ0, eσ⟩ : ∃ σ0 : ez_H, σ0 = σ := ⟨_, rfl⟩
  rw [← eσ] at hret
  have hS : ez_S X B s.heap σ0.length σ s.heap [] := eσ ▸ hS
  have hsz : s.heap.size + 0 = B + σ0.length := eσ ▸ hsz
  obtain ⟨-, h⟩ := ez_in h
  refine lv_aload_n hx hb dX7_init_0 rfl (lv_at hl 0 rfl) ?_
  refine ez_obj hC ql_RX7_5 hl.1 rfl (by decide) dX7_init_1 ?_
  refine lv_aload_n hx hb dX7_init_4 rfl (lv_at hl 0 rfl) ?_
  refine lv_bipush (v := 35) hx hb dX7_init_5 (by decide) ?_
  refine ez_newa (k := 1) (N := 35) (ty := .int) (atype := .int) (c1 := 1) (s1 := 35) (n1 := σ0.length + 1) hC hB hS hsz rfl rfl (fun _ _ h9 => h9) rfl qw_int (by decide) (by decide) (by decide) rfl rfl rfl (Nat.le_trans (by decide) hR.1) (Nat.le_trans (by decide) hR.2) h dX7_init_7 (fun t_7 σ H hS hsz h => ?_)
  refine eF_RX7_11 hin hC hS h dX7_init_9 (fun σ H locs hS h => ?_)
  exact hret _ _ _ _ _ _ (Option.some.inj h) hS dX7_init_12
set_option maxRecDepth 100000 in
noncomputable def z_X0_init (σ : ez_H) (h0 : Nat) : Option (Unit × ez_H) :=
  ez_bd (ez_ob σ 0 h0) fun _ =>
  ez_bd (ez_pf σ 0 h0 0 (.inl (0 : Int32))) fun σ =>
  ez_bd (ez_pf σ 0 h0 1 (.inl (0 : Int32))) fun σ =>
  ez_nw σ (.inl (1, 270, [])) fun t_18 σ =>
  ez_bd (ez_pf σ 0 h0 2 (.inr (.inr (some t_18)))) fun σ =>
  ez_nw σ (.inl (1, 270, [])) fun t_27 σ =>
  ez_bd (ez_pf σ 0 h0 3 (.inr (.inr (some t_27)))) fun σ =>
  ez_nw σ (.inl (1, 31, [])) fun t_35 σ =>
  ez_bd (ez_pf σ 0 h0 4 (.inr (.inr (some t_35)))) fun σ =>
  some ((), σ)
set_option maxHeartbeats 4000000 in
set_option maxRecDepth 100000 in
theorem c_X0_init {l : Launch} {X : ez_X} {B : Nat} {σ : ez_H} {h0 : Nat} {z : Unit × ez_H} (h : z_X0_init σ h0 = some z) : ez_Mn l X B σ yX0_init cX0_init 1 1 3 571 [.ref (B + h0)] z.2 := by
  refine ez_startn (by decide) rfl (Nat.le_of_ble_eq_true rfl) (fun p e R s m args below meth c Q hC hin hR hsz hret hS ls hl => ?_)
  have hC : ez_C p R s m args c X B RX0 cX0_init 1 1 := hC
  have hx := hC.1.1
  have hb := hC.1.2.1
  have hown := hC.1.2.2.2.1
  have hts := hC.1.2.2.2.2
  have hl : lv_has ls 1 [(0, .ref (B + h0))] := hl
  have hB : B ≤ s.heap.size := by omega
  obtain ⟨σ0, eσ⟩ : ∃ σ0 : ez_H, σ0 = σ := ⟨_, rfl⟩
  rw [← eσ] at hret
  have hS : ez_S X B s.heap σ0.length σ s.heap [] := eσ ▸ hS
  have hsz : s.heap.size + 0 = B + σ0.length := eσ ▸ hsz
  obtain ⟨-, h⟩ := ez_in h
  refine lv_aload_n hx hb dX0_init_0 rfl (lv_at hl 0 rfl) ?_
  refine ez_obj hC ql_RX0_3 hl.1 rfl (by decide) dX0_init_1 ?_
  refine lv_aload_n hx hb dX0_init_4 rfl (lv_at hl 0 rfl) ?_
  refine lv_iconst (v := 0) hx hb dX0_init_5 (by decide) ?_
  refine ep_RX0_9 hC hS h dX0_init_6 (fun σ H locs hS h => ?_)
  refine lv_aload_n hx hb dX0_init_9 rfl (lv_at hl 0 rfl) ?_
  refine lv_iconst (v := 0) hx hb dX0_init_10 (by decide) ?_
  refine ep_RX0_13 hC hS h dX0_init_11 (fun σ H locs hS h => ?_)
  refine lv_aload_n hx hb dX0_init_14 rfl (lv_at hl 0 rfl) ?_
  refine lv_sipush (v := 270) hx hb dX0_init_15 (by decide) ?_
  refine ez_newa (k := 1) (N := 270) (ty := .int) (atype := .int) (c1 := 1) (s1 := 270) (n1 := σ0.length + 1) hC hB hS hsz rfl rfl (fun _ _ h9 => h9) rfl qw_int (by decide) (by decide) (by decide) rfl rfl rfl (Nat.le_trans (by decide) hR.1) (Nat.le_trans (by decide) hR.2) h dX0_init_18 (fun t_18 σ H hS hsz h => ?_)
  refine eF_RX0_16 hin hC hS h dX0_init_20 (fun σ H locs hS h => ?_)
  refine lv_aload_n hx hb dX0_init_23 rfl (lv_at hl 0 rfl) ?_
  refine lv_sipush (v := 270) hx hb dX0_init_24 (by decide) ?_
  refine ez_newa (k := 1) (N := 270) (ty := .int) (atype := .int) (c1 := 2) (s1 := 540) (n1 := σ0.length + 2) hC hB hS hsz rfl rfl (fun _ _ h9 => h9) rfl qw_int (by decide) (by decide) (by decide) rfl rfl rfl (Nat.le_trans (by decide) hR.1) (Nat.le_trans (by decide) hR.2) h dX0_init_27 (fun t_27 σ H hS hsz h => ?_)
  refine eF_RX0_20 hin hC hS h dX0_init_29 (fun σ H locs hS h => ?_)
  refine lv_aload_n hx hb dX0_init_32 rfl (lv_at hl 0 rfl) ?_
  refine lv_bipush (v := 31) hx hb dX0_init_33 (by decide) ?_
  refine ez_newa (k := 1) (N := 31) (ty := .int) (atype := .int) (c1 := 3) (s1 := 571) (n1 := σ0.length + 3) hC hB hS hsz rfl rfl (fun _ _ h9 => h9) rfl qw_int (by decide) (by decide) (by decide) rfl rfl rfl (Nat.le_trans (by decide) hR.1) (Nat.le_trans (by decide) hR.2) h dX0_init_35 (fun t_35 σ H hS hsz h => ?_)
  refine eF_RX0_23 hin hC hS h dX0_init_37 (fun σ H locs hS h => ?_)
  exact hret _ _ _ _ _ _ (Option.some.inj h) hS dX0_init_40
