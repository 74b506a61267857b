set_option maxHeartbeats 4000000 in
set_option maxRecDepth 100000 in
theorem c_X1_redoable {l : Launch} {X : ez_X} {B : Nat} {σ : ez_H} {h0 : Nat} {z : Int32} (h : z_X1_redoable σ h0 = some z) : ez_M l X B σ yX1_redoable cX1_redoable 1 (some .int) 0 [.ref (B + h0)] (some (.int z)) σ := by
  refine ez_startip (z := z) (by decide) (Nat.le_of_ble_eq_true rfl) (fun p e R s m args below meth c Q hC hret hS ls hl => ?_)
  have hC : ez_C p R s m args c X B RX1 cX1_redoable 1 0 := hC
  have hx := hC.1.1
  have hb := hC.1.2.1
  have hown := hC.1.2.2.2.1
  have hts := hC.1.2.2.2.2
  have hl : lv_has ls 1 [(0, .ref (B + h0))] := hl
  obtain ⟨n0, e0⟩ : ∃ n0 : Nat, n0 = σ.length := ⟨_, rfl⟩
  rw [← e0] at hret hS
  obtain ⟨-, h⟩ := ez_in h
  refine lv_aload_n hx hb dX1_redoable_0 rfl (lv_at hl 0 rfl) ?_
  refine eg_RX1_23 hC hS h dX1_redoable_1 (fun t_1 h => ?_)
  refine lv_aload_n hx hb dX1_redoable_4 rfl (lv_at hl 0 rfl) ?_
  refine eg_RX1_20 hC hS h dX1_redoable_5 (fun t_5 h => ?_)
  refine lv_isub hx hb dX1_redoable_8 ?_
  refine ez_top h (fun t_8 h => ?_)
  exact hret _ _ _ _ _ (Option.some.inj h) rfl hS dX1_redoable_9
set_option maxHeartbeats 4000000 in
set_option maxRecDepth 100000 in
theorem c_X1_undoable {l : Launch} {X : ez_X} {B : Nat} {σ : ez_H} {h0 : Nat} {z : Int32} (h : z_X1_undoable σ h0 = some z) : ez_M l X B σ yX1_undoable cX1_undoable 1 (some .int) 0 [.ref (B + h0)] (some (.int z)) σ := by
  refine ez_startip (z := z) (by decide) (Nat.le_of_ble_eq_true rfl) (fun p e R s m args below meth c Q hC hret hS ls hl => ?_)
  have hC : ez_C p R s m args c X B RX1 cX1_undoable 1 0 := hC
  have hx := hC.1.1
  have hb := hC.1.2.1
  have hown := hC.1.2.2.2.1
  have hts := hC.1.2.2.2.2
  have hl : lv_has ls 1 [(0, .ref (B + h0))] := hl
  obtain ⟨n0, e0⟩ : ∃ n0 : Nat, n0 = σ.length := ⟨_, rfl⟩
  rw [← e0] at hret hS
  obtain ⟨-, h⟩ := ez_in h
  refine lv_aload_n hx hb dX1_undoable_0 rfl (lv_at hl 0 rfl) ?_
  refine eg_RX1_20 hC hS h dX1_undoable_1 (fun t_1 h => ?_)
  exact hret _ _ _ _ _ (Option.some.inj h) rfl hS dX1_undoable_4
set_option maxHeartbeats 4000000 in
set_option maxRecDepth 100000 in
theorem c_X7_look {l : Launch} {X : ez_X} {B : Nat} {σ : ez_H} {h0 : Nat} {x1 : Int32} {z : Int32} (h : z_X7_look σ h0 x1 = some z) : ez_M l X B σ yX7_look cX7_look 2 (some .int) 0 [.ref (B + h0), .int x1] (some (.int z)) σ := by
  refine ez_startip (z := z) (by decide) (Nat.le_of_ble_eq_true rfl) (fun p e R s m args below meth c Q hC hret hS ls hl => ?_)
  have hC : ez_C p R s m args c X B RX7 cX7_look 2 0 := hC
  have hx := hC.1.1
  have hb := hC.1.2.1
  have hown := hC.1.2.2.2.1
  have hts := hC.1.2.2.2.2
  have hl : lv_has ls 2 [(0, .ref (B + h0)), (1, .int x1)] := hl
  obtain ⟨n0, e0⟩ : ∃ n0 : Nat, n0 = σ.length := ⟨_, rfl⟩
  rw [← e0] at hret hS
  obtain ⟨-, h⟩ := ez_in h
  have K_20 : ∀ (y0 : Int32) (H : Heap) (locs : List Loc) (ls : Array Slot), ez_S X B s.heap (n0) σ H locs → z_X7_look_20 σ y0 = some z → lv_has ls 2 [] → W p l e R s m args below meth c H locs 0 0 Q (F0 m 20 ls [.int y0]) := by
    intro y0 H locs ls hS h hl
    exact hret _ _ _ _ _ (Option.some.inj h) rfl hS dX7_look_20
  have K_19 : ∀ (H : Heap) (locs : List Loc) (ls : Array Slot), ez_S X B s.heap (n0) σ H locs → z_X7_look_19 σ = some z → lv_has ls 2 [] → W p l e R s m args below meth c H locs 0 0 Q (F0 m 19 ls []) := by
    intro  H locs ls hS h hl
    refine lv_iconst (v := 0) hx hb dX7_look_19 (by decide) ?_
    exact K_20  (0 : Int32) _ _ _ hS h (lv_sub hl [] rfl)
  refine lv_iload_n hx hb dX7_look_0 rfl (lv_at hl 1 rfl) ?_
  refine lv_if_lt (tgt := 19) hx hb dX7_look_1 (by decide) (fun c_1 => ?_) (fun c_1 => ?_)
  · replace h := ez_ifp h c_1
    exact K_19   _ _ _ hS h (lv_sub hl [] rfl)
  · replace h := ez_ifn h c_1
    refine lv_iload_n hx hb dX7_look_4 rfl (lv_at hl 1 rfl) ?_
    refine lv_bipush (v := 35) hx hb dX7_look_5 (by decide) ?_
    refine lv_icmp_ge (tgt := 19) hx hb dX7_look_7 (by decide) (fun c_7 => ?_) (fun c_7 => ?_)
    · replace h := ez_ifp h c_7
      exact K_19   _ _ _ hS h (lv_sub hl [] rfl)
    · replace h := ez_ifn h c_7
      refine lv_aload_n hx hb dX7_look_10 rfl (lv_at hl 0 rfl) ?_
      refine eg_RX7_11 hC hS h dX7_look_11 (fun t_11 h => ?_)
      refine lv_iload_n hx hb dX7_look_14 rfl (lv_at hl 1 rfl) ?_
      refine ez_ial hC hS h dX7_look_15 (fun t_15 h => ?_)
      refine lv_goto (tgt := 20) hx hb dX7_look_16 (by decide) ?_
      exact K_20  t_15 _ _ _ hS h (lv_sub hl [] rfl)
set_option maxHeartbeats 4000000 in
set_option maxRecDepth 100000 in
theorem c_X7_seed {l : Launch} {X : ez_X} {B : Nat} {σ : ez_H} {h0 : Nat} {z : Int32} (h : z_X7_seed σ h0 = some z) : ez_M l X B σ yX7_seed cX7_seed 1 (some .int) 1 [.ref (B + h0)] (some (.int z)) σ := by
  refine ez_startip (z := z) (by decide) (Nat.le_of_ble_eq_true rfl) (fun p e R s m args below meth c Q hC hret hS ls hl => ?_)
  have hC : ez_C p R s m args c X B RX7 cX7_seed 1 1 := hC
  have hx := hC.1.1
  have hb := hC.1.2.1
  have hown := hC.1.2.2.2.1
  have hts := hC.1.2.2.2.2
  have hl : lv_has ls 1 [(0, .ref (B + h0))] := hl
  obtain ⟨n0, e0⟩ : ∃ n0 : Nat, n0 = σ.length := ⟨_, rfl⟩
  rw [← e0] at hret hS
  obtain ⟨-, h⟩ := ez_in h
  refine lv_aload_n hx hb dX7_seed_0 rfl (lv_at hl 0 rfl) ?_
  refine lv_bipush (v := 34) hx hb dX7_seed_1 (by decide) ?_
  refine ez_cVpi (As := [.int 34]) (rest := []) h (fun _ q => c_X7_look q) hC k_X7_look ql_RX7_27 rfl (by decide) hS (fun _ q => ez_rcv q) rfl hl.1 rfl (Nat.le_of_ble_eq_true rfl) ⟨Nat.zero_le _, Nat.zero_le _⟩ dX7_seed_3 (fun t_3 H locs hS h => ?_)
  exact hret _ _ _ _ _ (Option.some.inj h) rfl hS dX7_seed_6
set_option maxHeartbeats 4000000 in
set_option maxRecDepth 100000 in
theorem c_X11_about {l : Launch} {X : ez_X} {B : Nat} {σ : ez_H} {h0 : Nat} {x1 : Int32} {z : Int32} (h : z_X11_about σ h0 x1 = some z) : ez_M l X B σ yX11_about cX11_about 2 (some .int) 2 [.ref (B + h0), .int x1] (some (.int z)) σ := by
  refine ez_startip (z := z) (by decide) (Nat.le_of_ble_eq_true rfl) (fun p e R s m args below meth c Q hC hret hS ls hl => ?_)
  have hC : ez_C p R s m args c X B RX11 cX11_about 2 2 := hC
  have hx := hC.1.1
  have hb := hC.1.2.1
  have hown := hC.1.2.2.2.1
  have hts := hC.1.2.2.2.2
  have hl : lv_has ls 2 [(0, .ref (B + h0)), (1, .int x1)] := hl
  obtain ⟨n0, e0⟩ : ∃ n0 : Nat, n0 = σ.length := ⟨_, rfl⟩
  rw [← e0] at hret hS
  obtain ⟨-, h⟩ := ez_in h
  refine lv_iload_n hx hb dX11_about_0 rfl (lv_at hl 1 rfl) ?_
  by_cases s_1_0 : x1 = 0
  · replace h := ez_ifp h s_1_0
    refine lv_tableIn (tgt := 80) hx hb dX11_about_1 (by rw [s_1_0]; decide) (by rw [s_1_0]; decide) (by first | (rw [s_1_0]; done) | (rw [s_1_0]; rfl)) (by decide) ?_
    refine lv_aload_n hx hb dX11_about_80 rfl (lv_at hl 0 rfl) ?_
    refine eg_RX11_29 hC hS h dX11_about_81 (fun t_81 h => ?_)
    refine eg_RX11_128 hC hS h dX11_about_84 (fun t_84 h => ?_)
    exact hret _ _ _ _ _ (Option.some.inj h) rfl hS dX11_about_87
  replace h := ez_ifn h s_1_0
  by_cases s_1_1 : x1 = 1
  · replace h := ez_ifp h s_1_1
    refine lv_tableIn (tgt := 88) hx hb dX11_about_1 (by rw [s_1_1]; decide) (by rw [s_1_1]; decide) (by first | (rw [s_1_1]; done) | (rw [s_1_1]; rfl)) (by decide) ?_
    refine lv_aload_n hx hb dX11_about_88 rfl (lv_at hl 0 rfl) ?_
    refine eg_RX11_29 hC hS h dX11_about_89 (fun t_89 h => ?_)
    refine eg_RX11_392 hC hS h dX11_about_92 (fun t_92 h => ?_)
    exact hret _ _ _ _ _ (Option.some.inj h) rfl hS dX11_about_95
  replace h := ez_ifn h s_1_1
  by_cases s_1_2 : x1 = 2
  · replace h := ez_ifp h s_1_2
    refine lv_tableIn (tgt := 96) hx hb dX11_about_1 (by rw [s_1_2]; decide) (by rw [s_1_2]; decide) (by first | (rw [s_1_2]; done) | (rw [s_1_2]; rfl)) (by decide) ?_
    refine lv_aload_n hx hb dX11_about_96 rfl (lv_at hl 0 rfl) ?_
    refine eg_RX11_29 hC hS h dX11_about_97 (fun t_97 h => ?_)
    refine eg_RX11_421 hC hS h dX11_about_100 (fun t_100 h => ?_)
    exact hret _ _ _ _ _ (Option.some.inj h) rfl hS dX11_about_103
  replace h := ez_ifn h s_1_2
  by_cases s_1_3 : x1 = 3
  · replace h := ez_ifp h s_1_3
    refine lv_tableIn (tgt := 104) hx hb dX11_about_1 (by rw [s_1_3]; decide) (by rw [s_1_3]; decide) (by first | (rw [s_1_3]; done) | (rw [s_1_3]; rfl)) (by decide) ?_
    refine lv_aload_n hx hb dX11_about_104 rfl (lv_at hl 0 rfl) ?_
    refine eg_RX11_29 hC hS h dX11_about_105 (fun t_105 h => ?_)
    refine eg_RX11_424 hC hS h dX11_about_108 (fun t_108 h => ?_)
    exact hret _ _ _ _ _ (Option.some.inj h) rfl hS dX11_about_111
  replace h := ez_ifn h s_1_3
  by_cases s_1_4 : x1 = 4
  · replace h := ez_ifp h s_1_4
    refine lv_tableIn (tgt := 112) hx hb dX11_about_1 (by rw [s_1_4]; decide) (by rw [s_1_4]; decide) (by first | (rw [s_1_4]; done) | (rw [s_1_4]; rfl)) (by decide) ?_
    refine lv_aload_n hx hb dX11_about_112 rfl (lv_at hl 0 rfl) ?_
    refine eg_RX11_29 hC hS h dX11_about_113 (fun t_113 h => ?_)
    refine eg_RX11_368 hC hS h dX11_about_116 (fun t_116 h => ?_)
    exact hret _ _ _ _ _ (Option.some.inj h) rfl hS dX11_about_119
  replace h := ez_ifn h s_1_4
  by_cases s_1_5 : x1 = 5
  · replace h := ez_ifp h s_1_5
    refine lv_tableIn (tgt := 120) hx hb dX11_about_1 (by rw [s_1_5]; decide) (by rw [s_1_5]; decide) (by first | (rw [s_1_5]; done) | (rw [s_1_5]; rfl)) (by decide) ?_
    refine lv_aload_n hx hb dX11_about_120 rfl (lv_at hl 0 rfl) ?_
    refine eg_RX11_37 hC hS h dX11_about_121 (fun t_121 h => ?_)
    refine eg_RX11_243 hC hS h dX11_about_124 (fun t_124 h => ?_)
    exact hret _ _ _ _ _ (Option.some.inj h) rfl hS dX11_about_127
  replace h := ez_ifn h s_1_5
  by_cases s_1_6 : x1 = 6
  · replace h := ez_ifp h s_1_6
    refine lv_tableIn (tgt := 128) hx hb dX11_about_1 (by rw [s_1_6]; decide) (by rw [s_1_6]; decide) (by first | (rw [s_1_6]; done) | (rw [s_1_6]; rfl)) (by decide) ?_
    refine lv_aload_n hx hb dX11_about_128 rfl (lv_at hl 0 rfl) ?_
    refine eg_RX11_37 hC hS h dX11_about_129 (fun t_129 h => ?_)
    refine eg_RX11_427 hC hS h dX11_about_132 (fun t_132 h => ?_)
    exact hret _ _ _ _ _ (Option.some.inj h) rfl hS dX11_about_135
  replace h := ez_ifn h s_1_6
  by_cases s_1_7 : x1 = 7
  · replace h := ez_ifp h s_1_7
    refine lv_tableIn (tgt := 136) hx hb dX11_about_1 (by rw [s_1_7]; decide) (by rw [s_1_7]; decide) (by first | (rw [s_1_7]; done) | (rw [s_1_7]; rfl)) (by decide) ?_
    refine lv_aload_n hx hb dX11_about_136 rfl (lv_at hl 0 rfl) ?_
    refine eg_RX11_37 hC hS h dX11_about_137 (fun t_137 h => ?_)
    refine eg_RX11_304 hC hS h dX11_about_140 (fun t_140 h => ?_)
    exact hret _ _ _ _ _ (Option.some.inj h) rfl hS dX11_about_143
  replace h := ez_ifn h s_1_7
  by_cases s_1_8 : x1 = 8
  · replace h := ez_ifp h s_1_8
    refine lv_tableIn (tgt := 144) hx hb dX11_about_1 (by rw [s_1_8]; decide) (by rw [s_1_8]; decide) (by first | (rw [s_1_8]; done) | (rw [s_1_8]; rfl)) (by decide) ?_
    refine lv_aload_n hx hb dX11_about_144 rfl (lv_at hl 0 rfl) ?_
    refine eg_RX11_41 hC hS h dX11_about_145 (fun t_145 h => ?_)
    refine ez_cVpi (As := []) (rest := []) h (fun _ q => c_X7_seed q) hC k_X7_seed ql_RX11_236 rfl (by decide) hS (fun _ q => ez_rcv q) rfl hl.1 rfl (Nat.le_of_ble_eq_true rfl) ⟨Nat.zero_le _, Nat.zero_le _⟩ dX11_about_148 (fun t_148 H locs hS h => ?_)
    exact hret _ _ _ _ _ (Option.some.inj h) rfl hS dX11_about_151
  replace h := ez_ifn h s_1_8
  by_cases s_1_9 : x1 = 9
  · replace h := ez_ifp h s_1_9
    refine lv_tableIn (tgt := 152) hx hb dX11_about_1 (by rw [s_1_9]; decide) (by rw [s_1_9]; decide) (by first | (rw [s_1_9]; done) | (rw [s_1_9]; rfl)) (by decide) ?_
    refine lv_aload_n hx hb dX11_about_152 rfl (lv_at hl 0 rfl) ?_
    refine eg_RX11_51 hC hS h dX11_about_153 (fun t_153 h => ?_)
    refine ez_cVpi (As := []) (rest := []) h (fun _ q => c_X1_undoable q) hC k_X1_undoable ql_RX11_430 rfl (by decide) hS (fun _ q => ez_rcv q) rfl hl.1 rfl (Nat.le_of_ble_eq_true rfl) ⟨Nat.zero_le _, Nat.zero_le _⟩ dX11_about_156 (fun t_156 H locs hS h => ?_)
    exact hret _ _ _ _ _ (Option.some.inj h) rfl hS dX11_about_159
  replace h := ez_ifn h s_1_9
  by_cases s_1_10 : x1 = 10
  · replace h := ez_ifp h s_1_10
    refine lv_tableIn (tgt := 160) hx hb dX11_about_1 (by rw [s_1_10]; decide) (by rw [s_1_10]; decide) (by first | (rw [s_1_10]; done) | (rw [s_1_10]; rfl)) (by decide) ?_
    refine lv_aload_n hx hb dX11_about_160 rfl (lv_at hl 0 rfl) ?_
    refine eg_RX11_51 hC hS h dX11_about_161 (fun t_161 h => ?_)
    refine ez_cVpi (As := []) (rest := []) h (fun _ q => c_X1_redoable q) hC k_X1_redoable ql_RX11_433 rfl (by decide) hS (fun _ q => ez_rcv q) rfl hl.1 rfl (Nat.le_of_ble_eq_true rfl) ⟨Nat.zero_le _, Nat.zero_le _⟩ dX11_about_164 (fun t_164 H locs hS h => ?_)
    exact hret _ _ _ _ _ (Option.some.inj h) rfl hS dX11_about_167
  replace h := ez_ifn h s_1_10
  by_cases s_1_11 : x1 = 11
  · replace h := ez_ifp h s_1_11
    refine lv_tableIn (tgt := 168) hx hb dX11_about_1 (by rw [s_1_11]; decide) (by rw [s_1_11]; decide) (by first | (rw [s_1_11]; done) | (rw [s_1_11]; rfl)) (by decide) ?_
    refine lv_aload_n hx hb dX11_about_168 rfl (lv_at hl 0 rfl) ?_
    refine eg_RX11_93 hC hS h dX11_about_169 (fun t_169 h => ?_)
    refine eg_RX11_436 hC hS h dX11_about_172 (fun t_172 h => ?_)
    exact hret _ _ _ _ _ (Option.some.inj h) rfl hS dX11_about_175
  replace h := ez_ifn h s_1_11
  by_cases s_1_12 : x1 = 12
  · replace h := ez_ifp h s_1_12
    refine lv_tableIn (tgt := 176) hx hb dX11_about_1 (by rw [s_1_12]; decide) (by rw [s_1_12]; decide) (by first | (rw [s_1_12]; done) | (rw [s_1_12]; rfl)) (by decide) ?_
    refine lv_aload_n hx hb dX11_about_176 rfl (lv_at hl 0 rfl) ?_
    refine eg_RX11_93 hC hS h dX11_about_177 (fun t_177 h => ?_)
    refine eg_RX11_439 hC hS h dX11_about_180 (fun t_180 h => ?_)
    exact hret _ _ _ _ _ (Option.some.inj h) rfl hS dX11_about_183
  replace h := ez_ifn h s_1_12
  by_cases s_1_13 : x1 = 13
  · replace h := ez_ifp h s_1_13
    refine lv_tableIn (tgt := 184) hx hb dX11_about_1 (by rw [s_1_13]; decide) (by rw [s_1_13]; decide) (by first | (rw [s_1_13]; done) | (rw [s_1_13]; rfl)) (by decide) ?_
    refine lv_aload_n hx hb dX11_about_184 rfl (lv_at hl 0 rfl) ?_
    refine eg_RX11_13 hC hS h dX11_about_185 (fun t_185 h => ?_)
    exact hret _ _ _ _ _ (Option.some.inj h) rfl hS dX11_about_188
  replace h := ez_ifn h s_1_13
  by_cases s_1_14 : x1 = 14
  · replace h := ez_ifp h s_1_14
    refine lv_tableIn (tgt := 189) hx hb dX11_about_1 (by rw [s_1_14]; decide) (by rw [s_1_14]; decide) (by first | (rw [s_1_14]; done) | (rw [s_1_14]; rfl)) (by decide) ?_
    refine lv_aload_n hx hb dX11_about_189 rfl (lv_at hl 0 rfl) ?_
    refine eg_RX11_29 hC hS h dX11_about_190 (fun t_190 h => ?_)
    refine eg_RX11_251 hC hS h dX11_about_193 (fun t_193 h => ?_)
    refine eg_RX11_442 hC hS h dX11_about_196 (fun t_196 h => ?_)
    exact hret _ _ _ _ _ (Option.some.inj h) rfl hS dX11_about_199
  replace h := ez_ifn h s_1_14
  by_cases s_1_15 : x1 = 15
  · replace h := ez_ifp h s_1_15
    refine lv_tableIn (tgt := 200) hx hb dX11_about_1 (by rw [s_1_15]; decide) (by rw [s_1_15]; decide) (by first | (rw [s_1_15]; done) | (rw [s_1_15]; rfl)) (by decide) ?_
    refine lv_aload_n hx hb dX11_about_200 rfl (lv_at hl 0 rfl) ?_
    refine eg_RX11_79 hC hS h dX11_about_201 (fun t_201 h => ?_)
    refine eg_RX11_445 hC hS h dX11_about_204 (fun t_204 h => ?_)
    exact hret _ _ _ _ _ (Option.some.inj h) rfl hS dX11_about_207
  replace h := ez_ifn h s_1_15
  have w_1 : Int32.toInt x1 < 0 ∨ 15 < Int32.toInt x1 := by
    have q_0 := ez_toNe (k := 0) s_1_0 (by decide)
    have q_1 := ez_toNe (k := 1) s_1_1 (by decide)
    have q_2 := ez_toNe (k := 2) s_1_2 (by decide)
    have q_3 := ez_toNe (k := 3) s_1_3 (by decide)
    have q_4 := ez_toNe (k := 4) s_1_4 (by decide)
    have q_5 := ez_toNe (k := 5) s_1_5 (by decide)
    have q_6 := ez_toNe (k := 6) s_1_6 (by decide)
    have q_7 := ez_toNe (k := 7) s_1_7 (by decide)
    have q_8 := ez_toNe (k := 8) s_1_8 (by decide)
    have q_9 := ez_toNe (k := 9) s_1_9 (by decide)
    have q_10 := ez_toNe (k := 10) s_1_10 (by decide)
    have q_11 := ez_toNe (k := 11) s_1_11 (by decide)
    have q_12 := ez_toNe (k := 12) s_1_12 (by decide)
    have q_13 := ez_toNe (k := 13) s_1_13 (by decide)
    have q_14 := ez_toNe (k := 14) s_1_14 (by decide)
    have q_15 := ez_toNe (k := 15) s_1_15 (by decide)
    omega
  refine lv_tableOut (tgt := 208) hx hb dX11_about_1 w_1 (by decide) ?_
  refine lv_iconst (v := -1) hx hb dX11_about_208 (by decide) ?_
  exact hret _ _ _ _ _ (Option.some.inj h) rfl hS dX11_about_209
set_option maxHeartbeats 4000000 in
set_option maxRecDepth 100000 in
theorem c_X8_isMarked {l : Launch} {X : ez_X} {B : Nat} {σ : ez_H} {h0 : Nat} {x1 : Int32} {x2 : Int32} {z : Int32 × ez_H} (h : z_X8_isMarked σ h0 x1 x2 = some z) : ez_M l X B σ yX8_isMarked cX8_isMarked 4 (some .boolean) 0 [.ref (B + h0), .int x1, .int x2] (some (.int z.1)) z.2 := by
  refine ez_starti (z := z) (by decide) (Nat.le_of_ble_eq_true rfl) (fun p e R s m args below meth c Q hC hret hS ls hl => ?_)
  have hC : ez_C p R s m args c X B RX8 cX8_isMarked 4 0 := hC
  have hx := hC.1.1
  have hb := hC.1.2.1
  have hown := hC.1.2.2.2.1
  have hts := hC.1.2.2.2.2
  have hl : lv_has ls 4 [(0, .ref (B + h0)), (1, .int x1), (2, .int x2)] := hl
  obtain ⟨σ0, eσ⟩ : ∃ σ0 : ez_H, σ0 = σ := ⟨_, rfl⟩
  rw [← eσ] at hret
  have hS : ez_S X B s.heap σ0.length σ s.heap [] := eσ ▸ hS
  obtain ⟨-, h⟩ := ez_in h
  have K_10 : ∀ (σ : ez_H) (H : Heap) (locs : List Loc) (ls : Array Slot), ez_S X B s.heap (σ0.length) σ H locs → z_X8_isMarked_10 σ = some z → lv_has ls 4 [] → W p l e R s m args below meth c H locs 0 0 Q (F0 m 10 ls []) := by
    intro σ H locs ls hS h hl
    refine lv_iconst (v := 0) hx hb dX8_isMarked_10 (by decide) ?_
    have hn : narrow .boolean (.int 0) = .int 0 := by decide
    exact hret _ _ _ _ _ _ (Option.some.inj h) hn hS dX8_isMarked_11
  have K_27 : ∀ (σ : ez_H) (h0 : Nat) (x1 : Int32) (x2 : Int32) (y0 : Int32) (H : Heap) (locs : List Loc) (ls : Array Slot), ez_S X B s.heap (σ0.length) σ H locs → z_X8_isMarked_27 σ h0 x1 x2 y0 = some z → lv_has ls 4 [(0, .ref (B + h0)), (1, .int x1), (2, .int x2)] → W p l e R s m args below meth c H locs 0 0 Q (F0 m 27 ls [.int y0]) := by
    intro σ h0 x1 x2 y0 H locs ls hS h hl
    refine lv_istore_n (lv' := [(3, .int y0), (0, .ref (B + h0)), (1, .int x1), (2, .int x2)]) hx hb dX8_isMarked_27 rfl hl (by decide) rfl (fun ls hl => ?_)
    refine lv_aload_n hx hb dX8_isMarked_28 rfl (lv_at hl 1 rfl) ?_
    refine eg_RX8_22 hC hS h dX8_isMarked_29 (fun t_29 h => ?_)
    refine lv_iload_n hx hb dX8_isMarked_32 rfl (lv_at hl 2 rfl) ?_
    refine lv_iload_n hx hb dX8_isMarked_33 rfl (lv_at hl 3 rfl) ?_
    refine ez_ias hC hS h dX8_isMarked_34 (fun σ H locs hS h => ?_)
    refine lv_iload_n hx hb dX8_isMarked_35 rfl (lv_at hl 0 rfl) ?_
    obtain ⟨hn, h⟩ := ez_nr_sp rfl h
    exact hret _ _ _ _ _ _ (Option.some.inj h) hn hS dX8_isMarked_36
  refine lv_iload_n hx hb dX8_isMarked_0 rfl (lv_at hl 1 rfl) ?_
  refine lv_if_lt (tgt := 10) hx hb dX8_isMarked_1 (by decide) (fun c_1 => ?_) (fun c_1 => ?_)
  · replace h := ez_ifp h c_1
    exact K_10  σ _ _ _ hS h (lv_sub hl [] rfl)
  · replace h := ez_ifn h c_1
    refine lv_iload_n hx hb dX8_isMarked_4 rfl (lv_at hl 1 rfl) ?_
    refine lv_bipush (v := 10) hx hb dX8_isMarked_5 (by decide) ?_
    refine lv_icmp_lt (tgt := 12) hx hb dX8_isMarked_7 (by decide) (fun c_7 => ?_) (fun c_7 => ?_)
    · replace h := ez_ifp h c_7
      refine lv_aload_n hx hb dX8_isMarked_12 rfl (lv_at hl 0 rfl) ?_
      refine eg_RX8_22 hC hS h dX8_isMarked_13 (fun t_13 h => ?_)
      refine lv_iload_n hx hb dX8_isMarked_16 rfl (lv_at hl 1 rfl) ?_
      refine ez_ial hC hS h dX8_isMarked_17 (fun t_17 h => ?_)
      refine lv_iload_n hx hb dX8_isMarked_18 rfl (lv_at hl 2 rfl) ?_
      refine lv_icmp_ne (tgt := 26) hx hb dX8_isMarked_19 (by decide) (fun c_19 => ?_) (fun c_19 => ?_)
      · replace h := ez_ifn h c_19
        refine lv_iconst (v := 0) hx hb dX8_isMarked_26 (by decide) ?_
        exact K_27  σ h0 x1 x2 (0 : Int32) _ _ _ hS h (lv_sub hl [0, 1, 2] rfl)
      · replace h := ez_ifp h c_19
        refine lv_iconst (v := 1) hx hb dX8_isMarked_22 (by decide) ?_
        refine lv_goto (tgt := 27) hx hb dX8_isMarked_23 (by decide) ?_
        exact K_27  σ h0 x1 x2 (1 : Int32) _ _ _ hS h (lv_sub hl [0, 1, 2] rfl)
    · replace h := ez_ifn h c_7
      exact K_10  σ _ _ _ hS h (lv_sub hl [] rfl)
set_option maxHeartbeats 4000000 in
set_option maxRecDepth 100000 in
theorem c_X7_pins {l : Launch} {X : ez_X} {B : Nat} {σ : ez_H} {h0 : Nat} {x1 : Int32} {z : Int32} (h : z_X7_pins σ h0 x1 = some z) : ez_M l X B σ yX7_pins cX7_pins 2 (some .int) 1 [.ref (B + h0), .int x1] (some (.int z)) σ := by
  refine ez_startip (z := z) (by decide) (Nat.le_of_ble_eq_true rfl) (fun p e R s m args below meth c Q hC hret hS ls hl => ?_)
  have hC : ez_C p R s m args c X B RX7 cX7_pins 2 1 := hC
  have hx := hC.1.1
  have hb := hC.1.2.1
  have hown := hC.1.2.2.2.1
  have hts := hC.1.2.2.2.2
  have hl : lv_has ls 2 [(0, .ref (B + h0)), (1, .int x1)] := hl
  obtain ⟨n0, e0⟩ : ∃ n0 : Nat, n0 = σ.length := ⟨_, rfl⟩
  rw [← e0] at hret hS
  obtain ⟨-, h⟩ := ez_in h
  refine lv_aload_n hx hb dX7_pins_0 rfl (lv_at hl 0 rfl) ?_
  refine lv_bipush (v := 24) hx hb dX7_pins_1 (by decide) ?_
  refine lv_iload_n hx hb dX7_pins_3 rfl (lv_at hl 1 rfl) ?_
  refine lv_iadd hx hb dX7_pins_4 ?_
  refine ez_top h (fun t_4 h => ?_)
  refine ez_cVpi (As := [.int t_4]) (rest := []) h (fun _ q => c_X7_look q) hC k_X7_look ql_RX7_27 rfl (by decide) hS (fun _ q => ez_rcv q) rfl hl.1 rfl (Nat.le_of_ble_eq_true rfl) ⟨Nat.zero_le _, Nat.zero_le _⟩ dX7_pins_5 (fun t_5 H locs hS h => ?_)
  exact hret _ _ _ _ _ (Option.some.inj h) rfl hS dX7_pins_8
set_option maxHeartbeats 4000000 in
set_option maxRecDepth 100000 in
theorem c_J7_fill_53178 {l : Launch} {X : ez_X} {B : Nat} {σ : ez_H} {h0 : Nat} {x1 : Int32} {z : Unit × ez_H} (h : z_J7_fill_53178 σ h0 x1 = some z) : ez_M l X B σ yJ7_fill_53178 cJ7_fill_53178 4 (none) 0 [.ref (B + h0), .int x1] (none) z.2 := by
  refine ez_startv (z := z) (by decide) (Nat.le_of_ble_eq_true rfl) (fun p e R s m args below meth c Q hC hret hS ls hl => ?_)
  have hC : ez_C p R s m args c X B RJ7 cJ7_fill_53178 4 0 := hC
  have hx := hC.1.1
  have hb := hC.1.2.1
  have hown := hC.1.2.2.2.1
  have hts := hC.1.2.2.2.2
  have hl : lv_has ls 4 [(0, .ref (B + h0)), (1, .int x1)] := hl
  obtain ⟨σ0, eσ⟩ : ∃ σ0 : ez_H, σ0 = σ := ⟨_, rfl⟩
  rw [← eσ] at hret
  have hS : ez_S X B s.heap σ0.length σ s.heap [] := eσ ▸ hS
  have K_5 : ∀ (k_5 : ez_H → Nat → Int32 → Int32 → Int32 → Option (Unit × ez_H)) (hk_5 : ∀ (σ : ez_H) (h0 : Nat) (x1 : Int32) (x2 : Int32) (x3 : Int32) (H : Heap) (locs : List Loc) (ls : Array Slot), ez_S X B s.heap (σ0.length) σ H locs → k_5 σ h0 x1 x2 x3 = some z → lv_has ls 4 [(0, .ref (B + h0)), (1, .int x1), (2, .int x2), (3, .int x3)] → W p l e R s m args below meth c H locs 0 0 Q (F0 m 5 ls [])), ∀ (σ : ez_H) (h0 : Nat) (x1 : Int32) (x2 : Int32) (x3 : Int32) (H : Heap) (locs : List Loc) (ls : Array Slot), ez_S X B s.heap (σ0.length) σ H locs → z_J7_fill_53178_5 k_5 σ h0 x1 x2 x3 = some z → lv_has ls 4 [(0, .ref (B + h0)), (1, .int x1), (2, .int x2), (3, .int x3)] → W p l e R s m args below meth c H locs 0 0 Q (F0 m 5 ls []) := by
    intro k_5 hk_5 σ h0 x1 x2 x3 H locs ls hS h hl
    refine lv_iload_n hx hb dJ7_fill_53178_5 rfl (lv_at hl 2 rfl) ?_
    refine lv_iload_n hx hb dJ7_fill_53178_6 rfl (lv_at hl 3 rfl) ?_
    refine lv_icmp_ge (tgt := 20) hx hb dJ7_fill_53178_7 (by decide) (fun c_7 => ?_) (fun c_7 => ?_)
    · replace h := ez_ifp h c_7
      exact hret _ _ _ _ _ _ (Option.some.inj h) hS dJ7_fill_53178_20
    · replace h := ez_ifn h c_7
      refine lv_aload_n hx hb dJ7_fill_53178_10 rfl (lv_at hl 0 rfl) ?_
      refine lv_iload_n hx hb dJ7_fill_53178_11 rfl (lv_at hl 2 rfl) ?_
      refine lv_iload_n hx hb dJ7_fill_53178_12 rfl (lv_at hl 1 rfl) ?_
      refine ez_ias hC hS h dJ7_fill_53178_13 (fun σ H locs hS h => ?_)
      obtain ⟨t_14, e_14, h⟩ := ez_let_sp h
      refine lv_iinc (v := t_14) (lv' := [(2, .int t_14), (0, .ref (B + h0)), (1, .int x1), (3, .int x3)]) hx hb dJ7_fill_53178_14 hl (k := 2) rfl (by rw [e_14]; rfl) (by decide) rfl (fun ls hl => ?_)
      refine lv_goto (tgt := 5) hx hb dJ7_fill_53178_17 (by decide) ?_
      exact hk_5 σ h0 x1 t_14 x3 _ _ _ hS h (lv_sub hl [1, 2, 0, 3] rfl)
  have E_5 : ∀ (σ : ez_H) (h0 : Nat) (x1 : Int32) (x2 : Int32) (x3 : Int32) (H : Heap) (locs : List Loc) (ls : Array Slot), ez_S X B s.heap (σ0.length) σ H locs → (ez_fix (fun _ _ _ _ _ => none) (z_J7_fill_53178_5) ez_N) σ h0 x1 x2 x3 = some z → lv_has ls 4 [(0, .ref (B + h0)), (1, .int x1), (2, .int x2), (3, .int x3)] → W p l e R s m args below meth c H locs 0 0 Q (F0 m 5 ls []) := ez_fix_ind (fun k_5 : ez_H → Nat → Int32 → Int32 → Int32 → Option (Unit × ez_H) => ∀ (σ : ez_H) (h0 : Nat) (x1 : Int32) (x2 : Int32) (x3 : Int32) (H : Heap) (locs : List Loc) (ls : Array Slot), ez_S X B s.heap (σ0.length) σ H locs → k_5 σ h0 x1 x2 x3 = some z → lv_has ls 4 [(0, .ref (B + h0)), (1, .int x1), (2, .int x2), (3, .int x3)] → W p l e R s m args below meth c H locs 0 0 Q (F0 m 5 ls [])) (fun _ _ _ _ _ _ _ _ _ h _ => by cases h) (fun k_5 hk_5 => K_5 k_5 hk_5) ez_N
  refine lv_iconst (v := 0) hx hb dJ7_fill_53178_0 (by decide) ?_
  refine lv_istore_n (lv' := [(2, .int 0), (0, .ref (B + h0)), (1, .int x1)]) hx hb dJ7_fill_53178_1 rfl hl (by decide) rfl (fun ls hl => ?_)
  refine lv_aload_n hx hb dJ7_fill_53178_2 rfl (lv_at hl 1 rfl) ?_
  refine ez_lnA hC hS h dJ7_fill_53178_3 (fun t_3 h => ?_)
  refine lv_istore_n (lv' := [(3, .int t_3), (2, .int 0), (0, .ref (B + h0)), (1, .int x1)]) hx hb dJ7_fill_53178_4 rfl hl (by decide) rfl (fun ls hl => ?_)
  exact E_5  σ h0 x1 (0 : Int32) t_3 _ _ _ hS h (lv_sub hl [2, 3, 1, 0] rfl)
set_option maxHeartbeats 4000000 in
set_option maxRecDepth 100000 in
theorem c_X6_notch {l : Launch} {X : ez_X} {B : Nat} {σ : ez_H} {x0 : Int32} {x1 : Int32} {z : Int32} (h : z_X6_notch σ x0 x1 = some z) : ez_M l X B σ yX6_notch cX6_notch 2 (some .int) 0 [.int x0, .int x1] (some (.int z)) σ := by
  refine ez_startip (z := z) (by decide) (Nat.le_of_ble_eq_true rfl) (fun p e R s m args below meth c Q hC hret hS ls hl => ?_)
  have hC : ez_C p R s m args c X B RX6 cX6_notch 2 0 := hC
  have hx := hC.1.1
  have hb := hC.1.2.1
  have hown := hC.1.2.2.2.1
  have hts := hC.1.2.2.2.2
  have hl : lv_has ls 2 [(0, .int x0), (1, .int x1)] := hl
  obtain ⟨n0, e0⟩ : ∃ n0 : Nat, n0 = σ.length := ⟨_, rfl⟩
  rw [← e0] at hret hS
  refine lv_iconst (v := 1) hx hb dX6_notch_0 (by decide) ?_
  refine lv_iload_n hx hb dX6_notch_1 rfl (lv_at hl 0 rfl) ?_
  refine lv_bipush (v := 6) hx hb dX6_notch_2 (by decide) ?_
  refine lv_imul hx hb dX6_notch_4 ?_
  refine ez_top h (fun t_4 h => ?_)
  refine lv_iload_n hx hb dX6_notch_5 rfl (lv_at hl 1 rfl) ?_
  refine lv_iadd hx hb dX6_notch_6 ?_
  refine ez_top h (fun t_6 h => ?_)
  refine lv_ishl hx hb dX6_notch_7 ?_
  refine ez_top h (fun t_7 h => ?_)
  exact hret _ _ _ _ _ (Option.some.inj h) rfl hS dX6_notch_8
set_option maxHeartbeats 4000000 in
set_option maxRecDepth 100000 in
theorem c_X8_allowIn {l : Launch} {X : ez_X} {B : Nat} {σ : ez_H} {h0 : Nat} {x1 : Int32} {h2 : Nat} {z : Unit × ez_H} (h : z_X8_allowIn σ h0 x1 h2 = some z) : ez_M l X B σ yX8_allowIn cX8_allowIn 6 (none) 2 [.ref (B + h0), .int x1, .ref (B + h2)] (none) z.2 := by
  refine ez_startv (z := z) (by decide) (Nat.le_of_ble_eq_true rfl) (fun p e R s m args below meth c Q hC hret hS ls hl => ?_)
  have hC : ez_C p R s m args c X B RX8 cX8_allowIn 6 2 := hC
  have hx := hC.1.1
  have hb := hC.1.2.1
  have hown := hC.1.2.2.2.1
  have hts := hC.1.2.2.2.2
  have hl : lv_has ls 6 [(0, .ref (B + h0)), (1, .int x1), (2, .ref (B + h2))] := hl
  obtain ⟨σ0, eσ⟩ : ∃ σ0 : ez_H, σ0 = σ := ⟨_, rfl⟩
  rw [← eσ] at hret
  have hS : ez_S X B s.heap σ0.length σ s.heap [] := eσ ▸ hS
  obtain ⟨-, h⟩ := ez_in h
  have K_50 : ∀ (k_2 : ez_H → Nat → Int32 → Nat → Int32 → Option (Unit × ez_H)) (hk_2 : ∀ (σ : ez_H) (h0 : Nat) (x1 : Int32) (h2 : Nat) (x3 : Int32) (H : Heap) (locs : List Loc) (ls : Array Slot), ez_S X B s.heap (σ0.length) σ H locs → k_2 σ h0 x1 h2 x3 = some z → lv_has ls 6 [(0, .ref (B + h0)), (1, .int x1), (2, .ref (B + h2)), (3, .int x3)] → W p l e R s m args below meth c H locs 0 0 Q (F0 m 2 ls [])) (k_14 : ez_H → Nat → Int32 → Nat → Int32 → Int32 → Int32 → Option (Unit × ez_H)) (hk_14 : ∀ (σ : ez_H) (h0 : Nat) (x1 : Int32) (h2 : Nat) (x3 : Int32) (x4 : Int32) (x5 : Int32) (H : Heap) (locs : List Loc) (ls : Array Slot), ez_S X B s.heap (σ0.length) σ H locs → k_14 σ h0 x1 h2 x3 x4 x5 = some z → lv_has ls 6 [(0, .ref (B + h0)), (1, .int x1), (2, .ref (B + h2)), (3, .int x3), (4, .int x4), (5, .int x5)] → W p l e R s m args below meth c H locs 0 0 Q (F0 m 14 ls [])), ∀ (σ : ez_H) (h0 : Nat) (x1 : Int32) (h2 : Nat) (x3 : Int32) (x4 : Int32) (x5 : Int32) (H : Heap) (locs : List Loc) (ls : Array Slot), ez_S X B s.heap (σ0.length) σ H locs → z_X8_allowIn_50 k_2 k_14 σ h0 x1 h2 x3 x4 x5 = some z → lv_has ls 6 [(0, .ref (B + h0)), (1, .int x1), (2, .ref (B + h2)), (3, .int x3), (4, .int x4), (5, .int x5)] → W p l e R s m args below meth c H locs 0 0 Q (F0 m 50 ls []) := by
    intro k_2 hk_2 k_14 hk_14 σ h0 x1 h2 x3 x4 x5 H locs ls hS h hl
    obtain ⟨t_50, e_50, h⟩ := ez_let_sp h
    refine lv_iinc (v := t_50) (lv' := [(5, .int t_50), (0, .ref (B + h0)), (1, .int x1), (2, .ref (B + h2)), (3, .int x3), (4, .int x4)]) hx hb dX8_allowIn_50 hl (k := 5) rfl (by rw [e_50]; rfl) (by decide) rfl (fun ls hl => ?_)
    refine lv_goto (tgt := 14) hx hb dX8_allowIn_53 (by decide) ?_
    exact hk_14 σ h0 x1 h2 x3 x4 t_50 _ _ _ hS h (lv_sub hl [1, 2, 3, 4, 5, 0] rfl)
  have K_14 : ∀ (k_2 : ez_H → Nat → Int32 → Nat → Int32 → Option (Unit × ez_H)) (hk_2 : ∀ (σ : ez_H) (h0 : Nat) (x1 : Int32) (h2 : Nat) (x3 : Int32) (H : Heap) (locs : List Loc) (ls : Array Slot), ez_S X B s.heap (σ0.length) σ H locs → k_2 σ h0 x1 h2 x3 = some z → lv_has ls 6 [(0, .ref (B + h0)), (1, .int x1), (2, .ref (B + h2)), (3, .int x3)] → W p l e R s m args below meth c H locs 0 0 Q (F0 m 2 ls [])) (k_14 : ez_H → Nat → Int32 → Nat → Int32 → Int32 → Int32 → Option (Unit × ez_H)) (hk_14 : ∀ (σ : ez_H) (h0 : Nat) (x1 : Int32) (h2 : Nat) (x3 : Int32) (x4 : Int32) (x5 : Int32) (H : Heap) (locs : List Loc) (ls : Array Slot), ez_S X B s.heap (σ0.length) σ H locs → k_14 σ h0 x1 h2 x3 x4 x5 = some z → lv_has ls 6 [(0, .ref (B + h0)), (1, .int x1), (2, .ref (B + h2)), (3, .int x3), (4, .int x4), (5, .int x5)] → W p l e R s m args below meth c H locs 0 0 Q (F0 m 14 ls [])), ∀ (σ : ez_H) (h0 : Nat) (x1 : Int32) (h2 : Nat) (x3 : Int32) (x4 : Int32) (x5 : Int32) (H : Heap) (locs : List Loc) (ls : Array Slot), ez_S X B s.heap (σ0.length) σ H locs → z_X8_allowIn_14 k_2 k_14 σ h0 x1 h2 x3 x4 x5 = some z → lv_has ls 6 [(0, .ref (B + h0)), (1, .int x1), (2, .ref (B + h2)), (3, .int x3), (4, .int x4), (5, .int x5)] → W p l e R s m args below meth c H locs 0 0 Q (F0 m 14 ls []) := by
    intro k_2 hk_2 k_14 hk_14 σ h0 x1 h2 x3 x4 x5 H locs ls hS h hl
    refine lv_iload hx hb dX8_allowIn_14 (lv_at hl 5 rfl) ?_
    refine lv_aload_n hx hb dX8_allowIn_16 rfl (lv_at hl 0 rfl) ?_
    refine eg_RX8_9 hC hS h dX8_allowIn_17 (fun t_17 h => ?_)
    refine eg_RX8_72 hC hS h dX8_allowIn_20 (fun t_20 h => ?_)
    refine lv_icmp_ge (tgt := 56) hx hb dX8_allowIn_23 (by decide) (fun c_23 => ?_) (fun c_23 => ?_)
    · replace h := ez_ifp h c_23
      refine lv_aload_n hx hb dX8_allowIn_56 rfl (lv_at hl 0 rfl) ?_
      refine eg_RX8_26 hC hS h dX8_allowIn_57 (fun t_57 h => ?_)
      refine lv_iload_n hx hb dX8_allowIn_60 rfl (lv_at hl 3 rfl) ?_
      refine lv_iload hx hb dX8_allowIn_61 (lv_at hl 4 rfl) ?_
      refine ez_ias hC hS h dX8_allowIn_63 (fun σ H locs hS h => ?_)
      obtain ⟨t_64, e_64, h⟩ := ez_let_sp h
      refine lv_iinc (v := t_64) (lv' := [(3, .int t_64), (0, .ref (B + h0)), (1, .int x1), (2, .ref (B + h2)), (4, .int x4), (5, .int x5)]) hx hb dX8_allowIn_64 hl (k := 3) rfl (by rw [e_64]; rfl) (by decide) rfl (fun ls hl => ?_)
      refine lv_goto (tgt := 2) hx hb dX8_allowIn_67 (by decide) ?_
      exact hk_2 σ h0 x1 h2 t_64 _ _ _ hS h (lv_sub hl [1, 2, 3, 0] rfl)
    · replace h := ez_ifn h c_23
      refine lv_aload_n hx hb dX8_allowIn_26 rfl (lv_at hl 2 rfl) ?_
      refine lv_iload hx hb dX8_allowIn_27 (lv_at hl 5 rfl) ?_
      refine ez_cVpi (As := [.int x5]) (rest := []) h (fun _ q => c_X7_pins q) hC k_X7_pins ql_RX8_75 rfl (by decide) hS (fun _ q => ez_rcv q) rfl hl.1 rfl (Nat.le_of_ble_eq_true rfl) ⟨Nat.zero_le _, Nat.zero_le _⟩ dX8_allowIn_29 (fun t_29 H locs hS h => ?_)
      refine lv_iload_n hx hb dX8_allowIn_32 rfl (lv_at hl 1 rfl) ?_
      refine lv_iload_n hx hb dX8_allowIn_33 rfl (lv_at hl 3 rfl) ?_
      refine ez_cSpi (As := [.int x1, .int x3]) (rest := [.int t_29]) h (fun _ q => c_X6_notch q) hC k_X6_notch ql_RX8_91 rfl (by decide) hS hl.1 rfl (Nat.le_of_ble_eq_true rfl) ⟨Nat.zero_le _, Nat.zero_le _⟩ dX8_allowIn_34 (fun t_34 H locs hS h => ?_)
      refine lv_iand hx hb dX8_allowIn_37 ?_
      refine ez_top h (fun t_37 h => ?_)
      refine lv_if_eq (tgt := 50) hx hb dX8_allowIn_38 (by decide) (fun c_38 => ?_) (fun c_38 => ?_)
      · replace h := ez_ifp h c_38
        exact K_50 k_2 hk_2 k_14 hk_14 σ h0 x1 h2 x3 x4 x5 _ _ _ hS h (lv_sub hl [0, 1, 2, 3, 4, 5] rfl)
      · replace h := ez_ifn h c_38
        refine lv_iload hx hb dX8_allowIn_41 (lv_at hl 4 rfl) ?_
        refine lv_iconst (v := 1) hx hb dX8_allowIn_43 (by decide) ?_
        refine lv_iload hx hb dX8_allowIn_44 (lv_at hl 5 rfl) ?_
        refine lv_ishl hx hb dX8_allowIn_46 ?_
        refine ez_top h (fun t_46 h => ?_)
        refine lv_ior hx hb dX8_allowIn_47 ?_
        refine ez_top h (fun t_47 h => ?_)
        refine lv_istore (lv' := [(4, .int t_47), (0, .ref (B + h0)), (1, .int x1), (2, .ref (B + h2)), (3, .int x3), (5, .int x5)]) hx hb dX8_allowIn_48 hl (by decide) rfl (fun ls hl => ?_)
        exact K_50 k_2 hk_2 k_14 hk_14 σ h0 x1 h2 x3 t_47 x5 _ _ _ hS h (lv_sub hl [1, 2, 3, 4, 0, 5] rfl)
  have E_14 : ∀ (k_2 : ez_H → Nat → Int32 → Nat → Int32 → Option (Unit × ez_H)) (hk_2 : ∀ (σ : ez_H) (h0 : Nat) (x1 : Int32) (h2 : Nat) (x3 : Int32) (H : Heap) (locs : List Loc) (ls : Array Slot), ez_S X B s.heap (σ0.length) σ H locs → k_2 σ h0 x1 h2 x3 = some z → lv_has ls 6 [(0, .ref (B + h0)), (1, .int x1), (2, .ref (B + h2)), (3, .int x3)] → W p l e R s m args below meth c H locs 0 0 Q (F0 m 2 ls [])), ∀ (σ : ez_H) (h0 : Nat) (x1 : Int32) (h2 : Nat) (x3 : Int32) (x4 : Int32) (x5 : Int32) (H : Heap) (locs : List Loc) (ls : Array Slot), ez_S X B s.heap (σ0.length) σ H locs → (ez_fix (fun _ _ _ _ _ _ _ => none) (z_X8_allowIn_14 k_2) ez_N) σ h0 x1 h2 x3 x4 x5 = some z → lv_has ls 6 [(0, .ref (B + h0)), (1, .int x1), (2, .ref (B + h2)), (3, .int x3), (4, .int x4), (5, .int x5)] → W p l e R s m args below meth c H locs 0 0 Q (F0 m 14 ls []) := fun k_2 hk_2 => ez_fix_ind (fun k_14 : ez_H → Nat → Int32 → Nat → Int32 → Int32 → Int32 → Option (Unit × ez_H) => ∀ (σ : ez_H) (h0 : Nat) (x1 : Int32) (h2 : Nat) (x3 : Int32) (x4 : Int32) (x5 : Int32) (H : Heap) (locs : List Loc) (ls : Array Slot), ez_S X B s.heap (σ0.length) σ H locs → k_14 σ h0 x1 h2 x3 x4 x5 = some z → lv_has ls 6 [(0, .ref (B + h0)), (1, .int x1), (2, .ref (B + h2)), (3, .int x3), (4, .int x4), (5, .int x5)] → W p l e R s m args below meth c H locs 0 0 Q (F0 m 14 ls [])) (fun _ _ _ _ _ _ _ _ _ _ _ h _ => by cases h) (fun k_14 hk_14 => K_14 k_2 hk_2 k_14 hk_14) ez_N
  have K_2 : ∀ (k_2 : ez_H → Nat → Int32 → Nat → Int32 → Option (Unit × ez_H)) (hk_2 : ∀ (σ : ez_H) (h0 : Nat) (x1 : Int32) (h2 : Nat) (x3 : Int32) (H : Heap) (locs : List Loc) (ls : Array Slot), ez_S X B s.heap (σ0.length) σ H locs → k_2 σ h0 x1 h2 x3 = some z → lv_has ls 6 [(0, .ref (B + h0)), (1, .int x1), (2, .ref (B + h2)), (3, .int x3)] → W p l e R s m args below meth c H locs 0 0 Q (F0 m 2 ls [])), ∀ (σ : ez_H) (h0 : Nat) (x1 : Int32) (h2 : Nat) (x3 : Int32) (H : Heap) (locs : List Loc) (ls : Array Slot), ez_S X B s.heap (σ0.length) σ H locs → z_X8_allowIn_2 k_2 σ h0 x1 h2 x3 = some z → lv_has ls 6 [(0, .ref (B + h0)), (1, .int x1), (2, .ref (B + h2)), (3, .int x3)] → W p l e R s m args below meth c H locs 0 0 Q (F0 m 2 ls []) := by
    intro k_2 hk_2 σ h0 x1 h2 x3 H locs ls hS h hl
    refine lv_iload_n hx hb dX8_allowIn_2 rfl (lv_at hl 3 rfl) ?_
    refine lv_bipush (v := 6) hx hb dX8_allowIn_3 (by decide) ?_
    refine lv_icmp_ge (tgt := 70) hx hb dX8_allowIn_5 (by decide) (fun c_5 => ?_) (fun c_5 => ?_)
    · replace h := ez_ifp h c_5
      exact hret _ _ _ _ _ _ (Option.some.inj h) hS dX8_allowIn_70
    · replace h := ez_ifn h c_5
      refine lv_iconst (v := 0) hx hb dX8_allowIn_8 (by decide) ?_
      refine lv_istore (lv' := [(4, .int 0), (0, .ref (B + h0)), (1, .int x1), (2, .ref (B + h2)), (3, .int x3)]) hx hb dX8_allowIn_9 hl (by decide) rfl (fun ls hl => ?_)
      refine lv_iconst (v := 0) hx hb dX8_allowIn_11 (by decide) ?_
      refine lv_istore (lv' := [(5, .int 0), (4, .int 0), (0, .ref (B + h0)), (1, .int x1), (2, .ref (B + h2)), (3, .int x3)]) hx hb dX8_allowIn_12 hl (by decide) rfl (fun ls hl => ?_)
      exact E_14 k_2 hk_2 σ h0 x1 h2 x3 (0 : Int32) (0 : Int32) _ _ _ hS h (lv_sub hl [2, 3, 4, 5, 1, 0] rfl)
  have E_2 : ∀ (σ : ez_H) (h0 : Nat) (x1 : Int32) (h2 : Nat) (x3 : Int32) (H : Heap) (locs : List Loc) (ls : Array Slot), ez_S X B s.heap (σ0.length) σ H locs → (ez_fix (fun _ _ _ _ _ => none) (z_X8_allowIn_2) ez_N) σ h0 x1 h2 x3 = some z → lv_has ls 6 [(0, .ref (B + h0)), (1, .int x1), (2, .ref (B + h2)), (3, .int x3)] → W p l e R s m args below meth c H locs 0 0 Q (F0 m 2 ls []) := ez_fix_ind (fun k_2 : ez_H → Nat → Int32 → Nat → Int32 → Option (Unit × ez_H) => ∀ (σ : ez_H) (h0 : Nat) (x1 : Int32) (h2 : Nat) (x3 : Int32) (H : Heap) (locs : List Loc) (ls : Array Slot), ez_S X B s.heap (σ0.length) σ H locs → k_2 σ h0 x1 h2 x3 = some z → lv_has ls 6 [(0, .ref (B + h0)), (1, .int x1), (2, .ref (B + h2)), (3, .int x3)] → W p l e R s m args below meth c H locs 0 0 Q (F0 m 2 ls [])) (fun _ _ _ _ _ _ _ _ _ h _ => by cases h) (fun k_2 hk_2 => K_2 k_2 hk_2) ez_N
  refine lv_iconst (v := 0) hx hb dX8_allowIn_0 (by decide) ?_
  refine lv_istore_n (lv' := [(3, .int 0), (0, .ref (B + h0)), (1, .int x1), (2, .ref (B + h2))]) hx hb dX8_allowIn_1 rfl hl (by decide) rfl (fun ls hl => ?_)
  exact E_2  σ h0 x1 h2 (0 : Int32) _ _ _ hS h (lv_sub hl [1, 2, 3, 0] rfl)
set_option maxHeartbeats 4000000 in
set_option maxRecDepth 100000 in
theorem c_X8_add {l : Launch} {X : ez_X} {B : Nat} {σ : ez_H} {h0 : Nat} {x1 : Int32} {x2 : Int32} {x3 : Int32} {x4 : Int32} {x5 : Int32} {z : Unit × ez_H} (h : z_X8_add σ h0 x1 x2 x3 x4 x5 = some z) : ez_M l X B σ yX8_add cX8_add 8 (none) 1 [.ref (B + h0), .int x1, .int x2, .int x3, .int x4, .int x5] (none) z.2 := by
  refine ez_startv (z := z) (by decide) (Nat.le_of_ble_eq_true rfl) (fun p e R s m args below meth c Q hC hret hS ls hl => ?_)
  have hC : ez_C p R s m args c X B RX8 cX8_add 8 1 := hC
  have hx := hC.1.1
  have hb := hC.1.2.1
  have hown := hC.1.2.2.2.1
  have hts := hC.1.2.2.2.2
  have hl : lv_has ls 8 [(0, .ref (B + h0)), (1, .int x1), (2, .int x2), (3, .int x3), (4, .int x4), (5, .int x5)] := hl
  obtain ⟨σ0, eσ⟩ : ∃ σ0 : ez_H, σ0 = σ := ⟨_, rfl⟩
  rw [← eσ] at hret
  have hS : ez_S X B s.heap σ0.length σ s.heap [] := eσ ▸ hS
  obtain ⟨-, h⟩ := ez_in h
  have K_21 : ∀ (σ : ez_H) (H : Heap) (locs : List Loc) (ls : Array Slot), ez_S X B s.heap (σ0.length) σ H locs → z_X8_add_21 σ = some z → lv_has ls 8 [] → W p l e R s m args below meth c H locs 0 0 Q (F0 m 21 ls []) := by
    intro σ H locs ls hS h hl
    exact hret _ _ _ _ _ _ (Option.some.inj h) hS dX8_add_21
  have K_94 : ∀ (σ : ez_H) (h0 : Nat) (x3 : Int32) (x6 : Int32) (y0 : Nat) (y1 : Int32) (y2 : Int32) (H : Heap) (locs : List Loc) (ls : Array Slot), ez_S X B s.heap (σ0.length) σ H locs → z_X8_add_94 σ h0 x3 x6 y0 y1 y2 = some z → lv_has ls 8 [(0, .ref (B + h0)), (3, .int x3), (6, .int x6)] → W p l e R s m args below meth c H locs 0 0 Q (F0 m 94 ls [.int y2, .int y1, .ref (B + y0)]) := by
    intro σ h0 x3 x6 y0 y1 y2 H locs ls hS h hl
    refine ez_ias hC hS h dX8_add_94 (fun σ H locs hS h => ?_)
    refine lv_aload_n hx hb dX8_add_95 rfl (lv_at hl 0 rfl) ?_
    refine eg_RX8_38 hC hS h dX8_add_96 (fun t_96 h => ?_)
    refine lv_iload hx hb dX8_add_99 (lv_at hl 2 rfl) ?_
    refine lv_dup2_11 hx hb dX8_add_101 rfl rfl ?_
    refine ez_ial hC hS h dX8_add_102 (fun t_102 h => ?_)
    refine lv_iload_n hx hb dX8_add_103 rfl (lv_at hl 1 rfl) ?_
    refine lv_iadd hx hb dX8_add_104 ?_
    refine ez_top h (fun t_104 h => ?_)
    refine ez_ias hC hS h dX8_add_105 (fun σ H locs hS h => ?_)
    exact hret _ _ _ _ _ _ (Option.some.inj h) hS dX8_add_106
  have K_67 : ∀ (σ : ez_H) (h0 : Nat) (x3 : Int32) (x5 : Int32) (x6 : Int32) (x7 : Int32) (y0 : Nat) (y1 : Int32) (y2 : Int32) (H : Heap) (locs : List Loc) (ls : Array Slot), ez_S X B s.heap (σ0.length) σ H locs → z_X8_add_67 σ h0 x3 x5 x6 x7 y0 y1 y2 = some z → lv_has ls 8 [(0, .ref (B + h0)), (3, .int x3), (5, .int x5), (6, .int x6), (7, .int x7)] → W p l e R s m args below meth c H locs 0 0 Q (F0 m 67 ls [.int y2, .int y1, .ref (B + y0)]) := by
    intro σ h0 x3 x5 x6 x7 y0 y1 y2 H locs ls hS h hl
    refine ez_ias hC hS h dX8_add_67 (fun σ H locs hS h => ?_)
    refine lv_aload_n hx hb dX8_add_68 rfl (lv_at hl 0 rfl) ?_
    refine eg_RX8_44 hC hS h dX8_add_69 (fun t_69 h => ?_)
    refine lv_iload hx hb dX8_add_72 (lv_at hl 3 rfl) ?_
    refine lv_iload hx hb dX8_add_74 (lv_at hl 4 rfl) ?_
    refine lv_if_eq (tgt := 84) hx hb dX8_add_76 (by decide) (fun c_76 => ?_) (fun c_76 => ?_)
    · replace h := ez_ifp h c_76
      refine lv_aload_n hx hb dX8_add_84 rfl (lv_at hl 0 rfl) ?_
      refine eg_RX8_44 hC hS h dX8_add_85 (fun t_85 h => ?_)
      refine lv_iload hx hb dX8_add_88 (lv_at hl 3 rfl) ?_
      refine ez_ial hC hS h dX8_add_90 (fun t_90 h => ?_)
      refine lv_iload hx hb dX8_add_91 (lv_at hl 2 rfl) ?_
      refine lv_ior hx hb dX8_add_93 ?_
      refine ez_top h (fun t_93 h => ?_)
      exact K_94  σ h0 x3 x6 t_69 x6 t_93 _ _ _ hS h (lv_sub hl [0, 1, 3] rfl)
    · replace h := ez_ifn h c_76
      refine lv_iload hx hb dX8_add_79 (lv_at hl 2 rfl) ?_
      refine lv_goto (tgt := 94) hx hb dX8_add_81 (by decide) ?_
      exact K_94  σ h0 x3 x6 t_69 x6 x5 _ _ _ hS h (lv_sub hl [0, 1, 3] rfl)
  have K_37 : ∀ (σ : ez_H) (h0 : Nat) (x3 : Int32) (x4 : Int32) (x5 : Int32) (x6 : Int32) (y0 : Int32) (H : Heap) (locs : List Loc) (ls : Array Slot), ez_S X B s.heap (σ0.length) σ H locs → z_X8_add_37 σ h0 x3 x4 x5 x6 y0 = some z → lv_has ls 8 [(0, .ref (B + h0)), (3, .int x3), (4, .int x4), (5, .int x5), (6, .int x6)] → W p l e R s m args below meth c H locs 0 0 Q (F0 m 37 ls [.int y0]) := by
    intro σ h0 x3 x4 x5 x6 y0 H locs ls hS h hl
    refine lv_istore (lv' := [(7, .int y0), (0, .ref (B + h0)), (3, .int x3), (4, .int x4), (5, .int x5), (6, .int x6)]) hx hb dX8_add_37 hl (by decide) rfl (fun ls hl => ?_)
    refine lv_aload_n hx hb dX8_add_39 rfl (lv_at hl 1 rfl) ?_
    refine eg_RX8_41 hC hS h dX8_add_40 (fun t_40 h => ?_)
    refine lv_iload hx hb dX8_add_43 (lv_at hl 5 rfl) ?_
    refine lv_iload hx hb dX8_add_45 (lv_at hl 0 rfl) ?_
    refine lv_if_eq (tgt := 55) hx hb dX8_add_47 (by decide) (fun c_47 => ?_) (fun c_47 => ?_)
    · replace h := ez_ifp h c_47
      refine lv_aload_n hx hb dX8_add_55 rfl (lv_at hl 1 rfl) ?_
      refine eg_RX8_41 hC hS h dX8_add_56 (fun t_56 h => ?_)
      refine lv_iload hx hb dX8_add_59 (lv_at hl 5 rfl) ?_
      refine ez_ial hC hS h dX8_add_61 (fun t_61 h => ?_)
      refine lv_iload hx hb dX8_add_62 (lv_at hl 3 rfl) ?_
      refine va_mmin hx hb (hC.1.2.2.1.trans hl.1.symm) hown (hts _ ql_RX8_109) (hts _ qm_min_s) (hts _ qm_i) (hts _ qm_min_c) (Nat.le_trans (by decide) hC.2.2.1) (Nat.le_trans (Nat.le_of_ble_eq_true rfl) hC.2.2.2.1) (Nat.zero_le _) (Nat.zero_le _) dX8_add_64 ?_
      refine ez_top h (fun t_64 h => ?_)
      exact K_67  σ h0 x3 x5 x6 y0 t_40 x6 t_64 _ _ _ hS h (lv_sub hl [1, 2, 4, 5, 0] rfl)
    · replace h := ez_ifn h c_47
      refine lv_iload hx hb dX8_add_50 (lv_at hl 3 rfl) ?_
      refine lv_goto (tgt := 67) hx hb dX8_add_52 (by decide) ?_
      exact K_67  σ h0 x3 x5 x6 y0 t_40 x6 x4 _ _ _ hS h (lv_sub hl [1, 2, 4, 5, 0] rfl)
  refine lv_iload_n hx hb dX8_add_0 rfl (lv_at hl 1 rfl) ?_
  refine lv_bipush (v := 64) hx hb dX8_add_1 (by decide) ?_
  refine lv_imul hx hb dX8_add_3 ?_
  refine ez_top h (fun t_3 h => ?_)
  refine lv_iload_n hx hb dX8_add_4 rfl (lv_at hl 2 rfl) ?_
  refine lv_iadd hx hb dX8_add_5 ?_
  refine ez_top h (fun t_5 h => ?_)
  refine lv_istore (lv' := [(6, .int t_5), (0, .ref (B + h0)), (1, .int x1), (2, .int x2), (3, .int x3), (4, .int x4), (5, .int x5)]) hx hb dX8_add_6 hl (by decide) rfl (fun ls hl => ?_)
  refine lv_iload hx hb dX8_add_8 (lv_at hl 0 rfl) ?_
  refine lv_if_lt (tgt := 21) hx hb dX8_add_10 (by decide) (fun c_10 => ?_) (fun c_10 => ?_)
  · replace h := ez_ifp h c_10
    exact K_21  σ _ _ _ hS h (lv_sub hl [] rfl)
  · replace h := ez_ifn h c_10
    refine lv_iload hx hb dX8_add_13 (lv_at hl 0 rfl) ?_
    refine lv_sipush (v := 384) hx hb dX8_add_15 (by decide) ?_
    refine lv_icmp_lt (tgt := 22) hx hb dX8_add_18 (by decide) (fun c_18 => ?_) (fun c_18 => ?_)
    · replace h := ez_ifp h c_18
      refine lv_aload_n hx hb dX8_add_22 rfl (lv_at hl 1 rfl) ?_
      refine eg_RX8_38 hC hS h dX8_add_23 (fun t_23 h => ?_)
      refine lv_iload hx hb dX8_add_26 (lv_at hl 0 rfl) ?_
      refine ez_ial hC hS h dX8_add_28 (fun t_28 h => ?_)
      refine lv_if_ne (tgt := 36) hx hb dX8_add_29 (by decide) (fun c_29 => ?_) (fun c_29 => ?_)
      · replace h := ez_ifn h c_29
        refine lv_iconst (v := 0) hx hb dX8_add_36 (by decide) ?_
        exact K_37  σ h0 x3 x4 x5 t_5 (0 : Int32) _ _ _ hS h (lv_sub hl [1, 4, 5, 6, 0] rfl)
      · replace h := ez_ifp h c_29
        refine lv_iconst (v := 1) hx hb dX8_add_32 (by decide) ?_
        refine lv_goto (tgt := 37) hx hb dX8_add_33 (by decide) ?_
        exact K_37  σ h0 x3 x4 x5 t_5 (1 : Int32) _ _ _ hS h (lv_sub hl [1, 4, 5, 6, 0] rfl)
    · replace h := ez_ifn h c_18
      exact K_21  σ _ _ _ hS h (lv_sub hl [] rfl)
set_option maxHeartbeats 4000000 in
set_option maxRecDepth 100000 in
theorem c_X8_changeOver {l : Launch} {X : ez_X} {B : Nat} {σ : ez_H} {h0 : Nat} {z : Unit × ez_H} (h : z_X8_changeOver σ h0 = some z) : ez_M l X B σ yX8_changeOver cX8_changeOver 2 (none) 0 [.ref (B + h0)] (none) z.2 := by
  refine ez_startv (z := z) (by decide) (Nat.le_of_ble_eq_true rfl) (fun p e R s m args below meth c Q hC hret hS ls hl => ?_)
  have hC : ez_C p R s m args c X B RX8 cX8_changeOver 2 0 := hC
  have hx := hC.1.1
  have hb := hC.1.2.1
  have hown := hC.1.2.2.2.1
  have hts := hC.1.2.2.2.2
  have hl : lv_has ls 2 [(0, .ref (B + h0))] := hl
  obtain ⟨σ0, eσ⟩ : ∃ σ0 : ez_H, σ0 = σ := ⟨_, rfl⟩
  rw [← eσ] at hret
  have hS : ez_S X B s.heap σ0.length σ s.heap [] := eσ ▸ hS
  obtain ⟨-, h⟩ := ez_in h
  refine lv_aload_n hx hb dX8_changeOver_0 rfl (lv_at hl 0 rfl) ?_
  refine eg_RX8_29 hC hS h dX8_changeOver_1 (fun t_1 h => ?_)
  refine lv_astore_n (lv' := [(1, .ref (B + t_1)), (0, .ref (B + h0))]) hx hb dX8_changeOver_4 rfl hl (by decide) rfl (fun ls hl => ?_)
  refine lv_aload_n hx hb dX8_changeOver_5 rfl (lv_at hl 1 rfl) ?_
  refine lv_aload_n hx hb dX8_changeOver_6 rfl (lv_at hl 1 rfl) ?_
  refine eg_RX8_38 hC hS h dX8_changeOver_7 (fun t_7 h => ?_)
  refine ep_RX8_29 hC hS h dX8_changeOver_10 (fun σ H locs hS h => ?_)
  refine lv_aload_n hx hb dX8_changeOver_13 rfl (lv_at hl 1 rfl) ?_
  refine lv_aload_n hx hb dX8_changeOver_14 rfl (lv_at hl 0 rfl) ?_
  refine ep_RX8_38 hC hS h dX8_changeOver_15 (fun σ H locs hS h => ?_)
  refine lv_aload_n hx hb dX8_changeOver_18 rfl (lv_at hl 1 rfl) ?_
  refine eg_RX8_32 hC hS h dX8_changeOver_19 (fun t_19 h => ?_)
  refine lv_astore_n (lv' := [(1, .ref (B + t_19)), (0, .ref (B + h0))]) hx hb dX8_changeOver_22 rfl hl (by decide) rfl (fun ls hl => ?_)
  refine lv_aload_n hx hb dX8_changeOver_23 rfl (lv_at hl 1 rfl) ?_
  refine lv_aload_n hx hb dX8_changeOver_24 rfl (lv_at hl 1 rfl) ?_
  refine eg_RX8_41 hC hS h dX8_changeOver_25 (fun t_25 h => ?_)
  refine ep_RX8_32 hC hS h dX8_changeOver_28 (fun σ H locs hS h => ?_)
  refine lv_aload_n hx hb dX8_changeOver_31 rfl (lv_at hl 1 rfl) ?_
  refine lv_aload_n hx hb dX8_changeOver_32 rfl (lv_at hl 0 rfl) ?_
  refine ep_RX8_41 hC hS h dX8_changeOver_33 (fun σ H locs hS h => ?_)
  refine lv_aload_n hx hb dX8_changeOver_36 rfl (lv_at hl 1 rfl) ?_
  refine eg_RX8_35 hC hS h dX8_changeOver_37 (fun t_37 h => ?_)
  refine lv_astore_n (lv' := [(1, .ref (B + t_37)), (0, .ref (B + h0))]) hx hb dX8_changeOver_40 rfl hl (by decide) rfl (fun ls hl => ?_)
  refine lv_aload_n hx hb dX8_changeOver_41 rfl (lv_at hl 1 rfl) ?_
  refine lv_aload_n hx hb dX8_changeOver_42 rfl (lv_at hl 1 rfl) ?_
  refine eg_RX8_44 hC hS h dX8_changeOver_43 (fun t_43 h => ?_)
  refine ep_RX8_35 hC hS h dX8_changeOver_46 (fun σ H locs hS h => ?_)
  refine lv_aload_n hx hb dX8_changeOver_49 rfl (lv_at hl 1 rfl) ?_
  refine lv_aload_n hx hb dX8_changeOver_50 rfl (lv_at hl 0 rfl) ?_
  refine ep_RX8_44 hC hS h dX8_changeOver_51 (fun σ H locs hS h => ?_)
  exact hret _ _ _ _ _ _ (Option.some.inj h) hS dX8_changeOver_54
set_option maxHeartbeats 4000000 in
set_option maxRecDepth 100000 in
theorem c_X6_lowest {l : Launch} {X : ez_X} {B : Nat} {σ : ez_H} {h0 : Nat} {x1 : Int32} {z : Int32} (h : z_X6_lowest σ h0 x1 = some z) : ez_M l X B σ yX6_lowest cX6_lowest 2 (some .int) 1 [.ref (B + h0), .int x1] (some (.int z)) σ := by
  refine ez_startip (z := z) (by decide) (Nat.le_of_ble_eq_true rfl) (fun p e R s m args below meth c Q hC hret hS ls hl => ?_)
  have hC : ez_C p R s m args c X B RX6 cX6_lowest 2 1 := hC
  have hx := hC.1.1
  have hb := hC.1.2.1
  have hown := hC.1.2.2.2.1
  have hts := hC.1.2.2.2.2
  have hl : lv_has ls 2 [(0, .ref (B + h0)), (1, .int x1)] := hl
  obtain ⟨n0, e0⟩ : ∃ n0 : Nat, n0 = σ.length := ⟨_, rfl⟩
  rw [← e0] at hret hS
  obtain ⟨-, h⟩ := ez_in h
  refine lv_iconst (v := 0) hx hb dX6_lowest_0 (by decide) ?_
  refine lv_iload_n hx hb dX6_lowest_1 rfl (lv_at hl 1 rfl) ?_
  refine lv_aload_n hx hb dX6_lowest_2 rfl (lv_at hl 0 rfl) ?_
  refine eg_RX6_25 hC hS h dX6_lowest_3 (fun t_3 h => ?_)
  refine lv_isub hx hb dX6_lowest_6 ?_
  refine ez_top h (fun t_6 h => ?_)
  refine va_mmax hx hb (hC.1.2.2.1.trans hl.1.symm) hown (hts _ ql_RX6_47) (hts _ qm_max_s) (hts _ qm_i) (hts _ qm_max_c) (Nat.le_trans (by decide) hC.2.2.1) (Nat.le_trans (Nat.le_of_ble_eq_true rfl) hC.2.2.2.1) (Nat.zero_le _) (Nat.zero_le _) dX6_lowest_7 ?_
  refine ez_top h (fun t_7 h => ?_)
  exact hret _ _ _ _ _ (Option.some.inj h) rfl hS dX6_lowest_10
set_option maxHeartbeats 4000000 in
set_option maxRecDepth 100000 in
theorem c_X6_highest {l : Launch} {X : ez_X} {B : Nat} {σ : ez_H} {h0 : Nat} {x1 : Int32} {z : Int32} (h : z_X6_highest σ h0 x1 = some z) : ez_M l X B σ yX6_highest cX6_highest 2 (some .int) 1 [.ref (B + h0), .int x1] (some (.int z)) σ := by
  refine ez_startip (z := z) (by decide) (Nat.le_of_ble_eq_true rfl) (fun p e R s m args below meth c Q hC hret hS ls hl => ?_)
  have hC : ez_C p R s m args c X B RX6 cX6_highest 2 1 := hC
  have hx := hC.1.1
  have hb := hC.1.2.1
  have hown := hC.1.2.2.2.1
  have hts := hC.1.2.2.2.2
  have hl : lv_has ls 2 [(0, .ref (B + h0)), (1, .int x1)] := hl
  obtain ⟨n0, e0⟩ : ∃ n0 : Nat, n0 = σ.length := ⟨_, rfl⟩
  rw [← e0] at hret hS
  obtain ⟨-, h⟩ := ez_in h
  refine lv_aload_n hx hb dX6_highest_0 rfl (lv_at hl 0 rfl) ?_
  refine eg_RX6_22 hC hS h dX6_highest_1 (fun t_1 h => ?_)
  refine lv_iconst (v := 1) hx hb dX6_highest_4 (by decide) ?_
  refine lv_isub hx hb dX6_highest_5 ?_
  refine ez_top h (fun t_5 h => ?_)
  refine lv_iload_n hx hb dX6_highest_6 rfl (lv_at hl 1 rfl) ?_
  refine lv_aload_n hx hb dX6_highest_7 rfl (lv_at hl 0 rfl) ?_
  refine eg_RX6_25 hC hS h dX6_highest_8 (fun t_8 h => ?_)
  refine lv_iadd hx hb dX6_highest_11 ?_
  refine ez_top h (fun t_11 h => ?_)
  refine va_mmin hx hb (hC.1.2.2.1.trans hl.1.symm) hown (hts _ ql_RX6_52) (hts _ qm_min_s) (hts _ qm_i) (hts _ qm_min_c) (Nat.le_trans (by decide) hC.2.2.1) (Nat.le_trans (Nat.le_of_ble_eq_true rfl) hC.2.2.2.1) (Nat.zero_le _) (Nat.zero_le _) dX6_highest_12 ?_
  refine ez_top h (fun t_12 h => ?_)
  exact hret _ _ _ _ _ (Option.some.inj h) rfl hS dX6_highest_15
set_option maxHeartbeats 4000000 in
set_option maxRecDepth 100000 in
theorem c_X8_addChamber {l : Launch} {X : ez_X} {B : Nat} {σ : ez_H} {h0 : Nat} {x1 : Int32} {z : Unit × ez_H} (h : z_X8_addChamber σ h0 x1 = some z) : ez_M l X B σ yX8_addChamber cX8_addChamber 5 (none) 2 [.ref (B + h0), .int x1] (none) z.2 := by
  refine ez_startv (z := z) (by decide) (Nat.le_of_ble_eq_true rfl) (fun p e R s m args below meth c Q hC hret hS ls hl => ?_)
  have hC : ez_C p R s m args c X B RX8 cX8_addChamber 5 2 := hC
  have hx := hC.1.1
  have hb := hC.1.2.1
  have hown := hC.1.2.2.2.1
  have hts := hC.1.2.2.2.2
  have hl : lv_has ls 5 [(0, .ref (B + h0)), (1, .int x1)] := hl
  obtain ⟨σ0, eσ⟩ : ∃ σ0 : ez_H, σ0 = σ := ⟨_, rfl⟩
  rw [← eσ] at hret
  have hS : ez_S X B s.heap σ0.length σ s.heap [] := eσ ▸ hS
  obtain ⟨-, h⟩ := ez_in h
  have K_121 : ∀ (k_10 : ez_H → Nat → Int32 → Int32 → Option (Unit × ez_H)) (hk_10 : ∀ (σ : ez_H) (h0 : Nat) (x1 : Int32) (x2 : Int32) (H : Heap) (locs : List Loc) (ls : Array Slot), ez_S X B s.heap (σ0.length) σ H locs → k_10 σ h0 x1 x2 = some z → lv_has ls 5 [(0, .ref (B + h0)), (1, .int x1), (2, .int x2)] → W p l e R s m args below meth c H locs 0 0 Q (F0 m 10 ls [])), ∀ (σ : ez_H) (h0 : Nat) (x1 : Int32) (x2 : Int32) (H : Heap) (locs : List Loc) (ls : Array Slot), ez_S X B s.heap (σ0.length) σ H locs → z_X8_addChamber_121 k_10 σ h0 x1 x2 = some z → lv_has ls 5 [(0, .ref (B + h0)), (1, .int x1), (2, .int x2)] → W p l e R s m args below meth c H locs 0 0 Q (F0 m 121 ls []) := by
    intro k_10 hk_10 σ h0 x1 x2 H locs ls hS h hl
    obtain ⟨t_121, e_121, h⟩ := ez_let_sp h
    refine lv_iinc (v := t_121) (lv' := [(2, .int t_121), (0, .ref (B + h0)), (1, .int x1)]) hx hb dX8_addChamber_121 hl (k := 2) rfl (by rw [e_121]; rfl) (by decide) rfl (fun ls hl => ?_)
    refine lv_goto (tgt := 10) hx hb dX8_addChamber_124 (by decide) ?_
    exact hk_10 σ h0 x1 t_121 _ _ _ hS h (lv_sub hl [1, 2, 0] rfl)
  have K_41 : ∀ (k_10 : ez_H → Nat → Int32 → Int32 → Option (Unit × ez_H)) (hk_10 : ∀ (σ : ez_H) (h0 : Nat) (x1 : Int32) (x2 : Int32) (H : Heap) (locs : List Loc) (ls : Array Slot), ez_S X B s.heap (σ0.length) σ H locs → k_10 σ h0 x1 x2 = some z → lv_has ls 5 [(0, .ref (B + h0)), (1, .int x1), (2, .int x2)] → W p l e R s m args below meth c H locs 0 0 Q (F0 m 10 ls [])) (k_41 : ez_H → Nat → Int32 → Int32 → Int32 → Int32 → Option (Unit × ez_H)) (hk_41 : ∀ (σ : ez_H) (h0 : Nat) (x1 : Int32) (x2 : Int32) (x3 : Int32) (x4 : Int32) (H : Heap) (locs : List Loc) (ls : Array Slot), ez_S X B s.heap (σ0.length) σ H locs → k_41 σ h0 x1 x2 x3 x4 = some z → lv_has ls 5 [(0, .ref (B + h0)), (1, .int x1), (2, .int x2), (3, .int x3), (4, .int x4)] → W p l e R s m args below meth c H locs 0 0 Q (F0 m 41 ls [])), ∀ (σ : ez_H) (h0 : Nat) (x1 : Int32) (x2 : Int32) (x3 : Int32) (x4 : Int32) (H : Heap) (locs : List Loc) (ls : Array Slot), ez_S X B s.heap (σ0.length) σ H locs → z_X8_addChamber_41 k_10 k_41 σ h0 x1 x2 x3 x4 = some z → lv_has ls 5 [(0, .ref (B + h0)), (1, .int x1), (2, .int x2), (3, .int x3), (4, .int x4)] → W p l e R s m args below meth c H locs 0 0 Q (F0 m 41 ls []) := by
    intro k_10 hk_10 k_41 hk_41 σ h0 x1 x2 x3 x4 H locs ls hS h hl
    refine lv_iload hx hb dX8_addChamber_41 (lv_at hl 4 rfl) ?_
    refine lv_aload_n hx hb dX8_addChamber_43 rfl (lv_at hl 0 rfl) ?_
    refine eg_RX8_21 hC hS h dX8_addChamber_44 (fun t_44 h => ?_)
    refine lv_iload_n hx hb dX8_addChamber_47 rfl (lv_at hl 3 rfl) ?_
    refine ez_cVpi (As := [.int x3]) (rest := [.int x4]) h (fun _ q => c_X6_highest q) hC k_X6_highest ql_RX8_117 rfl (by decide) hS (fun _ q => ez_rcv q) rfl hl.1 rfl (Nat.le_of_ble_eq_true rfl) ⟨Nat.zero_le _, Nat.zero_le _⟩ dX8_addChamber_48 (fun t_48 H locs hS h => ?_)
    refine lv_icmp_gt (tgt := 121) hx hb dX8_addChamber_51 (by decide) (fun c_51 => ?_) (fun c_51 => ?_)
    · replace h := ez_ifp h c_51
      exact K_121 k_10 hk_10 σ h0 x1 x2 _ _ _ hS h (lv_sub hl [0, 1, 2] rfl)
    · replace h := ez_ifn h c_51
      refine lv_iload hx hb dX8_addChamber_54 (lv_at hl 4 rfl) ?_
      refine lv_bipush (v := 6) hx hb dX8_addChamber_56 (by decide) ?_
      refine lv_icmp_ge (tgt := 121) hx hb dX8_addChamber_58 (by decide) (fun c_58 => ?_) (fun c_58 => ?_)
      · replace h := ez_ifp h c_58
        exact K_121 k_10 hk_10 σ h0 x1 x2 _ _ _ hS h (lv_sub hl [0, 1, 2] rfl)
      · replace h := ez_ifn h c_58
        refine lv_aload_n hx hb dX8_addChamber_61 rfl (lv_at hl 0 rfl) ?_
        refine lv_iload hx hb dX8_addChamber_62 (lv_at hl 4 rfl) ?_
        refine lv_iload_n hx hb dX8_addChamber_64 rfl (lv_at hl 2 rfl) ?_
        refine lv_bipush (v := 64) hx hb dX8_addChamber_65 (by decide) ?_
        obtain ⟨nz_67, h⟩ := ez_nz_sp h
        refine lv_irem hx hb dX8_addChamber_67 nz_67 ?_
        refine ez_top h (fun t_67 h => ?_)
        refine lv_aload_n hx hb dX8_addChamber_68 rfl (lv_at hl 0 rfl) ?_
        refine eg_RX8_26 hC hS h dX8_addChamber_69 (fun t_69 h => ?_)
        refine lv_iload hx hb dX8_addChamber_72 (lv_at hl 4 rfl) ?_
        refine ez_ial hC hS h dX8_addChamber_74 (fun t_74 h => ?_)
        refine lv_iand hx hb dX8_addChamber_75 ?_
        refine ez_top h (fun t_75 h => ?_)
        refine lv_aload_n hx hb dX8_addChamber_76 rfl (lv_at hl 0 rfl) ?_
        refine eg_RX8_29 hC hS h dX8_addChamber_77 (fun t_77 h => ?_)
        refine lv_iload_n hx hb dX8_addChamber_80 rfl (lv_at hl 2 rfl) ?_
        refine ez_ial hC hS h dX8_addChamber_81 (fun t_81 h => ?_)
        refine lv_aload_n hx hb dX8_addChamber_82 rfl (lv_at hl 0 rfl) ?_
        refine eg_RX8_32 hC hS h dX8_addChamber_83 (fun t_83 h => ?_)
        refine lv_iload_n hx hb dX8_addChamber_86 rfl (lv_at hl 2 rfl) ?_
        refine ez_ial hC hS h dX8_addChamber_87 (fun t_87 h => ?_)
        refine lv_aload_n hx hb dX8_addChamber_88 rfl (lv_at hl 0 rfl) ?_
        refine eg_RX8_21 hC hS h dX8_addChamber_89 (fun t_89 h => ?_)
        refine eg_RX8_66 hC hS h dX8_addChamber_92 (fun t_92 h => ?_)
        refine lv_imul hx hb dX8_addChamber_95 ?_
        refine ez_top h (fun t_95 h => ?_)
        refine lv_iload hx hb dX8_addChamber_96 (lv_at hl 4 rfl) ?_
        refine lv_iadd hx hb dX8_addChamber_98 ?_
        refine ez_top h (fun t_98 h => ?_)
        refine lv_aload_n hx hb dX8_addChamber_99 rfl (lv_at hl 0 rfl) ?_
        refine eg_RX8_35 hC hS h dX8_addChamber_100 (fun t_100 h => ?_)
        refine lv_iload_n hx hb dX8_addChamber_103 rfl (lv_at hl 2 rfl) ?_
        refine ez_ial hC hS h dX8_addChamber_104 (fun t_104 h => ?_)
        refine lv_iload_n hx hb dX8_addChamber_105 rfl (lv_at hl 1 rfl) ?_
        refine lv_iload hx hb dX8_addChamber_106 (lv_at hl 4 rfl) ?_
        refine ez_cSpi (As := [.int x1, .int x4]) (rest := [.int t_104, .int t_98, .int t_81, .int t_75, .int x4, .ref (B + h0)]) h (fun _ q => c_X6_notch q) hC k_X6_notch ql_RX8_91 rfl (by decide) hS hl.1 rfl (Nat.le_of_ble_eq_true rfl) ⟨Nat.zero_le _, Nat.zero_le _⟩ dX8_addChamber_108 (fun t_108 H locs hS h => ?_)
        refine lv_ior hx hb dX8_addChamber_111 ?_
        refine ez_top h (fun t_111 h => ?_)
        refine ez_cVv (As := [.int x4, .int t_75, .int t_81, .int t_98, .int t_111]) (rest := []) h (fun _ q => c_X8_add q) hC k_X8_add ql_RX8_95 rfl (by decide) hS (fun _ q => ez_rcv q) rfl hl.1 rfl (Nat.le_of_ble_eq_true rfl) ⟨Nat.zero_le _, Nat.zero_le _⟩ dX8_addChamber_112 (fun _ σ H locs hS h => ?_)
        obtain ⟨t_115, e_115, h⟩ := ez_let_sp h
        refine lv_iinc (v := t_115) (lv' := [(4, .int t_115), (0, .ref (B + h0)), (1, .int x1), (2, .int x2), (3, .int x3)]) hx hb dX8_addChamber_115 hl (k := 4) rfl (by rw [e_115]; rfl) (by decide) rfl (fun ls hl => ?_)
        refine lv_goto (tgt := 41) hx hb dX8_addChamber_118 (by decide) ?_
        exact hk_41 σ h0 x1 x2 x3 t_115 _ _ _ hS h (lv_sub hl [1, 2, 3, 4, 0] rfl)
  have E_41 : ∀ (k_10 : ez_H → Nat → Int32 → Int32 → Option (Unit × ez_H)) (hk_10 : ∀ (σ : ez_H) (h0 : Nat) (x1 : Int32) (x2 : Int32) (H : Heap) (locs : List Loc) (ls : Array Slot), ez_S X B s.heap (σ0.length) σ H locs → k_10 σ h0 x1 x2 = some z → lv_has ls 5 [(0, .ref (B + h0)), (1, .int x1), (2, .int x2)] → W p l e R s m args below meth c H locs 0 0 Q (F0 m 10 ls [])), ∀ (σ : ez_H) (h0 : Nat) (x1 : Int32) (x2 : Int32) (x3 : Int32) (x4 : Int32) (H : Heap) (locs : List Loc) (ls : Array Slot), ez_S X B s.heap (σ0.length) σ H locs → (ez_fix (fun _ _ _ _ _ _ => none) (z_X8_addChamber_41 k_10) ez_N) σ h0 x1 x2 x3 x4 = some z → lv_has ls 5 [(0, .ref (B + h0)), (1, .int x1), (2, .int x2), (3, .int x3), (4, .int x4)] → W p l e R s m args below meth c H locs 0 0 Q (F0 m 41 ls []) := fun k_10 hk_10 => ez_fix_ind (fun k_41 : ez_H → Nat → Int32 → Int32 → Int32 → Int32 → Option (Unit × ez_H) => ∀ (σ : ez_H) (h0 : Nat) (x1 : Int32) (x2 : Int32) (x3 : Int32) (x4 : Int32) (H : Heap) (locs : List Loc) (ls : Array Slot), ez_S X B s.heap (σ0.length) σ H locs → k_41 σ h0 x1 x2 x3 x4 = some z → lv_has ls 5 [(0, .ref (B + h0)), (1, .int x1), (2, .int x2), (3, .int x3), (4, .int x4)] → W p l e R s m args below meth c H locs 0 0 Q (F0 m 41 ls [])) (fun _ _ _ _ _ _ _ _ _ _ h _ => by cases h) (fun k_41 hk_41 => K_41 k_10 hk_10 k_41 hk_41) ez_N
  have K_10 : ∀ (k_10 : ez_H → Nat → Int32 → Int32 → Option (Unit × ez_H)) (hk_10 : ∀ (σ : ez_H) (h0 : Nat) (x1 : Int32) (x2 : Int32) (H : Heap) (locs : List Loc) (ls : Array Slot), ez_S X B s.heap (σ0.length) σ H locs → k_10 σ h0 x1 x2 = some z → lv_has ls 5 [(0, .ref (B + h0)), (1, .int x1), (2, .int x2)] → W p l e R s m args below meth c H locs 0 0 Q (F0 m 10 ls [])), ∀ (σ : ez_H) (h0 : Nat) (x1 : Int32) (x2 : Int32) (H : Heap) (locs : List Loc) (ls : Array Slot), ez_S X B s.heap (σ0.length) σ H locs → z_X8_addChamber_10 k_10 σ h0 x1 x2 = some z → lv_has ls 5 [(0, .ref (B + h0)), (1, .int x1), (2, .int x2)] → W p l e R s m args below meth c H locs 0 0 Q (F0 m 10 ls []) := by
    intro k_10 hk_10 σ h0 x1 x2 H locs ls hS h hl
    refine lv_iload_n hx hb dX8_addChamber_10 rfl (lv_at hl 2 rfl) ?_
    refine lv_sipush (v := 384) hx hb dX8_addChamber_11 (by decide) ?_
    refine lv_icmp_ge (tgt := 127) hx hb dX8_addChamber_14 (by decide) (fun c_14 => ?_) (fun c_14 => ?_)
    · replace h := ez_ifp h c_14
      refine lv_aload_n hx hb dX8_addChamber_127 rfl (lv_at hl 0 rfl) ?_
      refine ez_cVv (As := []) (rest := []) h (fun _ q => c_X8_changeOver q) hC k_X8_changeOver ql_RX8_99 rfl (by decide) hS (fun _ q => ez_rcv q) rfl hl.1 rfl (Nat.le_of_ble_eq_true rfl) ⟨Nat.zero_le _, Nat.zero_le _⟩ dX8_addChamber_128 (fun _ σ H locs hS h => ?_)
      exact hret _ _ _ _ _ _ (Option.some.inj h) hS dX8_addChamber_131
    · replace h := ez_ifn h c_14
      refine lv_aload_n hx hb dX8_addChamber_17 rfl (lv_at hl 0 rfl) ?_
      refine eg_RX8_29 hC hS h dX8_addChamber_18 (fun t_18 h => ?_)
      refine lv_iload_n hx hb dX8_addChamber_21 rfl (lv_at hl 2 rfl) ?_
      refine ez_ial hC hS h dX8_addChamber_22 (fun t_22 h => ?_)
      refine lv_if_le (tgt := 121) hx hb dX8_addChamber_23 (by decide) (fun c_23 => ?_) (fun c_23 => ?_)
      · replace h := ez_ifp h c_23
        exact K_121 k_10 hk_10 σ h0 x1 x2 _ _ _ hS h (lv_sub hl [0, 1, 2] rfl)
      · replace h := ez_ifn h c_23
        refine lv_iload_n hx hb dX8_addChamber_26 rfl (lv_at hl 2 rfl) ?_
        refine lv_bipush (v := 64) hx hb dX8_addChamber_27 (by decide) ?_
        obtain ⟨nz_29, h⟩ := ez_nz_sp h
        refine lv_idiv hx hb dX8_addChamber_29 nz_29 ?_
        refine ez_top h (fun t_29 h => ?_)
        refine lv_istore_n (lv' := [(3, .int t_29), (0, .ref (B + h0)), (1, .int x1), (2, .int x2)]) hx hb dX8_addChamber_30 rfl hl (by decide) rfl (fun ls hl => ?_)
        refine lv_aload_n hx hb dX8_addChamber_31 rfl (lv_at hl 1 rfl) ?_
        refine eg_RX8_21 hC hS h dX8_addChamber_32 (fun t_32 h => ?_)
        refine lv_iload_n hx hb dX8_addChamber_35 rfl (lv_at hl 0 rfl) ?_
        refine ez_cVpi (As := [.int t_29]) (rest := []) h (fun _ q => c_X6_lowest q) hC k_X6_lowest ql_RX8_114 rfl (by decide) hS (fun _ q => ez_rcv q) rfl hl.1 rfl (Nat.le_of_ble_eq_true rfl) ⟨Nat.zero_le _, Nat.zero_le _⟩ dX8_addChamber_36 (fun t_36 H locs hS h => ?_)
        refine lv_istore (lv' := [(4, .int t_36), (3, .int t_29), (0, .ref (B + h0)), (1, .int x1), (2, .int x2)]) hx hb dX8_addChamber_39 hl (by decide) rfl (fun ls hl => ?_)
        exact E_41 k_10 hk_10 σ h0 x1 x2 t_29 t_36 _ _ _ hS h (lv_sub hl [2, 3, 4, 1, 0] rfl)
  have E_10 : ∀ (σ : ez_H) (h0 : Nat) (x1 : Int32) (x2 : Int32) (H : Heap) (locs : List Loc) (ls : Array Slot), ez_S X B s.heap (σ0.length) σ H locs → (ez_fix (fun _ _ _ _ => none) (z_X8_addChamber_10) ez_N) σ h0 x1 x2 = some z → lv_has ls 5 [(0, .ref (B + h0)), (1, .int x1), (2, .int x2)] → W p l e R s m args below meth c H locs 0 0 Q (F0 m 10 ls []) := ez_fix_ind (fun k_10 : ez_H → Nat → Int32 → Int32 → Option (Unit × ez_H) => ∀ (σ : ez_H) (h0 : Nat) (x1 : Int32) (x2 : Int32) (H : Heap) (locs : List Loc) (ls : Array Slot), ez_S X B s.heap (σ0.length) σ H locs → k_10 σ h0 x1 x2 = some z → lv_has ls 5 [(0, .ref (B + h0)), (1, .int x1), (2, .int x2)] → W p l e R s m args below meth c H locs 0 0 Q (F0 m 10 ls [])) (fun _ _ _ _ _ _ _ _ h _ => by cases h) (fun k_10 hk_10 => K_10 k_10 hk_10) ez_N
  refine lv_aload_n hx hb dX8_addChamber_0 rfl (lv_at hl 0 rfl) ?_
  refine eg_RX8_38 hC hS h dX8_addChamber_1 (fun t_1 h => ?_)
  refine lv_iconst (v := 0) hx hb dX8_addChamber_4 (by decide) ?_
  refine ez_cSv (As := [.ref (B + t_1), .int 0]) (rest := []) h (fun _ q => c_J7_fill_53178 q) hC k_J7_fill_53178 ql_RX8_81 rfl (by decide) hS hl.1 rfl (Nat.le_of_ble_eq_true rfl) ⟨Nat.zero_le _, Nat.zero_le _⟩ dX8_addChamber_5 (fun _ σ H locs hS h => ?_)
  refine lv_iconst (v := 0) hx hb dX8_addChamber_8 (by decide) ?_
  refine lv_istore_n (lv' := [(2, .int 0), (0, .ref (B + h0)), (1, .int x1)]) hx hb dX8_addChamber_9 rfl hl (by decide) rfl (fun ls hl => ?_)
  exact E_10  σ h0 x1 (0 : Int32) _ _ _ hS h (lv_sub hl [1, 2, 0] rfl)
set_option maxHeartbeats 4000000 in
set_option maxRecDepth 100000 in
theorem c_X8_gather {l : Launch} {X : ez_X} {B : Nat} {σ : ez_H} {h0 : Nat} {z : Unit × ez_H} (h : z_X8_gather σ h0 = some z) : ez_M l X B σ yX8_gather cX8_gather 4 (none) 1 [.ref (B + h0)] (none) z.2 := by
  refine ez_startv (z := z) (by decide) (Nat.le_of_ble_eq_true rfl) (fun p e R s m args below meth c Q hC hret hS ls hl => ?_)
  have hC : ez_C p R s m args c X B RX8 cX8_gather 4 1 := hC
  have hx := hC.1.1
  have hb := hC.1.2.1
  have hown := hC.1.2.2.2.1
  have hts := hC.1.2.2.2.2
  have hl : lv_has ls 4 [(0, .ref (B + h0))] := hl
  obtain ⟨σ0, eσ⟩ : ∃ σ0 : ez_H, σ0 = σ := ⟨_, rfl⟩
  rw [← eσ] at hret
  have hS : ez_S X B s.heap σ0.length σ s.heap [] := eσ ▸ hS
  obtain ⟨-, h⟩ := ez_in h
  have K_127 : ∀ (k_10 : ez_H → Nat → Int32 → Option (Unit × ez_H)) (hk_10 : ∀ (σ : ez_H) (h0 : Nat) (x1 : Int32) (H : Heap) (locs : List Loc) (ls : Array Slot), ez_S X B s.heap (σ0.length) σ H locs → k_10 σ h0 x1 = some z → lv_has ls 4 [(0, .ref (B + h0)), (1, .int x1)] → W p l e R s m args below meth c H locs 0 0 Q (F0 m 10 ls [])), ∀ (σ : ez_H) (h0 : Nat) (x1 : Int32) (H : Heap) (locs : List Loc) (ls : Array Slot), ez_S X B s.heap (σ0.length) σ H locs → z_X8_gather_127 k_10 σ h0 x1 = some z → lv_has ls 4 [(0, .ref (B + h0)), (1, .int x1)] → W p l e R s m args below meth c H locs 0 0 Q (F0 m 127 ls []) := by
    intro k_10 hk_10 σ h0 x1 H locs ls hS h hl
    obtain ⟨t_127, e_127, h⟩ := ez_let_sp h
    refine lv_iinc (v := t_127) (lv' := [(1, .int t_127), (0, .ref (B + h0))]) hx hb dX8_gather_127 hl (k := 1) rfl (by rw [e_127]; rfl) (by decide) rfl (fun ls hl => ?_)
    refine lv_goto (tgt := 10) hx hb dX8_gather_130 (by decide) ?_
    exact hk_10 σ h0 t_127 _ _ _ hS h (lv_sub hl [1, 0] rfl)
  have K_111 : ∀ (k_10 : ez_H → Nat → Int32 → Option (Unit × ez_H)) (hk_10 : ∀ (σ : ez_H) (h0 : Nat) (x1 : Int32) (H : Heap) (locs : List Loc) (ls : Array Slot), ez_S X B s.heap (σ0.length) σ H locs → k_10 σ h0 x1 = some z → lv_has ls 4 [(0, .ref (B + h0)), (1, .int x1)] → W p l e R s m args below meth c H locs 0 0 Q (F0 m 10 ls [])), ∀ (σ : ez_H) (h0 : Nat) (x1 : Int32) (x2 : Int32) (y0 : Nat) (y1 : Int32) (y2 : Int32) (H : Heap) (locs : List Loc) (ls : Array Slot), ez_S X B s.heap (σ0.length) σ H locs → z_X8_gather_111 k_10 σ h0 x1 x2 y0 y1 y2 = some z → lv_has ls 4 [(0, .ref (B + h0)), (1, .int x1), (2, .int x2)] → W p l e R s m args below meth c H locs 0 0 Q (F0 m 111 ls [.int y2, .int y1, .ref (B + y0)]) := by
    intro k_10 hk_10 σ h0 x1 x2 y0 y1 y2 H locs ls hS h hl
    refine ez_ias hC hS h dX8_gather_111 (fun σ H locs hS h => ?_)
    refine lv_aload_n hx hb dX8_gather_112 rfl (lv_at hl 0 rfl) ?_
    refine eg_RX8_47 hC hS h dX8_gather_113 (fun t_113 h => ?_)
    refine lv_iload_n hx hb dX8_gather_116 rfl (lv_at hl 2 rfl) ?_
    refine lv_dup2_11 hx hb dX8_gather_117 rfl rfl ?_
    refine ez_ial hC hS h dX8_gather_118 (fun t_118 h => ?_)
    refine lv_aload_n hx hb dX8_gather_119 rfl (lv_at hl 0 rfl) ?_
    refine eg_RX8_29 hC hS h dX8_gather_120 (fun t_120 h => ?_)
    refine lv_iload_n hx hb dX8_gather_123 rfl (lv_at hl 1 rfl) ?_
    refine ez_ial hC hS h dX8_gather_124 (fun t_124 h => ?_)
    refine lv_iadd hx hb dX8_gather_125 ?_
    refine ez_top h (fun t_125 h => ?_)
    refine ez_ias hC hS h dX8_gather_126 (fun σ H locs hS h => ?_)
    exact K_127 k_10 hk_10 σ h0 x1 _ _ _ hS h (lv_sub hl [0, 1] rfl)
  have K_79 : ∀ (k_10 : ez_H → Nat → Int32 → Option (Unit × ez_H)) (hk_10 : ∀ (σ : ez_H) (h0 : Nat) (x1 : Int32) (H : Heap) (locs : List Loc) (ls : Array Slot), ez_S X B s.heap (σ0.length) σ H locs → k_10 σ h0 x1 = some z → lv_has ls 4 [(0, .ref (B + h0)), (1, .int x1)] → W p l e R s m args below meth c H locs 0 0 Q (F0 m 10 ls [])), ∀ (σ : ez_H) (h0 : Nat) (x1 : Int32) (x2 : Int32) (x3 : Int32) (y0 : Nat) (y1 : Int32) (y2 : Int32) (H : Heap) (locs : List Loc) (ls : Array Slot), ez_S X B s.heap (σ0.length) σ H locs → z_X8_gather_79 k_10 σ h0 x1 x2 x3 y0 y1 y2 = some z → lv_has ls 4 [(0, .ref (B + h0)), (1, .int x1), (2, .int x2), (3, .int x3)] → W p l e R s m args below meth c H locs 0 0 Q (F0 m 79 ls [.int y2, .int y1, .ref (B + y0)]) := by
    intro k_10 hk_10 σ h0 x1 x2 x3 y0 y1 y2 H locs ls hS h hl
    refine ez_ias hC hS h dX8_gather_79 (fun σ H locs hS h => ?_)
    refine lv_aload_n hx hb dX8_gather_80 rfl (lv_at hl 0 rfl) ?_
    refine eg_RX8_53 hC hS h dX8_gather_81 (fun t_81 h => ?_)
    refine lv_iload_n hx hb dX8_gather_84 rfl (lv_at hl 2 rfl) ?_
    refine lv_iload_n hx hb dX8_gather_85 rfl (lv_at hl 3 rfl) ?_
    refine lv_if_eq (tgt := 98) hx hb dX8_gather_86 (by decide) (fun c_86 => ?_) (fun c_86 => ?_)
    · replace h := ez_ifp h c_86
      refine lv_aload_n hx hb dX8_gather_98 rfl (lv_at hl 0 rfl) ?_
      refine eg_RX8_53 hC hS h dX8_gather_99 (fun t_99 h => ?_)
      refine lv_iload_n hx hb dX8_gather_102 rfl (lv_at hl 2 rfl) ?_
      refine ez_ial hC hS h dX8_gather_103 (fun t_103 h => ?_)
      refine lv_aload_n hx hb dX8_gather_104 rfl (lv_at hl 0 rfl) ?_
      refine eg_RX8_35 hC hS h dX8_gather_105 (fun t_105 h => ?_)
      refine lv_iload_n hx hb dX8_gather_108 rfl (lv_at hl 1 rfl) ?_
      refine ez_ial hC hS h dX8_gather_109 (fun t_109 h => ?_)
      refine lv_ior hx hb dX8_gather_110 ?_
      refine ez_top h (fun t_110 h => ?_)
      exact K_111 k_10 hk_10 σ h0 x1 x2 t_81 x2 t_110 _ _ _ hS h (lv_sub hl [0, 1, 2] rfl)
    · replace h := ez_ifn h c_86
      refine lv_aload_n hx hb dX8_gather_89 rfl (lv_at hl 0 rfl) ?_
      refine eg_RX8_35 hC hS h dX8_gather_90 (fun t_90 h => ?_)
      refine lv_iload_n hx hb dX8_gather_93 rfl (lv_at hl 1 rfl) ?_
      refine ez_ial hC hS h dX8_gather_94 (fun t_94 h => ?_)
      refine lv_goto (tgt := 111) hx hb dX8_gather_95 (by decide) ?_
      exact K_111 k_10 hk_10 σ h0 x1 x2 t_81 x2 t_94 _ _ _ hS h (lv_sub hl [0, 1, 2] rfl)
  have K_45 : ∀ (k_10 : ez_H → Nat → Int32 → Option (Unit × ez_H)) (hk_10 : ∀ (σ : ez_H) (h0 : Nat) (x1 : Int32) (H : Heap) (locs : List Loc) (ls : Array Slot), ez_S X B s.heap (σ0.length) σ H locs → k_10 σ h0 x1 = some z → lv_has ls 4 [(0, .ref (B + h0)), (1, .int x1)] → W p l e R s m args below meth c H locs 0 0 Q (F0 m 10 ls [])), ∀ (σ : ez_H) (h0 : Nat) (x1 : Int32) (x2 : Int32) (y0 : Int32) (H : Heap) (locs : List Loc) (ls : Array Slot), ez_S X B s.heap (σ0.length) σ H locs → z_X8_gather_45 k_10 σ h0 x1 x2 y0 = some z → lv_has ls 4 [(0, .ref (B + h0)), (1, .int x1), (2, .int x2)] → W p l e R s m args below meth c H locs 0 0 Q (F0 m 45 ls [.int y0]) := by
    intro k_10 hk_10 σ h0 x1 x2 y0 H locs ls hS h hl
    refine lv_istore_n (lv' := [(3, .int y0), (0, .ref (B + h0)), (1, .int x1), (2, .int x2)]) hx hb dX8_gather_45 rfl hl (by decide) rfl (fun ls hl => ?_)
    refine lv_aload_n hx hb dX8_gather_46 rfl (lv_at hl 1 rfl) ?_
    refine eg_RX8_50 hC hS h dX8_gather_47 (fun t_47 h => ?_)
    refine lv_iload_n hx hb dX8_gather_50 rfl (lv_at hl 3 rfl) ?_
    refine lv_iload_n hx hb dX8_gather_51 rfl (lv_at hl 0 rfl) ?_
    refine lv_if_eq (tgt := 64) hx hb dX8_gather_52 (by decide) (fun c_52 => ?_) (fun c_52 => ?_)
    · replace h := ez_ifp h c_52
      refine lv_aload_n hx hb dX8_gather_64 rfl (lv_at hl 1 rfl) ?_
      refine eg_RX8_50 hC hS h dX8_gather_65 (fun t_65 h => ?_)
      refine lv_iload_n hx hb dX8_gather_68 rfl (lv_at hl 3 rfl) ?_
      refine ez_ial hC hS h dX8_gather_69 (fun t_69 h => ?_)
      refine lv_aload_n hx hb dX8_gather_70 rfl (lv_at hl 1 rfl) ?_
      refine eg_RX8_32 hC hS h dX8_gather_71 (fun t_71 h => ?_)
      refine lv_iload_n hx hb dX8_gather_74 rfl (lv_at hl 2 rfl) ?_
      refine ez_ial hC hS h dX8_gather_75 (fun t_75 h => ?_)
      refine va_mmin hx hb (hC.1.2.2.1.trans hl.1.symm) hown (hts _ ql_RX8_109) (hts _ qm_min_s) (hts _ qm_i) (hts _ qm_min_c) (Nat.le_trans (by decide) hC.2.2.1) (Nat.le_trans (Nat.le_of_ble_eq_true rfl) hC.2.2.2.1) (Nat.zero_le _) (Nat.zero_le _) dX8_gather_76 ?_
      refine ez_top h (fun t_76 h => ?_)
      exact K_79 k_10 hk_10 σ h0 x1 x2 y0 t_47 x2 t_76 _ _ _ hS h (lv_sub hl [1, 2, 3, 0] rfl)
    · replace h := ez_ifn h c_52
      refine lv_aload_n hx hb dX8_gather_55 rfl (lv_at hl 1 rfl) ?_
      refine eg_RX8_32 hC hS h dX8_gather_56 (fun t_56 h => ?_)
      refine lv_iload_n hx hb dX8_gather_59 rfl (lv_at hl 2 rfl) ?_
      refine ez_ial hC hS h dX8_gather_60 (fun t_60 h => ?_)
      refine lv_goto (tgt := 79) hx hb dX8_gather_61 (by decide) ?_
      exact K_79 k_10 hk_10 σ h0 x1 x2 y0 t_47 x2 t_60 _ _ _ hS h (lv_sub hl [1, 2, 3, 0] rfl)
  have K_10 : ∀ (k_10 : ez_H → Nat → Int32 → Option (Unit × ez_H)) (hk_10 : ∀ (σ : ez_H) (h0 : Nat) (x1 : Int32) (H : Heap) (locs : List Loc) (ls : Array Slot), ez_S X B s.heap (σ0.length) σ H locs → k_10 σ h0 x1 = some z → lv_has ls 4 [(0, .ref (B + h0)), (1, .int x1)] → W p l e R s m args below meth c H locs 0 0 Q (F0 m 10 ls [])), ∀ (σ : ez_H) (h0 : Nat) (x1 : Int32) (H : Heap) (locs : List Loc) (ls : Array Slot), ez_S X B s.heap (σ0.length) σ H locs → z_X8_gather_10 k_10 σ h0 x1 = some z → lv_has ls 4 [(0, .ref (B + h0)), (1, .int x1)] → W p l e R s m args below meth c H locs 0 0 Q (F0 m 10 ls []) := by
    intro k_10 hk_10 σ h0 x1 H locs ls hS h hl
    refine lv_iload_n hx hb dX8_gather_10 rfl (lv_at hl 1 rfl) ?_
    refine lv_sipush (v := 384) hx hb dX8_gather_11 (by decide) ?_
    refine lv_icmp_ge (tgt := 133) hx hb dX8_gather_14 (by decide) (fun c_14 => ?_) (fun c_14 => ?_)
    · replace h := ez_ifp h c_14
      exact hret _ _ _ _ _ _ (Option.some.inj h) hS dX8_gather_133
    · replace h := ez_ifn h c_14
      refine lv_iload_n hx hb dX8_gather_17 rfl (lv_at hl 1 rfl) ?_
      refine lv_bipush (v := 64) hx hb dX8_gather_18 (by decide) ?_
      obtain ⟨nz_20, h⟩ := ez_nz_sp h
      refine lv_irem hx hb dX8_gather_20 nz_20 ?_
      refine ez_top h (fun t_20 h => ?_)
      refine lv_istore_n (lv' := [(2, .int t_20), (0, .ref (B + h0)), (1, .int x1)]) hx hb dX8_gather_21 rfl hl (by decide) rfl (fun ls hl => ?_)
      refine lv_aload_n hx hb dX8_gather_22 rfl (lv_at hl 1 rfl) ?_
      refine eg_RX8_29 hC hS h dX8_gather_23 (fun t_23 h => ?_)
      refine lv_iload_n hx hb dX8_gather_26 rfl (lv_at hl 2 rfl) ?_
      refine ez_ial hC hS h dX8_gather_27 (fun t_27 h => ?_)
      refine lv_if_le (tgt := 127) hx hb dX8_gather_28 (by decide) (fun c_28 => ?_) (fun c_28 => ?_)
      · replace h := ez_ifp h c_28
        exact K_127 k_10 hk_10 σ h0 x1 _ _ _ hS h (lv_sub hl [1, 2] rfl)
      · replace h := ez_ifn h c_28
        refine lv_aload_n hx hb dX8_gather_31 rfl (lv_at hl 1 rfl) ?_
        refine eg_RX8_47 hC hS h dX8_gather_32 (fun t_32 h => ?_)
        refine lv_iload_n hx hb dX8_gather_35 rfl (lv_at hl 0 rfl) ?_
        refine ez_ial hC hS h dX8_gather_36 (fun t_36 h => ?_)
        refine lv_if_ne (tgt := 44) hx hb dX8_gather_37 (by decide) (fun c_37 => ?_) (fun c_37 => ?_)
        · replace h := ez_ifn h c_37
          refine lv_iconst (v := 0) hx hb dX8_gather_44 (by decide) ?_
          exact K_45 k_10 hk_10 σ h0 x1 t_20 (0 : Int32) _ _ _ hS h (lv_sub hl [1, 2, 0] rfl)
        · replace h := ez_ifp h c_37
          refine lv_iconst (v := 1) hx hb dX8_gather_40 (by decide) ?_
          refine lv_goto (tgt := 45) hx hb dX8_gather_41 (by decide) ?_
          exact K_45 k_10 hk_10 σ h0 x1 t_20 (1 : Int32) _ _ _ hS h (lv_sub hl [1, 2, 0] rfl)
  have E_10 : ∀ (σ : ez_H) (h0 : Nat) (x1 : Int32) (H : Heap) (locs : List Loc) (ls : Array Slot), ez_S X B s.heap (σ0.length) σ H locs → (ez_fix (fun _ _ _ => none) (z_X8_gather_10) ez_N) σ h0 x1 = some z → lv_has ls 4 [(0, .ref (B + h0)), (1, .int x1)] → W p l e R s m args below meth c H locs 0 0 Q (F0 m 10 ls []) := ez_fix_ind (fun k_10 : ez_H → Nat → Int32 → Option (Unit × ez_H) => ∀ (σ : ez_H) (h0 : Nat) (x1 : Int32) (H : Heap) (locs : List Loc) (ls : Array Slot), ez_S X B s.heap (σ0.length) σ H locs → k_10 σ h0 x1 = some z → lv_has ls 4 [(0, .ref (B + h0)), (1, .int x1)] → W p l e R s m args below meth c H locs 0 0 Q (F0 m 10 ls [])) (fun _ _ _ _ _ _ _ h _ => by cases h) (fun k_10 hk_10 => K_10 k_10 hk_10) ez_N
  refine lv_aload_n hx hb dX8_gather_0 rfl (lv_at hl 0 rfl) ?_
  refine eg_RX8_47 hC hS h dX8_gather_1 (fun t_1 h => ?_)
  refine lv_iconst (v := 0) hx hb dX8_gather_4 (by decide) ?_
  refine ez_cSv (As := [.ref (B + t_1), .int 0]) (rest := []) h (fun _ q => c_J7_fill_53178 q) hC k_J7_fill_53178 ql_RX8_81 rfl (by decide) hS hl.1 rfl (Nat.le_of_ble_eq_true rfl) ⟨Nat.zero_le _, Nat.zero_le _⟩ dX8_gather_5 (fun _ σ H locs hS h => ?_)
  refine lv_iconst (v := 0) hx hb dX8_gather_8 (by decide) ?_
  refine lv_istore_n (lv' := [(1, .int 0), (0, .ref (B + h0))]) hx hb dX8_gather_9 rfl hl (by decide) rfl (fun ls hl => ?_)
  exact E_10  σ h0 (0 : Int32) _ _ _ hS h (lv_sub hl [1, 0] rfl)
set_option maxHeartbeats 4000000 in
set_option maxRecDepth 100000 in
theorem c_X8_take {l : Launch} {X : ez_X} {B : Nat} {σ : ez_H} {h0 : Nat} {h1 : Nat} {z : Unit × ez_H} (h : z_X8_take σ h0 h1 = some z) : ez_M l X B σ yX8_take cX8_take 4 (none) 3 [.ref (B + h0), .ref (B + h1)] (none) z.2 := by
  refine ez_startv (z := z) (by decide) (Nat.le_of_ble_eq_true rfl) (fun p e R s m args below meth c Q hC hret hS ls hl => ?_)
  have hC : ez_C p R s m args c X B RX8 cX8_take 4 3 := hC
  have hx := hC.1.1
  have hb := hC.1.2.1
  have hown := hC.1.2.2.2.1
  have hts := hC.1.2.2.2.2
  have hl : lv_has ls 4 [(0, .ref (B + h0)), (1, .ref (B + h1))] := hl
  obtain ⟨σ0, eσ⟩ : ∃ σ0 : ez_H, σ0 = σ := ⟨_, rfl⟩
  rw [← eσ] at hret
  have hS : ez_S X B s.heap σ0.length σ s.heap [] := eσ ▸ hS
  obtain ⟨-, h⟩ := ez_in h
  have K_149 : ∀ (k_149 : ez_H → Nat → Nat → Int32 → Option (Unit × ez_H)) (hk_149 : ∀ (σ : ez_H) (h0 : Nat) (h1 : Nat) (x3 : Int32) (H : Heap) (locs : List Loc) (ls : Array Slot), ez_S X B s.heap (σ0.length) σ H locs → k_149 σ h0 h1 x3 = some z → lv_has ls 4 [(0, .ref (B + h0)), (1, .ref (B + h1)), (3, .int x3)] → W p l e R s m args below meth c H locs 0 0 Q (F0 m 149 ls [])), ∀ (σ : ez_H) (h0 : Nat) (h1 : Nat) (x3 : Int32) (H : Heap) (locs : List Loc) (ls : Array Slot), ez_S X B s.heap (σ0.length) σ H locs → z_X8_take_149 k_149 σ h0 h1 x3 = some z → lv_has ls 4 [(0, .ref (B + h0)), (1, .ref (B + h1)), (3, .int x3)] → W p l e R s m args below meth c H locs 0 0 Q (F0 m 149 ls []) := by
    intro k_149 hk_149 σ h0 h1 x3 H locs ls hS h hl
    refine lv_iload_n hx hb dX8_take_149 rfl (lv_at hl 2 rfl) ?_
    refine lv_aload_n hx hb dX8_take_150 rfl (lv_at hl 0 rfl) ?_
    refine eg_RX8_21 hC hS h dX8_take_151 (fun t_151 h => ?_)
    refine eg_RX8_56 hC hS h dX8_take_154 (fun t_154 h => ?_)
    refine lv_icmp_ge (tgt := 177) hx hb dX8_take_157 (by decide) (fun c_157 => ?_) (fun c_157 => ?_)
    · replace h := ez_ifp h c_157
      refine lv_aload_n hx hb dX8_take_177 rfl (lv_at hl 0 rfl) ?_
      refine ez_cVv (As := []) (rest := []) h (fun _ q => c_X8_gather q) hC k_X8_gather ql_RX8_106 rfl (by decide) hS (fun _ q => ez_rcv q) rfl hl.1 rfl (Nat.le_of_ble_eq_true rfl) ⟨Nat.zero_le _, Nat.zero_le _⟩ dX8_take_178 (fun _ σ H locs hS h => ?_)
      exact hret _ _ _ _ _ _ (Option.some.inj h) hS dX8_take_181
    · replace h := ez_ifn h c_157
      refine lv_aload_n hx hb dX8_take_160 rfl (lv_at hl 0 rfl) ?_
      refine lv_iload_n hx hb dX8_take_161 rfl (lv_at hl 2 rfl) ?_
      refine lv_aload_n hx hb dX8_take_162 rfl (lv_at hl 1 rfl) ?_
      refine ez_cVv (As := [.int x3, .ref (B + h1)]) (rest := []) h (fun _ q => c_X8_allowIn q) hC k_X8_allowIn ql_RX8_87 rfl (by decide) hS (fun _ q => ez_rcv q) rfl hl.1 rfl (Nat.le_of_ble_eq_true rfl) ⟨Nat.zero_le _, Nat.zero_le _⟩ dX8_take_163 (fun _ σ H locs hS h => ?_)
      refine lv_aload_n hx hb dX8_take_166 rfl (lv_at hl 0 rfl) ?_
      refine lv_iload_n hx hb dX8_take_167 rfl (lv_at hl 2 rfl) ?_
      refine ez_cVv (As := [.int x3]) (rest := []) h (fun _ q => c_X8_addChamber q) hC k_X8_addChamber ql_RX8_102 rfl (by decide) hS (fun _ q => ez_rcv q) rfl hl.1 rfl (Nat.le_of_ble_eq_true rfl) ⟨Nat.zero_le _, Nat.zero_le _⟩ dX8_take_168 (fun _ σ H locs hS h => ?_)
      obtain ⟨t_171, e_171, h⟩ := ez_let_sp h
      refine lv_iinc (v := t_171) (lv' := [(3, .int t_171), (0, .ref (B + h0)), (1, .ref (B + h1))]) hx hb dX8_take_171 hl (k := 2) rfl (by rw [e_171]; rfl) (by decide) rfl (fun ls hl => ?_)
      refine lv_goto (tgt := 149) hx hb dX8_take_174 (by decide) ?_
      exact hk_149 σ h0 h1 t_171 _ _ _ hS h (lv_sub hl [1, 2, 0] rfl)
  have E_149 : ∀ (σ : ez_H) (h0 : Nat) (h1 : Nat) (x3 : Int32) (H : Heap) (locs : List Loc) (ls : Array Slot), ez_S X B s.heap (σ0.length) σ H locs → (ez_fix (fun _ _ _ _ => none) (z_X8_take_149) ez_N) σ h0 h1 x3 = some z → lv_has ls 4 [(0, .ref (B + h0)), (1, .ref (B + h1)), (3, .int x3)] → W p l e R s m args below meth c H locs 0 0 Q (F0 m 149 ls []) := ez_fix_ind (fun k_149 : ez_H → Nat → Nat → Int32 → Option (Unit × ez_H) => ∀ (σ : ez_H) (h0 : Nat) (h1 : Nat) (x3 : Int32) (H : Heap) (locs : List Loc) (ls : Array Slot), ez_S X B s.heap (σ0.length) σ H locs → k_149 σ h0 h1 x3 = some z → lv_has ls 4 [(0, .ref (B + h0)), (1, .ref (B + h1)), (3, .int x3)] → W p l e R s m args below meth c H locs 0 0 Q (F0 m 149 ls [])) (fun _ _ _ _ _ _ _ _ h _ => by cases h) (fun k_149 hk_149 => K_149 k_149 hk_149) ez_N
  have K_143 : ∀ (σ : ez_H) (h0 : Nat) (h1 : Nat) (H : Heap) (locs : List Loc) (ls : Array Slot), ez_S X B s.heap (σ0.length) σ H locs → z_X8_take_143 σ h0 h1 = some z → lv_has ls 4 [(0, .ref (B + h0)), (1, .ref (B + h1))] → W p l e R s m args below meth c H locs 0 0 Q (F0 m 143 ls []) := by
    intro σ h0 h1 H locs ls hS h hl
    refine lv_aload_n hx hb dX8_take_143 rfl (lv_at hl 0 rfl) ?_
    refine ez_cVv (As := []) (rest := []) h (fun _ q => c_X8_changeOver q) hC k_X8_changeOver ql_RX8_99 rfl (by decide) hS (fun _ q => ez_rcv q) rfl hl.1 rfl (Nat.le_of_ble_eq_true rfl) ⟨Nat.zero_le _, Nat.zero_le _⟩ dX8_take_144 (fun _ σ H locs hS h => ?_)
    refine lv_iconst (v := 1) hx hb dX8_take_147 (by decide) ?_
    refine lv_istore_n (lv' := [(3, .int 1), (0, .ref (B + h0)), (1, .ref (B + h1))]) hx hb dX8_take_148 rfl hl (by decide) rfl (fun ls hl => ?_)
    exact E_149  σ h0 h1 (1 : Int32) _ _ _ hS h (lv_sub hl [1, 2, 0] rfl)
  have K_102 : ∀ (k_102 : ez_H → Nat → Nat → Int32 → Option (Unit × ez_H)) (hk_102 : ∀ (σ : ez_H) (h0 : Nat) (h1 : Nat) (x3 : Int32) (H : Heap) (locs : List Loc) (ls : Array Slot), ez_S X B s.heap (σ0.length) σ H locs → k_102 σ h0 h1 x3 = some z → lv_has ls 4 [(0, .ref (B + h0)), (1, .ref (B + h1)), (3, .int x3)] → W p l e R s m args below meth c H locs 0 0 Q (F0 m 102 ls [])), ∀ (σ : ez_H) (h0 : Nat) (h1 : Nat) (x3 : Int32) (H : Heap) (locs : List Loc) (ls : Array Slot), ez_S X B s.heap (σ0.length) σ H locs → z_X8_take_102 k_102 σ h0 h1 x3 = some z → lv_has ls 4 [(0, .ref (B + h0)), (1, .ref (B + h1)), (3, .int x3)] → W p l e R s m args below meth c H locs 0 0 Q (F0 m 102 ls []) := by
    intro k_102 hk_102 σ h0 h1 x3 H locs ls hS h hl
    refine lv_iload_n hx hb dX8_take_102 rfl (lv_at hl 2 rfl) ?_
    refine lv_aload_n hx hb dX8_take_103 rfl (lv_at hl 0 rfl) ?_
    refine eg_RX8_21 hC hS h dX8_take_104 (fun t_104 h => ?_)
    refine eg_RX8_66 hC hS h dX8_take_107 (fun t_107 h => ?_)
    refine lv_icmp_ge (tgt := 143) hx hb dX8_take_110 (by decide) (fun c_110 => ?_) (fun c_110 => ?_)
    · replace h := ez_ifp h c_110
      exact K_143  σ h0 h1 _ _ _ hS h (lv_sub hl [0, 1] rfl)
    · replace h := ez_ifn h c_110
      refine lv_iload_n hx hb dX8_take_113 rfl (lv_at hl 2 rfl) ?_
      refine lv_bipush (v := 6) hx hb dX8_take_114 (by decide) ?_
      refine lv_icmp_ge (tgt := 143) hx hb dX8_take_116 (by decide) (fun c_116 => ?_) (fun c_116 => ?_)
      · replace h := ez_ifp h c_116
        exact K_143  σ h0 h1 _ _ _ hS h (lv_sub hl [0, 1] rfl)
      · replace h := ez_ifn h c_116
        refine lv_aload_n hx hb dX8_take_119 rfl (lv_at hl 0 rfl) ?_
        refine lv_iload_n hx hb dX8_take_120 rfl (lv_at hl 2 rfl) ?_
        refine lv_aload_n hx hb dX8_take_121 rfl (lv_at hl 0 rfl) ?_
        refine eg_RX8_26 hC hS h dX8_take_122 (fun t_122 h => ?_)
        refine lv_iload_n hx hb dX8_take_125 rfl (lv_at hl 2 rfl) ?_
        refine ez_ial hC hS h dX8_take_126 (fun t_126 h => ?_)
        refine lv_iconst (v := 1) hx hb dX8_take_127 (by decide) ?_
        refine lv_iload_n hx hb dX8_take_128 rfl (lv_at hl 2 rfl) ?_
        refine lv_iconst (v := 0) hx hb dX8_take_129 (by decide) ?_
        refine lv_iload_n hx hb dX8_take_130 rfl (lv_at hl 2 rfl) ?_
        refine ez_cSpi (As := [.int 0, .int x3]) (rest := [.int x3, .int 1, .int t_126, .int x3, .ref (B + h0)]) h (fun _ q => c_X6_notch q) hC k_X6_notch ql_RX8_91 rfl (by decide) hS hl.1 rfl (Nat.le_of_ble_eq_true rfl) ⟨Nat.zero_le _, Nat.zero_le _⟩ dX8_take_131 (fun t_131 H locs hS h => ?_)
        refine ez_cVv (As := [.int x3, .int t_126, .int 1, .int x3, .int t_131]) (rest := []) h (fun _ q => c_X8_add q) hC k_X8_add ql_RX8_95 rfl (by decide) hS (fun _ q => ez_rcv q) rfl hl.1 rfl (Nat.le_of_ble_eq_true rfl) ⟨Nat.zero_le _, Nat.zero_le _⟩ dX8_take_134 (fun _ σ H locs hS h => ?_)
        obtain ⟨t_137, e_137, h⟩ := ez_let_sp h
        refine lv_iinc (v := t_137) (lv' := [(3, .int t_137), (0, .ref (B + h0)), (1, .ref (B + h1))]) hx hb dX8_take_137 hl (k := 2) rfl (by rw [e_137]; rfl) (by decide) rfl (fun ls hl => ?_)
        refine lv_goto (tgt := 102) hx hb dX8_take_140 (by decide) ?_
        exact hk_102 σ h0 h1 t_137 _ _ _ hS h (lv_sub hl [1, 2, 0] rfl)
  have E_102 : ∀ (σ : ez_H) (h0 : Nat) (h1 : Nat) (x3 : Int32) (H : Heap) (locs : List Loc) (ls : Array Slot), ez_S X B s.heap (σ0.length) σ H locs → (ez_fix (fun _ _ _ _ => none) (z_X8_take_102) ez_N) σ h0 h1 x3 = some z → lv_has ls 4 [(0, .ref (B + h0)), (1, .ref (B + h1)), (3, .int x3)] → W p l e R s m args below meth c H locs 0 0 Q (F0 m 102 ls []) := ez_fix_ind (fun k_102 : ez_H → Nat → Nat → Int32 → Option (Unit × ez_H) => ∀ (σ : ez_H) (h0 : Nat) (h1 : Nat) (x3 : Int32) (H : Heap) (locs : List Loc) (ls : Array Slot), ez_S X B s.heap (σ0.length) σ H locs → k_102 σ h0 h1 x3 = some z → lv_has ls 4 [(0, .ref (B + h0)), (1, .ref (B + h1)), (3, .int x3)] → W p l e R s m args below meth c H locs 0 0 Q (F0 m 102 ls [])) (fun _ _ _ _ _ _ _ _ h _ => by cases h) (fun k_102 hk_102 => K_102 k_102 hk_102) ez_N
  have K_54 : ∀ (k_54 : ez_H → Nat → Nat → Int32 → Int32 → Option (Unit × ez_H)) (hk_54 : ∀ (σ : ez_H) (h0 : Nat) (h1 : Nat) (x2 : Int32) (x3 : Int32) (H : Heap) (locs : List Loc) (ls : Array Slot), ez_S X B s.heap (σ0.length) σ H locs → k_54 σ h0 h1 x2 x3 = some z → lv_has ls 4 [(0, .ref (B + h0)), (1, .ref (B + h1)), (2, .int x2), (3, .int x3)] → W p l e R s m args below meth c H locs 0 0 Q (F0 m 54 ls [])), ∀ (σ : ez_H) (h0 : Nat) (h1 : Nat) (x2 : Int32) (x3 : Int32) (H : Heap) (locs : List Loc) (ls : Array Slot), ez_S X B s.heap (σ0.length) σ H locs → z_X8_take_54 k_54 σ h0 h1 x2 x3 = some z → lv_has ls 4 [(0, .ref (B + h0)), (1, .ref (B + h1)), (2, .int x2), (3, .int x3)] → W p l e R s m args below meth c H locs 0 0 Q (F0 m 54 ls []) := by
    intro k_54 hk_54 σ h0 h1 x2 x3 H locs ls hS h hl
    refine lv_iload_n hx hb dX8_take_54 rfl (lv_at hl 3 rfl) ?_
    refine lv_bipush (v := 6) hx hb dX8_take_55 (by decide) ?_
    refine lv_icmp_ge (tgt := 81) hx hb dX8_take_57 (by decide) (fun c_57 => ?_) (fun c_57 => ?_)
    · replace h := ez_ifp h c_57
      refine lv_iload_n hx hb dX8_take_81 rfl (lv_at hl 2 rfl) ?_
      refine lv_if_eq (tgt := 86) hx hb dX8_take_82 (by decide) (fun c_82 => ?_) (fun c_82 => ?_)
      · replace h := ez_ifp h c_82
        refine lv_aload_n hx hb dX8_take_86 rfl (lv_at hl 0 rfl) ?_
        refine eg_RX8_38 hC hS h dX8_take_87 (fun t_87 h => ?_)
        refine lv_iconst (v := 0) hx hb dX8_take_90 (by decide) ?_
        refine ez_cSv (As := [.ref (B + t_87), .int 0]) (rest := []) h (fun _ q => c_J7_fill_53178 q) hC k_J7_fill_53178 ql_RX8_81 rfl (by decide) hS hl.1 rfl (Nat.le_of_ble_eq_true rfl) ⟨Nat.zero_le _, Nat.zero_le _⟩ dX8_take_91 (fun _ σ H locs hS h => ?_)
        refine lv_aload_n hx hb dX8_take_94 rfl (lv_at hl 0 rfl) ?_
        refine lv_iconst (v := 0) hx hb dX8_take_95 (by decide) ?_
        refine lv_aload_n hx hb dX8_take_96 rfl (lv_at hl 1 rfl) ?_
        refine ez_cVv (As := [.int 0, .ref (B + h1)]) (rest := []) h (fun _ q => c_X8_allowIn q) hC k_X8_allowIn ql_RX8_87 rfl (by decide) hS (fun _ q => ez_rcv q) rfl hl.1 rfl (Nat.le_of_ble_eq_true rfl) ⟨Nat.zero_le _, Nat.zero_le _⟩ dX8_take_97 (fun _ σ H locs hS h => ?_)
        refine lv_iconst (v := 0) hx hb dX8_take_100 (by decide) ?_
        refine lv_istore_n (lv' := [(3, .int 0), (0, .ref (B + h0)), (1, .ref (B + h1)), (2, .int x2)]) hx hb dX8_take_101 rfl hl (by decide) rfl (fun ls hl => ?_)
        exact E_102  σ h0 h1 (0 : Int32) _ _ _ hS h (lv_sub hl [1, 2, 0] rfl)
      · replace h := ez_ifn h c_82
        exact hret _ _ _ _ _ _ (Option.some.inj h) hS dX8_take_85
    · replace h := ez_ifn h c_57
      refine lv_iload_n hx hb dX8_take_60 rfl (lv_at hl 2 rfl) ?_
      refine lv_aload_n hx hb dX8_take_61 rfl (lv_at hl 0 rfl) ?_
      refine lv_iconst (v := 4) hx hb dX8_take_62 (by decide) ?_
      refine lv_iload_n hx hb dX8_take_63 rfl (lv_at hl 3 rfl) ?_
      refine lv_iadd hx hb dX8_take_64 ?_
      refine ez_top h (fun t_64 h => ?_)
      refine lv_aload_n hx hb dX8_take_65 rfl (lv_at hl 1 rfl) ?_
      refine lv_iload_n hx hb dX8_take_66 rfl (lv_at hl 3 rfl) ?_
      refine ez_cVpi (As := [.int x3]) (rest := [.int t_64, .ref (B + h0), .int x2]) h (fun _ q => c_X7_pins q) hC k_X7_pins ql_RX8_75 rfl (by decide) hS (fun _ q => ez_rcv q) rfl hl.1 rfl (Nat.le_of_ble_eq_true rfl) ⟨Nat.zero_le _, Nat.zero_le _⟩ dX8_take_67 (fun t_67 H locs hS h => ?_)
      refine ez_cVi (As := [.int t_64, .int t_67]) (rest := [.int x2]) h (fun _ q => c_X8_isMarked q) hC k_X8_isMarked ql_RX8_62 rfl (by decide) hS (fun _ q => ez_rcv q) rfl hl.1 rfl (Nat.le_of_ble_eq_true rfl) ⟨Nat.zero_le _, Nat.zero_le _⟩ dX8_take_70 (fun t_70 σ H locs hS h => ?_)
      refine lv_iand hx hb dX8_take_73 ?_
      refine ez_top h (fun t_73 h => ?_)
      refine lv_istore_n (lv' := [(2, .int t_73), (0, .ref (B + h0)), (1, .ref (B + h1)), (3, .int x3)]) hx hb dX8_take_74 rfl hl (by decide) rfl (fun ls hl => ?_)
      obtain ⟨t_75, e_75, h⟩ := ez_let_sp h
      refine lv_iinc (v := t_75) (lv' := [(3, .int t_75), (2, .int t_73), (0, .ref (B + h0)), (1, .ref (B + h1))]) hx hb dX8_take_75 hl (k := 3) rfl (by rw [e_75]; rfl) (by decide) rfl (fun ls hl => ?_)
      refine lv_goto (tgt := 54) hx hb dX8_take_78 (by decide) ?_
      exact hk_54 σ h0 h1 t_73 t_75 _ _ _ hS h (lv_sub hl [2, 3, 1, 0] rfl)
  have E_54 : ∀ (σ : ez_H) (h0 : Nat) (h1 : Nat) (x2 : Int32) (x3 : Int32) (H : Heap) (locs : List Loc) (ls : Array Slot), ez_S X B s.heap (σ0.length) σ H locs → (ez_fix (fun _ _ _ _ _ => none) (z_X8_take_54) ez_N) σ h0 h1 x2 x3 = some z → lv_has ls 4 [(0, .ref (B + h0)), (1, .ref (B + h1)), (2, .int x2), (3, .int x3)] → W p l e R s m args below meth c H locs 0 0 Q (F0 m 54 ls []) := ez_fix_ind (fun k_54 : ez_H → Nat → Nat → Int32 → Int32 → Option (Unit × ez_H) => ∀ (σ : ez_H) (h0 : Nat) (h1 : Nat) (x2 : Int32) (x3 : Int32) (H : Heap) (locs : List Loc) (ls : Array Slot), ez_S X B s.heap (σ0.length) σ H locs → k_54 σ h0 h1 x2 x3 = some z → lv_has ls 4 [(0, .ref (B + h0)), (1, .ref (B + h1)), (2, .int x2), (3, .int x3)] → W p l e R s m args below meth c H locs 0 0 Q (F0 m 54 ls [])) (fun _ _ _ _ _ _ _ _ _ h _ => by cases h) (fun k_54 hk_54 => K_54 k_54 hk_54) ez_N
  refine lv_aload_n hx hb dX8_take_0 rfl (lv_at hl 0 rfl) ?_
  refine lv_iconst (v := 0) hx hb dX8_take_1 (by decide) ?_
  refine lv_aload_n hx hb dX8_take_2 rfl (lv_at hl 0 rfl) ?_
  refine eg_RX8_21 hC hS h dX8_take_3 (fun t_3 h => ?_)
  refine eg_RX8_56 hC hS h dX8_take_6 (fun t_6 h => ?_)
  refine ez_cVi (As := [.int 0, .int t_6]) (rest := []) h (fun _ q => c_X8_isMarked q) hC k_X8_isMarked ql_RX8_62 rfl (by decide) hS (fun _ q => ez_rcv q) rfl hl.1 rfl (Nat.le_of_ble_eq_true rfl) ⟨Nat.zero_le _, Nat.zero_le _⟩ dX8_take_9 (fun t_9 σ H locs hS h => ?_)
  refine lv_aload_n hx hb dX8_take_12 rfl (lv_at hl 0 rfl) ?_
  refine lv_iconst (v := 1) hx hb dX8_take_13 (by decide) ?_
  refine lv_aload_n hx hb dX8_take_14 rfl (lv_at hl 0 rfl) ?_
  refine eg_RX8_21 hC hS h dX8_take_15 (fun t_15 h => ?_)
  refine eg_RX8_66 hC hS h dX8_take_18 (fun t_18 h => ?_)
  refine ez_cVi (As := [.int 1, .int t_18]) (rest := [.int t_9]) h (fun _ q => c_X8_isMarked q) hC k_X8_isMarked ql_RX8_62 rfl (by decide) hS (fun _ q => ez_rcv q) rfl hl.1 rfl (Nat.le_of_ble_eq_true rfl) ⟨Nat.zero_le _, Nat.zero_le _⟩ dX8_take_21 (fun t_21 σ H locs hS h => ?_)
  refine lv_iand hx hb dX8_take_24 ?_
  refine ez_top h (fun t_24 h => ?_)
  refine lv_aload_n hx hb dX8_take_25 rfl (lv_at hl 0 rfl) ?_
  refine lv_iconst (v := 2) hx hb dX8_take_26 (by decide) ?_
  refine lv_aload_n hx hb dX8_take_27 rfl (lv_at hl 0 rfl) ?_
  refine eg_RX8_21 hC hS h dX8_take_28 (fun t_28 h => ?_)
  refine eg_RX8_69 hC hS h dX8_take_31 (fun t_31 h => ?_)
  refine ez_cVi (As := [.int 2, .int t_31]) (rest := [.int t_24]) h (fun _ q => c_X8_isMarked q) hC k_X8_isMarked ql_RX8_62 rfl (by decide) hS (fun _ q => ez_rcv q) rfl hl.1 rfl (Nat.le_of_ble_eq_true rfl) ⟨Nat.zero_le _, Nat.zero_le _⟩ dX8_take_34 (fun t_34 σ H locs hS h => ?_)
  refine lv_iand hx hb dX8_take_37 ?_
  refine ez_top h (fun t_37 h => ?_)
  refine lv_aload_n hx hb dX8_take_38 rfl (lv_at hl 0 rfl) ?_
  refine lv_iconst (v := 3) hx hb dX8_take_39 (by decide) ?_
  refine lv_aload_n hx hb dX8_take_40 rfl (lv_at hl 0 rfl) ?_
  refine eg_RX8_9 hC hS h dX8_take_41 (fun t_41 h => ?_)
  refine eg_RX8_72 hC hS h dX8_take_44 (fun t_44 h => ?_)
  refine ez_cVi (As := [.int 3, .int t_44]) (rest := [.int t_37]) h (fun _ q => c_X8_isMarked q) hC k_X8_isMarked ql_RX8_62 rfl (by decide) hS (fun _ q => ez_rcv q) rfl hl.1 rfl (Nat.le_of_ble_eq_true rfl) ⟨Nat.zero_le _, Nat.zero_le _⟩ dX8_take_47 (fun t_47 σ H locs hS h => ?_)
  refine lv_iand hx hb dX8_take_50 ?_
  refine ez_top h (fun t_50 h => ?_)
  refine lv_istore_n (lv' := [(2, .int t_50), (0, .ref (B + h0)), (1, .ref (B + h1))]) hx hb dX8_take_51 rfl hl (by decide) rfl (fun ls hl => ?_)
  refine lv_iconst (v := 0) hx hb dX8_take_52 (by decide) ?_
  refine lv_istore_n (lv' := [(3, .int 0), (2, .int t_50), (0, .ref (B + h0)), (1, .ref (B + h1))]) hx hb dX8_take_53 rfl hl (by decide) rfl (fun ls hl => ?_)
  exact E_54  σ h0 h1 t_50 (0 : Int32) _ _ _ hS h (lv_sub hl [2, 3, 1, 0] rfl)
set_option maxHeartbeats 4000000 in
set_option maxRecDepth 100000 in
theorem c_X10_knownAt {l : Launch} {X : ez_X} {B : Nat} {σ : ez_H} {h0 : Nat} {x1 : Int32} {x2 : Int32} {z : Int32} (h : z_X10_knownAt σ h0 x1 x2 = some z) : ez_M l X B σ yX10_knownAt cX10_knownAt 6 (some .int) 0 [.ref (B + h0), .int x1, .int x2] (some (.int z)) σ := by
  refine ez_startip (z := z) (by decide) (Nat.le_of_ble_eq_true rfl) (fun p e R s m args below meth c Q hC hret hS ls hl => ?_)
  have hC : ez_C p R s m args c X B RX10 cX10_knownAt 6 0 := hC
  have hx := hC.1.1
  have hb := hC.1.2.1
  have hown := hC.1.2.2.2.1
  have hts := hC.1.2.2.2.2
  have hl : lv_has ls 6 [(0, .ref (B + h0)), (1, .int x1), (2, .int x2)] := hl
  obtain ⟨n0, e0⟩ : ∃ n0 : Nat, n0 = σ.length := ⟨_, rfl⟩
  rw [← e0] at hret hS
  obtain ⟨-, h⟩ := ez_in h
  have K_95 : ∀ (x3 : Int32) (H : Heap) (locs : List Loc) (ls : Array Slot), ez_S X B s.heap (n0) σ H locs → z_X10_knownAt_95 σ x3 = some z → lv_has ls 6 [(3, .int x3)] → W p l e R s m args below meth c H locs 0 0 Q (F0 m 95 ls []) := by
    intro x3 H locs ls hS h hl
    refine lv_iload_n hx hb dX10_knownAt_95 rfl (lv_at hl 0 rfl) ?_
    exact hret _ _ _ _ _ (Option.some.inj h) rfl hS dX10_knownAt_96
  have K_89 : ∀ (k_5 : Nat → Int32 → Int32 → Int32 → Int32 → Option (Int32)) (hk_5 : ∀ (h0 : Nat) (x1 : Int32) (x2 : Int32) (x3 : Int32) (x4 : Int32) (H : Heap) (locs : List Loc) (ls : Array Slot), ez_S X B s.heap (n0) σ H locs → k_5 h0 x1 x2 x3 x4 = some z → lv_has ls 6 [(0, .ref (B + h0)), (1, .int x1), (2, .int x2), (3, .int x3), (4, .int x4)] → W p l e R s m args below meth c H locs 0 0 Q (F0 m 5 ls [])), ∀ (h0 : Nat) (x1 : Int32) (x2 : Int32) (x3 : Int32) (x4 : Int32) (H : Heap) (locs : List Loc) (ls : Array Slot), ez_S X B s.heap (n0) σ H locs → z_X10_knownAt_89 σ k_5 h0 x1 x2 x3 x4 = some z → lv_has ls 6 [(0, .ref (B + h0)), (1, .int x1), (2, .int x2), (3, .int x3), (4, .int x4)] → W p l e R s m args below meth c H locs 0 0 Q (F0 m 89 ls []) := by
    intro k_5 hk_5 h0 x1 x2 x3 x4 H locs ls hS h hl
    obtain ⟨t_89, e_89, h⟩ := ez_let_sp h
    refine lv_iinc (v := t_89) (lv' := [(4, .int t_89), (0, .ref (B + h0)), (1, .int x1), (2, .int x2), (3, .int x3)]) hx hb dX10_knownAt_89 hl (k := 4) rfl (by rw [e_89]; rfl) (by decide) rfl (fun ls hl => ?_)
    refine lv_goto (tgt := 5) hx hb dX10_knownAt_92 (by decide) ?_
    exact hk_5 h0 x1 x2 x3 t_89 _ _ _ hS h (lv_sub hl [1, 2, 3, 4, 0] rfl)
  have K_48 : ∀ (k_5 : Nat → Int32 → Int32 → Int32 → Int32 → Option (Int32)) (hk_5 : ∀ (h0 : Nat) (x1 : Int32) (x2 : Int32) (x3 : Int32) (x4 : Int32) (H : Heap) (locs : List Loc) (ls : Array Slot), ez_S X B s.heap (n0) σ H locs → k_5 h0 x1 x2 x3 x4 = some z → lv_has ls 6 [(0, .ref (B + h0)), (1, .int x1), (2, .int x2), (3, .int x3), (4, .int x4)] → W p l e R s m args below meth c H locs 0 0 Q (F0 m 5 ls [])), ∀ (h0 : Nat) (x1 : Int32) (x2 : Int32) (x3 : Int32) (x4 : Int32) (y0 : Int32) (H : Heap) (locs : List Loc) (ls : Array Slot), ez_S X B s.heap (n0) σ H locs → z_X10_knownAt_48 σ k_5 h0 x1 x2 x3 x4 y0 = some z → lv_has ls 6 [(0, .ref (B + h0)), (1, .int x1), (2, .int x2), (3, .int x3), (4, .int x4)] → W p l e R s m args below meth c H locs 0 0 Q (F0 m 48 ls [.int y0]) := by
    intro k_5 hk_5 h0 x1 x2 x3 x4 y0 H locs ls hS h hl
    refine lv_istore (lv' := [(5, .int y0), (0, .ref (B + h0)), (1, .int x1), (2, .int x2), (3, .int x3), (4, .int x4)]) hx hb dX10_knownAt_48 hl (by decide) rfl (fun ls hl => ?_)
    refine lv_aload_n hx hb dX10_knownAt_50 rfl (lv_at hl 1 rfl) ?_
    refine eg_RX10_15 hC hS h dX10_knownAt_51 (fun t_51 h => ?_)
    refine lv_iload hx hb dX10_knownAt_54 (lv_at hl 5 rfl) ?_
    refine ez_zal hC hS h dX10_knownAt_56 (fun t_56 h => ?_)
    refine lv_iload_n hx hb dX10_knownAt_57 rfl (lv_at hl 3 rfl) ?_
    refine lv_icmp_ne (tgt := 89) hx hb dX10_knownAt_58 (by decide) (fun c_58 => ?_) (fun c_58 => ?_)
    · replace h := ez_ifn h c_58
      exact K_89 k_5 hk_5 h0 x1 x2 x3 x4 _ _ _ hS h (lv_sub hl [1, 2, 3, 4, 5] rfl)
    · replace h := ez_ifp h c_58
      refine lv_aload_n hx hb dX10_knownAt_61 rfl (lv_at hl 1 rfl) ?_
      refine eg_RX10_19 hC hS h dX10_knownAt_62 (fun t_62 h => ?_)
      refine lv_iload hx hb dX10_knownAt_65 (lv_at hl 5 rfl) ?_
      refine ez_ial hC hS h dX10_knownAt_67 (fun t_67 h => ?_)
      refine lv_iload_n hx hb dX10_knownAt_68 rfl (lv_at hl 2 rfl) ?_
      refine lv_icmp_gt (tgt := 89) hx hb dX10_knownAt_69 (by decide) (fun c_69 => ?_) (fun c_69 => ?_)
      · replace h := ez_ifp h c_69
        exact K_89 k_5 hk_5 h0 x1 x2 x3 x4 _ _ _ hS h (lv_sub hl [1, 2, 3, 4, 5] rfl)
      · replace h := ez_ifn h c_69
        refine lv_iload hx hb dX10_knownAt_72 (lv_at hl 0 rfl) ?_
        refine lv_if_ne (tgt := 89) hx hb dX10_knownAt_74 (by decide) (fun c_74 => ?_) (fun c_74 => ?_)
        · replace h := ez_ifn h c_74
          exact K_89 k_5 hk_5 h0 x1 x2 x3 x4 _ _ _ hS h (lv_sub hl [1, 2, 3, 4, 5] rfl)
        · replace h := ez_ifp h c_74
          refine lv_iload_n hx hb dX10_knownAt_77 rfl (lv_at hl 4 rfl) ?_
          refine lv_iconst (v := 1) hx hb dX10_knownAt_78 (by decide) ?_
          refine lv_aload_n hx hb dX10_knownAt_79 rfl (lv_at hl 1 rfl) ?_
          refine eg_RX10_11 hC hS h dX10_knownAt_80 (fun t_80 h => ?_)
          refine lv_iload hx hb dX10_knownAt_83 (lv_at hl 5 rfl) ?_
          refine ez_ial hC hS h dX10_knownAt_85 (fun t_85 h => ?_)
          refine lv_ishl hx hb dX10_knownAt_86 ?_
          refine ez_top h (fun t_86 h => ?_)
          refine lv_ior hx hb dX10_knownAt_87 ?_
          refine ez_top h (fun t_87 h => ?_)
          refine lv_istore_n (lv' := [(3, .int t_87), (5, .int y0), (0, .ref (B + h0)), (1, .int x1), (2, .int x2), (4, .int x4)]) hx hb dX10_knownAt_88 rfl hl (by decide) rfl (fun ls hl => ?_)
          exact K_89 k_5 hk_5 h0 x1 x2 t_87 x4 _ _ _ hS h (lv_sub hl [2, 3, 4, 0, 5] rfl)
  have K_47 : ∀ (k_5 : Nat → Int32 → Int32 → Int32 → Int32 → Option (Int32)) (hk_5 : ∀ (h0 : Nat) (x1 : Int32) (x2 : Int32) (x3 : Int32) (x4 : Int32) (H : Heap) (locs : List Loc) (ls : Array Slot), ez_S X B s.heap (n0) σ H locs → k_5 h0 x1 x2 x3 x4 = some z → lv_has ls 6 [(0, .ref (B + h0)), (1, .int x1), (2, .int x2), (3, .int x3), (4, .int x4)] → W p l e R s m args below meth c H locs 0 0 Q (F0 m 5 ls [])), ∀ (h0 : Nat) (x1 : Int32) (x2 : Int32) (x3 : Int32) (x4 : Int32) (H : Heap) (locs : List Loc) (ls : Array Slot), ez_S X B s.heap (n0) σ H locs → z_X10_knownAt_47 σ k_5 h0 x1 x2 x3 x4 = some z → lv_has ls 6 [(0, .ref (B + h0)), (1, .int x1), (2, .int x2), (3, .int x3), (4, .int x4)] → W p l e R s m args below meth c H locs 0 0 Q (F0 m 47 ls []) := by
    intro k_5 hk_5 h0 x1 x2 x3 x4 H locs ls hS h hl
    refine lv_iconst (v := 0) hx hb dX10_knownAt_47 (by decide) ?_
    exact K_48 k_5 hk_5 h0 x1 x2 x3 x4 (0 : Int32) _ _ _ hS h (lv_sub hl [0, 1, 2, 3, 4] rfl)
  have K_5 : ∀ (k_5 : Nat → Int32 → Int32 → Int32 → Int32 → Option (Int32)) (hk_5 : ∀ (h0 : Nat) (x1 : Int32) (x2 : Int32) (x3 : Int32) (x4 : Int32) (H : Heap) (locs : List Loc) (ls : Array Slot), ez_S X B s.heap (n0) σ H locs → k_5 h0 x1 x2 x3 x4 = some z → lv_has ls 6 [(0, .ref (B + h0)), (1, .int x1), (2, .int x2), (3, .int x3), (4, .int x4)] → W p l e R s m args below meth c H locs 0 0 Q (F0 m 5 ls [])), ∀ (h0 : Nat) (x1 : Int32) (x2 : Int32) (x3 : Int32) (x4 : Int32) (H : Heap) (locs : List Loc) (ls : Array Slot), ez_S X B s.heap (n0) σ H locs → z_X10_knownAt_5 σ k_5 h0 x1 x2 x3 x4 = some z → lv_has ls 6 [(0, .ref (B + h0)), (1, .int x1), (2, .int x2), (3, .int x3), (4, .int x4)] → W p l e R s m args below meth c H locs 0 0 Q (F0 m 5 ls []) := by
    intro k_5 hk_5 h0 x1 x2 x3 x4 H locs ls hS h hl
    refine lv_iload hx hb dX10_knownAt_5 (lv_at hl 4 rfl) ?_
    refine lv_aload_n hx hb dX10_knownAt_7 rfl (lv_at hl 0 rfl) ?_
    refine eg_RX10_25 hC hS h dX10_knownAt_8 (fun t_8 h => ?_)
    refine lv_icmp_ge (tgt := 95) hx hb dX10_knownAt_11 (by decide) (fun c_11 => ?_) (fun c_11 => ?_)
    · replace h := ez_ifp h c_11
      exact K_95  x3 _ _ _ hS h (lv_sub hl [3] rfl)
    · replace h := ez_ifn h c_11
      refine lv_iload hx hb dX10_knownAt_14 (lv_at hl 4 rfl) ?_
      refine lv_bipush (v := 30) hx hb dX10_knownAt_16 (by decide) ?_
      refine lv_icmp_ge (tgt := 95) hx hb dX10_knownAt_18 (by decide) (fun c_18 => ?_) (fun c_18 => ?_)
      · replace h := ez_ifp h c_18
        exact K_95  x3 _ _ _ hS h (lv_sub hl [3] rfl)
      · replace h := ez_ifn h c_18
        refine lv_aload_n hx hb dX10_knownAt_21 rfl (lv_at hl 0 rfl) ?_
        refine eg_RX10_22 hC hS h dX10_knownAt_22 (fun t_22 h => ?_)
        refine lv_iload hx hb dX10_knownAt_25 (lv_at hl 4 rfl) ?_
        refine ez_ial hC hS h dX10_knownAt_27 (fun t_27 h => ?_)
        refine lv_iconst (v := -1) hx hb dX10_knownAt_28 (by decide) ?_
        refine lv_icmp_eq (tgt := 47) hx hb dX10_knownAt_29 (by decide) (fun c_29 => ?_) (fun c_29 => ?_)
        · replace h := ez_ifp h c_29
          exact K_47 k_5 hk_5 h0 x1 x2 x3 x4 _ _ _ hS h (lv_sub hl [0, 1, 2, 3, 4] rfl)
        · replace h := ez_ifn h c_29
          refine lv_aload_n hx hb dX10_knownAt_32 rfl (lv_at hl 0 rfl) ?_
          refine eg_RX10_22 hC hS h dX10_knownAt_33 (fun t_33 h => ?_)
          refine lv_iload hx hb dX10_knownAt_36 (lv_at hl 4 rfl) ?_
          refine ez_ial hC hS h dX10_knownAt_38 (fun t_38 h => ?_)
          refine lv_iload_n hx hb dX10_knownAt_39 rfl (lv_at hl 1 rfl) ?_
          refine lv_icmp_gt (tgt := 47) hx hb dX10_knownAt_40 (by decide) (fun c_40 => ?_) (fun c_40 => ?_)
          · replace h := ez_ifp h c_40
            exact K_47 k_5 hk_5 h0 x1 x2 x3 x4 _ _ _ hS h (lv_sub hl [0, 1, 2, 3, 4] rfl)
          · replace h := ez_ifn h c_40
            refine lv_iconst (v := 1) hx hb dX10_knownAt_43 (by decide) ?_
            refine lv_goto (tgt := 48) hx hb dX10_knownAt_44 (by decide) ?_
            exact K_48 k_5 hk_5 h0 x1 x2 x3 x4 (1 : Int32) _ _ _ hS h (lv_sub hl [0, 1, 2, 3, 4] rfl)
  have E_5 : ∀ (h0 : Nat) (x1 : Int32) (x2 : Int32) (x3 : Int32) (x4 : Int32) (H : Heap) (locs : List Loc) (ls : Array Slot), ez_S X B s.heap (n0) σ H locs → (ez_fix (fun _ _ _ _ _ => none) (z_X10_knownAt_5 σ) ez_N) h0 x1 x2 x3 x4 = some z → lv_has ls 6 [(0, .ref (B + h0)), (1, .int x1), (2, .int x2), (3, .int x3), (4, .int x4)] → W p l e R s m args below meth c H locs 0 0 Q (F0 m 5 ls []) := ez_fix_ind (fun k_5 : Nat → Int32 → Int32 → Int32 → Int32 → Option (Int32) => ∀ (h0 : Nat) (x1 : Int32) (x2 : Int32) (x3 : Int32) (x4 : Int32) (H : Heap) (locs : List Loc) (ls : Array Slot), ez_S X B s.heap (n0) σ H locs → k_5 h0 x1 x2 x3 x4 = some z → lv_has ls 6 [(0, .ref (B + h0)), (1, .int x1), (2, .int x2), (3, .int x3), (4, .int x4)] → W p l e R s m args below meth c H locs 0 0 Q (F0 m 5 ls [])) (fun _ _ _ _ _ _ _ _ _ h _ => by cases h) (fun k_5 hk_5 => K_5 k_5 hk_5) ez_N
  refine lv_iconst (v := 0) hx hb dX10_knownAt_0 (by decide) ?_
  refine lv_istore_n (lv' := [(3, .int 0), (0, .ref (B + h0)), (1, .int x1), (2, .int x2)]) hx hb dX10_knownAt_1 rfl hl (by decide) rfl (fun ls hl => ?_)
  refine lv_iconst (v := 0) hx hb dX10_knownAt_2 (by decide) ?_
  refine lv_istore (lv' := [(4, .int 0), (3, .int 0), (0, .ref (B + h0)), (1, .int x1), (2, .int x2)]) hx hb dX10_knownAt_3 hl (by decide) rfl (fun ls hl => ?_)
  exact E_5  h0 x1 x2 (0 : Int32) (0 : Int32) _ _ _ hS h (lv_sub hl [2, 3, 4, 1, 0] rfl)
