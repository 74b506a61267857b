set_option maxHeartbeats 4000000 in
set_option maxRecDepth 100000 in
theorem c_X8_init {l : Launch} {X : ez_X} {B : Nat} {σ : ez_H} {h0 : Nat} {h1 : Nat} {z : Unit × ez_H} (h : z_X8_init σ h0 h1 = some z) : ez_Mn l X B σ yX8_init cX8_init 2 1 11 2512 [.ref (B + h0), .ref (B + h1)] z.2 := by
  refine ez_startn (z := z) (by decide) rfl (Nat.le_of_ble_eq_true rfl) (fun p e R s m args below meth c Q hC hin hR hsz hret hS ls hl => ?_)
  have hC : ez_C p R s m args c X B RX8 cX8_init 2 1 := hC
  have hx := hC.1.1
  have hb := hC.1.2.1
  have hown := hC.1.2.2.2.1
  have hts := hC.1.2.2.2.2
  have hl : lv_has ls 2 [(0, .ref (B + h0)), (1, .ref (B + h1))] := hl
  have hB : B ≤ s.heap.size := by omega
  obtain ⟨σ0, eσ⟩ : ∃ σ0 : ez_H, σ0 = σ := ⟨_, rfl⟩
  rw [← eσ] at hret
  have hS : ez_S X B s.heap σ0.length σ s.heap [] := eσ ▸ hS
  have hsz : s.heap.size + 0 = B + σ0.length := eσ ▸ hsz
  obtain ⟨-, h⟩ := ez_in h
  refine lv_aload_n hx hb dX8_init_0 rfl (lv_at hl 0 rfl) ?_
  refine ez_obj hC ql_RX8_3 hl.1 rfl (by decide) dX8_init_1 ?_
  refine lv_aload_n hx hb dX8_init_4 rfl (lv_at hl 0 rfl) ?_
  refine lv_aload_n hx hb dX8_init_5 rfl (lv_at hl 1 rfl) ?_
  refine eF_RX8_9 hin hC hS h dX8_init_6 (fun σ H locs hS h => ?_)
  refine lv_aload_n hx hb dX8_init_9 rfl (lv_at hl 0 rfl) ?_
  refine lv_aload_n hx hb dX8_init_10 rfl (lv_at hl 1 rfl) ?_
  refine eg_RX8_15 hC hS h dX8_init_11 (fun t_11 h => ?_)
  refine eF_RX8_21 hin hC hS h dX8_init_14 (fun σ H locs hS h => ?_)
  refine lv_aload_n hx hb dX8_init_17 rfl (lv_at hl 0 rfl) ?_
  refine lv_bipush (v := 10) hx hb dX8_init_18 (by decide) ?_
  refine ez_newa (k := 1) (N := 10) (ty := .int) (atype := .int) (c1 := 1) (s1 := 10) (n1 := σ0.length + 1) hC hB hS hsz rfl rfl (fun _ _ h9 => h9) rfl qw_int (by decide) (by decide) (by decide) rfl rfl rfl (Nat.le_trans (by decide) hR.1) (Nat.le_trans (by decide) hR.2) h dX8_init_20 (fun t_20 σ H hS hsz h => ?_)
  refine eF_RX8_22 hin hC hS h dX8_init_22 (fun σ H locs hS h => ?_)
  refine lv_aload_n hx hb dX8_init_25 rfl (lv_at hl 0 rfl) ?_
  refine lv_bipush (v := 6) hx hb dX8_init_26 (by decide) ?_
  refine ez_newa (k := 1) (N := 6) (ty := .int) (atype := .int) (c1 := 2) (s1 := 16) (n1 := σ0.length + 2) hC hB hS hsz rfl rfl (fun _ _ h9 => h9) rfl qw_int (by decide) (by decide) (by decide) rfl rfl rfl (Nat.le_trans (by decide) hR.1) (Nat.le_trans (by decide) hR.2) h dX8_init_28 (fun t_28 σ H hS hsz h => ?_)
  refine eF_RX8_26 hin hC hS h dX8_init_30 (fun σ H locs hS h => ?_)
  refine lv_aload_n hx hb dX8_init_33 rfl (lv_at hl 0 rfl) ?_
  refine lv_sipush (v := 384) hx hb dX8_init_34 (by decide) ?_
  refine ez_newa (k := 1) (N := 384) (ty := .int) (atype := .int) (c1 := 3) (s1 := 400) (n1 := σ0.length + 3) hC hB hS hsz rfl rfl (fun _ _ h9 => h9) rfl qw_int (by decide) (by decide) (by decide) rfl rfl rfl (Nat.le_trans (by decide) hR.1) (Nat.le_trans (by decide) hR.2) h dX8_init_37 (fun t_37 σ H hS hsz h => ?_)
  refine ep_RX8_29 hC hS h dX8_init_39 (fun σ H locs hS h => ?_)
  refine lv_aload_n hx hb dX8_init_42 rfl (lv_at hl 0 rfl) ?_
  refine lv_sipush (v := 384) hx hb dX8_init_43 (by decide) ?_
  refine ez_newa (k := 1) (N := 384) (ty := .int) (atype := .int) (c1 := 4) (s1 := 784) (n1 := σ0.length + 4) hC hB hS hsz rfl rfl (fun _ _ h9 => h9) rfl qw_int (by decide) (by decide) (by decide) rfl rfl rfl (Nat.le_trans (by decide) hR.1) (Nat.le_trans (by decide) hR.2) h dX8_init_46 (fun t_46 σ H hS hsz h => ?_)
  refine ep_RX8_32 hC hS h dX8_init_48 (fun σ H locs hS h => ?_)
  refine lv_aload_n hx hb dX8_init_51 rfl (lv_at hl 0 rfl) ?_
  refine lv_sipush (v := 384) hx hb dX8_init_52 (by decide) ?_
  refine ez_newa (k := 1) (N := 384) (ty := .int) (atype := .int) (c1 := 5) (s1 := 1168) (n1 := σ0.length + 5) hC hB hS hsz rfl rfl (fun _ _ h9 => h9) rfl qw_int (by decide) (by decide) (by decide) rfl rfl rfl (Nat.le_trans (by decide) hR.1) (Nat.le_trans (by decide) hR.2) h dX8_init_55 (fun t_55 σ H hS hsz h => ?_)
  refine ep_RX8_35 hC hS h dX8_init_57 (fun σ H locs hS h => ?_)
  refine lv_aload_n hx hb dX8_init_60 rfl (lv_at hl 0 rfl) ?_
  refine lv_sipush (v := 384) hx hb dX8_init_61 (by decide) ?_
  refine ez_newa (k := 1) (N := 384) (ty := .int) (atype := .int) (c1 := 6) (s1 := 1552) (n1 := σ0.length + 6) hC hB hS hsz rfl rfl (fun _ _ h9 => h9) rfl qw_int (by decide) (by decide) (by decide) rfl rfl rfl (Nat.le_trans (by decide) hR.1) (Nat.le_trans (by decide) hR.2) h dX8_init_64 (fun t_64 σ H hS hsz h => ?_)
  refine ep_RX8_38 hC hS h dX8_init_66 (fun σ H locs hS h => ?_)
  refine lv_aload_n hx hb dX8_init_69 rfl (lv_at hl 0 rfl) ?_
  refine lv_sipush (v := 384) hx hb dX8_init_70 (by decide) ?_
  refine ez_newa (k := 1) (N := 384) (ty := .int) (atype := .int) (c1 := 7) (s1 := 1936) (n1 := σ0.length + 7) hC hB hS hsz rfl rfl (fun _ _ h9 => h9) rfl qw_int (by decide) (by decide) (by decide) rfl rfl rfl (Nat.le_trans (by decide) hR.1) (Nat.le_trans (by decide) hR.2) h dX8_init_73 (fun t_73 σ H hS hsz h => ?_)
  refine ep_RX8_41 hC hS h dX8_init_75 (fun σ H locs hS h => ?_)
  refine lv_aload_n hx hb dX8_init_78 rfl (lv_at hl 0 rfl) ?_
  refine lv_sipush (v := 384) hx hb dX8_init_79 (by decide) ?_
  refine ez_newa (k := 1) (N := 384) (ty := .int) (atype := .int) (c1 := 8) (s1 := 2320) (n1 := σ0.length + 8) hC hB hS hsz rfl rfl (fun _ _ h9 => h9) rfl qw_int (by decide) (by decide) (by decide) rfl rfl rfl (Nat.le_trans (by decide) hR.1) (Nat.le_trans (by decide) hR.2) h dX8_init_82 (fun t_82 σ H hS hsz h => ?_)
  refine ep_RX8_44 hC hS h dX8_init_84 (fun σ H locs hS h => ?_)
  refine lv_aload_n hx hb dX8_init_87 rfl (lv_at hl 0 rfl) ?_
  refine lv_bipush (v := 64) hx hb dX8_init_88 (by decide) ?_
  refine ez_newa (k := 1) (N := 64) (ty := .int) (atype := .int) (c1 := 9) (s1 := 2384) (n1 := σ0.length + 9) hC hB hS hsz rfl rfl (fun _ _ h9 => h9) rfl qw_int (by decide) (by decide) (by decide) rfl rfl rfl (Nat.le_trans (by decide) hR.1) (Nat.le_trans (by decide) hR.2) h dX8_init_90 (fun t_90 σ H hS hsz h => ?_)
  refine eF_RX8_47 hin hC hS h dX8_init_92 (fun σ H locs hS h => ?_)
  refine lv_aload_n hx hb dX8_init_95 rfl (lv_at hl 0 rfl) ?_
  refine lv_bipush (v := 64) hx hb dX8_init_96 (by decide) ?_
  refine ez_newa (k := 1) (N := 64) (ty := .int) (atype := .int) (c1 := 10) (s1 := 2448) (n1 := σ0.length + 10) hC hB hS hsz rfl rfl (fun _ _ h9 => h9) rfl qw_int (by decide) (by decide) (by decide) rfl rfl rfl (Nat.le_trans (by decide) hR.1) (Nat.le_trans (by decide) hR.2) h dX8_init_98 (fun t_98 σ H hS hsz h => ?_)
  refine eF_RX8_50 hin hC hS h dX8_init_100 (fun σ H locs hS h => ?_)
  refine lv_aload_n hx hb dX8_init_103 rfl (lv_at hl 0 rfl) ?_
  refine lv_bipush (v := 64) hx hb dX8_init_104 (by decide) ?_
  refine ez_newa (k := 1) (N := 64) (ty := .int) (atype := .int) (c1 := 11) (s1 := 2512) (n1 := σ0.length + 11) hC hB hS hsz rfl rfl (fun _ _ h9 => h9) rfl qw_int (by decide) (by decide) (by decide) rfl rfl rfl (Nat.le_trans (by decide) hR.1) (Nat.le_trans (by decide) hR.2) h dX8_init_106 (fun t_106 σ H hS hsz h => ?_)
  refine eF_RX8_53 hin hC hS h dX8_init_108 (fun σ H locs hS h => ?_)
  exact hret _ _ _ _ _ _ (Option.some.inj h) hS dX8_init_111
set_option maxHeartbeats 4000000 in
set_option maxRecDepth 100000 in
theorem c_X2_init {l : Launch} {X : ez_X} {B : Nat} {σ : ez_H} {h0 : Nat} {h1 : Nat} {h2 : Nat} {z : Unit × ez_H} (h : z_X2_init σ h0 h1 h2 = some z) : ez_Mn l X B σ yX2_init cX2_init 3 1 3 16 [.ref (B + h0), .ref (B + h1), .ref (B + h2)] z.2 := by
  refine ez_startn (z := z) (by decide) rfl (Nat.le_of_ble_eq_true rfl) (fun p e R s m args below meth c Q hC hin hR hsz hret hS ls hl => ?_)
  have hC : ez_C p R s m args c X B RX2 cX2_init 3 1 := hC
  have hx := hC.1.1
  have hb := hC.1.2.1
  have hown := hC.1.2.2.2.1
  have hts := hC.1.2.2.2.2
  have hl : lv_has ls 3 [(0, .ref (B + h0)), (1, .ref (B + h1)), (2, .ref (B + h2))] := hl
  have hB : B ≤ s.heap.size := by omega
  obtain ⟨σ0, eσ⟩ : ∃ σ0 : ez_H, σ0 = σ := ⟨_, rfl⟩
  rw [← eσ] at hret
  have hS : ez_S X B s.heap σ0.length σ s.heap [] := eσ ▸ hS
  have hsz : s.heap.size + 0 = B + σ0.length := eσ ▸ hsz
  obtain ⟨-, h⟩ := ez_in h
  refine lv_aload_n hx hb dX2_init_0 rfl (lv_at hl 0 rfl) ?_
  refine ez_obj hC ql_RX2_3 hl.1 rfl (by decide) dX2_init_1 ?_
  refine lv_aload_n hx hb dX2_init_4 rfl (lv_at hl 0 rfl) ?_
  refine lv_aload_n hx hb dX2_init_5 rfl (lv_at hl 1 rfl) ?_
  refine eF_RX2_9 hin hC hS h dX2_init_6 (fun σ H locs hS h => ?_)
  refine lv_aload_n hx hb dX2_init_9 rfl (lv_at hl 0 rfl) ?_
  refine lv_aload_n hx hb dX2_init_10 rfl (lv_at hl 2 rfl) ?_
  refine eF_RX2_15 hin hC hS h dX2_init_11 (fun σ H locs hS h => ?_)
  refine lv_aload_n hx hb dX2_init_14 rfl (lv_at hl 0 rfl) ?_
  refine lv_bipush (v := 6) hx hb dX2_init_15 (by decide) ?_
  refine ez_newa (k := 1) (N := 6) (ty := .int) (atype := .int) (c1 := 1) (s1 := 6) (n1 := σ0.length + 1) hC hB hS hsz rfl rfl (fun _ _ h9 => h9) rfl qw_int (by decide) (by decide) (by decide) rfl rfl rfl (Nat.le_trans (by decide) hR.1) (Nat.le_trans (by decide) hR.2) h dX2_init_17 (fun t_17 σ H hS hsz h => ?_)
  refine eF_RX2_19 hin hC hS h dX2_init_19 (fun σ H locs hS h => ?_)
  refine lv_aload_n hx hb dX2_init_22 rfl (lv_at hl 0 rfl) ?_
  refine lv_iconst (v := 4) hx hb dX2_init_23 (by decide) ?_
  refine ez_newa (k := 1) (N := 4) (ty := .int) (atype := .int) (c1 := 2) (s1 := 10) (n1 := σ0.length + 2) hC hB hS hsz rfl rfl (fun _ _ h9 => h9) rfl qw_int (by decide) (by decide) (by decide) rfl rfl rfl (Nat.le_trans (by decide) hR.1) (Nat.le_trans (by decide) hR.2) h dX2_init_24 (fun t_24 σ H hS hsz h => ?_)
  refine eF_RX2_23 hin hC hS h dX2_init_26 (fun σ H locs hS h => ?_)
  refine lv_aload_n hx hb dX2_init_29 rfl (lv_at hl 0 rfl) ?_
  refine lv_bipush (v := 6) hx hb dX2_init_30 (by decide) ?_
  refine ez_newa (k := 1) (N := 6) (ty := .int) (atype := .int) (c1 := 3) (s1 := 16) (n1 := σ0.length + 3) hC hB hS hsz rfl rfl (fun _ _ h9 => h9) rfl qw_int (by decide) (by decide) (by decide) rfl rfl rfl (Nat.le_trans (by decide) hR.1) (Nat.le_trans (by decide) hR.2) h dX2_init_32 (fun t_32 σ H hS hsz h => ?_)
  refine eF_RX2_26 hin hC hS h dX2_init_34 (fun σ H locs hS h => ?_)
  refine lv_aload_n hx hb dX2_init_37 rfl (lv_at hl 0 rfl) ?_
  refine lv_iconst (v := 0) hx hb dX2_init_38 (by decide) ?_
  refine ep_RX2_29 hC hS h dX2_init_39 (fun σ H locs hS h => ?_)
  exact hret _ _ _ _ _ _ (Option.some.inj h) hS dX2_init_42
set_option maxHeartbeats 4000000 in
set_option maxRecDepth 100000 in
theorem c_X5_init {l : Launch} {X : ez_X} {B : Nat} {σ : ez_H} {h0 : Nat} {h1 : Nat} {h2 : Nat} {z : Unit × ez_H} (h : z_X5_init σ h0 h1 h2 = some z) : ez_Mn l X B σ yX5_init cX5_init 3 1 1 48 [.ref (B + h0), .ref (B + h1), .ref (B + h2)] z.2 := by
  refine ez_startn (z := z) (by decide) rfl (Nat.le_of_ble_eq_true rfl) (fun p e R s m args below meth c Q hC hin hR hsz hret hS ls hl => ?_)
  have hC : ez_C p R s m args c X B RX5 cX5_init 3 1 := hC
  have hx := hC.1.1
  have hb := hC.1.2.1
  have hown := hC.1.2.2.2.1
  have hts := hC.1.2.2.2.2
  have hl : lv_has ls 3 [(0, .ref (B + h0)), (1, .ref (B + h1)), (2, .ref (B + h2))] := hl
  have hB : B ≤ s.heap.size := by omega
  obtain ⟨σ0, eσ⟩ : ∃ σ0 : ez_H, σ0 = σ := ⟨_, rfl⟩
  rw [← eσ] at hret
  have hS : ez_S X B s.heap σ0.length σ s.heap [] := eσ ▸ hS
  have hsz : s.heap.size + 0 = B + σ0.length := eσ ▸ hsz
  obtain ⟨-, h⟩ := ez_in h
  refine lv_aload_n hx hb dX5_init_0 rfl (lv_at hl 0 rfl) ?_
  refine ez_obj hC ql_RX5_3 hl.1 rfl (by decide) dX5_init_1 ?_
  refine lv_aload_n hx hb dX5_init_4 rfl (lv_at hl 0 rfl) ?_
  refine lv_aload_n hx hb dX5_init_5 rfl (lv_at hl 1 rfl) ?_
  refine eF_RX5_9 hin hC hS h dX5_init_6 (fun σ H locs hS h => ?_)
  refine lv_aload_n hx hb dX5_init_9 rfl (lv_at hl 0 rfl) ?_
  refine lv_aload_n hx hb dX5_init_10 rfl (lv_at hl 2 rfl) ?_
  refine eF_RX5_15 hin hC hS h dX5_init_11 (fun σ H locs hS h => ?_)
  refine lv_aload_n hx hb dX5_init_14 rfl (lv_at hl 0 rfl) ?_
  refine lv_aload_n hx hb dX5_init_15 rfl (lv_at hl 1 rfl) ?_
  refine eg_RX5_19 hC hS h dX5_init_16 (fun t_16 h => ?_)
  refine eF_RX5_25 hin hC hS h dX5_init_19 (fun σ H locs hS h => ?_)
  refine lv_aload_n hx hb dX5_init_22 rfl (lv_at hl 0 rfl) ?_
  refine lv_bipush (v := 48) hx hb dX5_init_23 (by decide) ?_
  refine ez_newa (k := 1) (N := 48) (ty := .int) (atype := .int) (c1 := 1) (s1 := 48) (n1 := σ0.length + 1) hC hB hS hsz rfl rfl (fun _ _ h9 => h9) rfl qw_int (by decide) (by decide) (by decide) rfl rfl rfl (Nat.le_trans (by decide) hR.1) (Nat.le_trans (by decide) hR.2) h dX5_init_25 (fun t_25 σ H hS hsz h => ?_)
  refine eF_RX5_26 hin hC hS h dX5_init_27 (fun σ H locs hS h => ?_)
  refine lv_aload_n hx hb dX5_init_30 rfl (lv_at hl 0 rfl) ?_
  refine lv_iconst (v := 0) hx hb dX5_init_31 (by decide) ?_
  refine ep_RX5_30 hC hS h dX5_init_32 (fun σ H locs hS h => ?_)
  exact hret _ _ _ _ _ _ (Option.some.inj h) hS dX5_init_35
set_option maxHeartbeats 4000000 in
set_option maxRecDepth 100000 in
theorem c_X10_init {l : Launch} {X : ez_X} {B : Nat} {σ : ez_H} {h0 : Nat} {z : Unit × ez_H} (h : z_X10_init σ h0 = some z) : ez_Mn l X B σ yX10_init cX10_init 1 1 4 120 [.ref (B + h0)] z.2 := by
  refine ez_startn (z := z) (by decide) rfl (Nat.le_of_ble_eq_true rfl) (fun p e R s m args below meth c Q hC hin hR hsz hret hS ls hl => ?_)
  have hC : ez_C p R s m args c X B RX10 cX10_init 1 1 := hC
  have hx := hC.1.1
  have hb := hC.1.2.1
  have hown := hC.1.2.2.2.1
  have hts := hC.1.2.2.2.2
  have hl : lv_has ls 1 [(0, .ref (B + h0))] := hl
  have hB : B ≤ s.heap.size := by omega
  obtain ⟨σ0, eσ⟩ : ∃ σ0 : ez_H, σ0 = σ := ⟨_, rfl⟩
  rw [← eσ] at hret
  have hS : ez_S X B s.heap σ0.length σ s.heap [] := eσ ▸ hS
  have hsz : s.heap.size + 0 = B + σ0.length := eσ ▸ hsz
  obtain ⟨-, h⟩ := ez_in h
  refine lv_aload_n hx hb dX10_init_0 rfl (lv_at hl 0 rfl) ?_
  refine ez_obj hC ql_RX10_3 hl.1 rfl (by decide) dX10_init_1 ?_
  refine lv_aload_n hx hb dX10_init_4 rfl (lv_at hl 0 rfl) ?_
  refine lv_bipush (v := 30) hx hb dX10_init_5 (by decide) ?_
  refine ez_newa (k := 1) (N := 30) (ty := .int) (atype := .int) (c1 := 1) (s1 := 30) (n1 := σ0.length + 1) hC hB hS hsz rfl rfl (fun _ _ h9 => h9) rfl qw_int (by decide) (by decide) (by decide) rfl rfl rfl (Nat.le_trans (by decide) hR.1) (Nat.le_trans (by decide) hR.2) h dX10_init_7 (fun t_7 σ H hS hsz h => ?_)
  refine eF_RX10_11 hin hC hS h dX10_init_9 (fun σ H locs hS h => ?_)
  refine lv_aload_n hx hb dX10_init_12 rfl (lv_at hl 0 rfl) ?_
  refine lv_bipush (v := 30) hx hb dX10_init_13 (by decide) ?_
  refine ez_newa (k := 3) (N := 30) (ty := .boolean) (atype := .boolean) (c1 := 2) (s1 := 60) (n1 := σ0.length + 2) hC hB hS hsz rfl rfl (fun _ _ h9 => h9) rfl qw_boolean (by decide) (by decide) (by decide) rfl rfl rfl (Nat.le_trans (by decide) hR.1) (Nat.le_trans (by decide) hR.2) h dX10_init_15 (fun t_15 σ H hS hsz h => ?_)
  refine eF_RX10_15 hin hC hS h dX10_init_17 (fun σ H locs hS h => ?_)
  refine lv_aload_n hx hb dX10_init_20 rfl (lv_at hl 0 rfl) ?_
  refine lv_bipush (v := 30) hx hb dX10_init_21 (by decide) ?_
  refine ez_newa (k := 1) (N := 30) (ty := .int) (atype := .int) (c1 := 3) (s1 := 90) (n1 := σ0.length + 3) hC hB hS hsz rfl rfl (fun _ _ h9 => h9) rfl qw_int (by decide) (by decide) (by decide) rfl rfl rfl (Nat.le_trans (by decide) hR.1) (Nat.le_trans (by decide) hR.2) h dX10_init_23 (fun t_23 σ H hS hsz h => ?_)
  refine eF_RX10_19 hin hC hS h dX10_init_25 (fun σ H locs hS h => ?_)
  refine lv_aload_n hx hb dX10_init_28 rfl (lv_at hl 0 rfl) ?_
  refine lv_bipush (v := 30) hx hb dX10_init_29 (by decide) ?_
  refine ez_newa (k := 1) (N := 30) (ty := .int) (atype := .int) (c1 := 4) (s1 := 120) (n1 := σ0.length + 4) hC hB hS hsz rfl rfl (fun _ _ h9 => h9) rfl qw_int (by decide) (by decide) (by decide) rfl rfl rfl (Nat.le_trans (by decide) hR.1) (Nat.le_trans (by decide) hR.2) h dX10_init_31 (fun t_31 σ H hS hsz h => ?_)
  refine eF_RX10_22 hin hC hS h dX10_init_33 (fun σ H locs hS h => ?_)
  refine lv_aload_n hx hb dX10_init_36 rfl (lv_at hl 0 rfl) ?_
  refine lv_iconst (v := 0) hx hb dX10_init_37 (by decide) ?_
  refine ep_RX10_25 hC hS h dX10_init_38 (fun σ H locs hS h => ?_)
  refine lv_aload_n hx hb dX10_init_41 rfl (lv_at hl 0 rfl) ?_
  refine lv_iconst (v := 0) hx hb dX10_init_42 (by decide) ?_
  refine ep_RX10_29 hC hS h dX10_init_43 (fun σ H locs hS h => ?_)
  exact hret _ _ _ _ _ _ (Option.some.inj h) hS dX10_init_46
set_option maxHeartbeats 4000000 in
set_option maxRecDepth 100000 in
theorem c_X11_init {l : Launch} {X : ez_X} {B : Nat} {σ : ez_H} {h0 : Nat} {z : Unit × ez_H} (h : z_X11_init σ h0 = some z) : ez_Mn l X B σ yX11_init cX11_init 2 6 169 10087 [.ref (B + h0)] z.2 := by
  refine ez_startn (z := z) (by decide) rfl (Nat.le_of_ble_eq_true rfl) (fun p e R s m args below meth c Q hC hin hR hsz hret hS ls hl => ?_)
  have hC : ez_C p R s m args c X B RX11 cX11_init 2 6 := hC
  have hx := hC.1.1
  have hb := hC.1.2.1
  have hown := hC.1.2.2.2.1
  have hts := hC.1.2.2.2.2
  have hl : lv_has ls 2 [(0, .ref (B + h0))] := hl
  have hB : B ≤ s.heap.size := by omega
  obtain ⟨σ0, eσ⟩ : ∃ σ0 : ez_H, σ0 = σ := ⟨_, rfl⟩
  rw [← eσ] at hret
  have hS : ez_S X B s.heap σ0.length σ s.heap [] := eσ ▸ hS
  have hsz : s.heap.size + 0 = B + σ0.length := eσ ▸ hsz
  obtain ⟨-, h⟩ := ez_in h
  refine lv_aload_n hx hb dX11_init_0 rfl (lv_at hl 0 rfl) ?_
  refine ez_obj hC ql_RX11_1 hl.1 rfl (by decide) dX11_init_1 ?_
  refine lv_aload_n hx hb dX11_init_4 rfl (lv_at hl 0 rfl) ?_
  refine lv_sipush (v := 1600) hx hb dX11_init_5 (by decide) ?_
  refine ez_newa (k := 0) (N := 1600) (ty := .byte) (atype := .byte) (c1 := 1) (s1 := 1600) (n1 := σ0.length + 1) hC hB hS hsz rfl rfl (fun _ _ h9 => h9) rfl qw_byte (by decide) (by decide) (by decide) rfl rfl rfl (Nat.le_trans (by decide) hR.1) (Nat.le_trans (by decide) hR.2) h dX11_init_8 (fun t_8_128 σ H hS hsz h => ?_)
  refine eF_RX11_9 hin hC hS h dX11_init_10 (fun σ H locs hS h => ?_)
  refine lv_aload_n hx hb dX11_init_13 rfl (lv_at hl 0 rfl) ?_
  refine lv_iconst (v := 0) hx hb dX11_init_14 (by decide) ?_
  refine ep_RX11_13 hC hS h dX11_init_15 (fun σ H locs hS h => ?_)
  refine lv_aload_n hx hb dX11_init_18 rfl (lv_at hl 0 rfl) ?_
  refine ez_new (ci := 4) (fs := [.inr (.inr none), .inl 0, .inl 0, .inr (.inr none), .inr (.inr none), .inl 0]) (c1 := 2) (s1 := 1606) (n1 := σ0.length + 2) tyX4 hC hB hS hsz rfl inq_4 tyX4_ok qk_RX11_17 qn_4 qi_4 (fun j hj => by rcases (show j = 0 ∨ j = 1 ∨ j = 2 ∨ j = 3 ∨ j = 4 ∨ j = 5 by omega) with rfl | rfl | rfl | rfl | rfl | rfl <;> rfl) rfl rfl rfl (Nat.le_trans (by decide) hR.1) (Nat.le_trans (by decide) hR.2) h dX11_init_19 (fun t_19_134 σ H hS hsz h => ?_)
  refine lv_dup hx hb dX11_init_22 rfl ?_
  refine lv_aload_n hx hb dX11_init_23 rfl (lv_at hl 0 rfl) ?_
  refine eg_RX11_9 hC hS h dX11_init_24 (fun t_24_137 h => ?_)
  refine ez_cI (As := [.ref (B + t_24_137)]) (rest := [.ref (B + t_19_134), .ref (B + h0)]) (n' := 1) (c1 := 24) (s1 := 2377) (n1 := σ0.length + 24) h (fun _ q => c_X4_init q) hC ki_X4_init rfl (by decide +kernel) ql_RX11_19 rfl (by decide) hS (Nat.succ_pos _) hsz hl.1 rfl (Nat.le_of_ble_eq_true rfl) rfl rfl rfl ⟨Nat.le_trans (by decide) hR.1, Nat.le_trans (by decide) hR.2⟩ dX11_init_27 (fun σ H locs hS hsz h => ?_)
  refine eF_RX11_22 hin hC hS h dX11_init_30 (fun σ H locs hS h => ?_)
  refine lv_aload_n hx hb dX11_init_33 rfl (lv_at hl 0 rfl) ?_
  refine ez_new (ci := 3) (fs := [.inr (.inr none), .inr (.inr none), .inr (.inr none), .inl 0, .inl 0, .inl 0, .inl 0, .inl 0, .inr (.inr none), .inr (.inr none), .inr (.inr none), .inr (.inr none), .inr (.inr none)]) (c1 := 25) (s1 := 2390) (n1 := σ0.length + 25) tyX3 hC hB hS hsz rfl inq_3 tyX3_ok qk_RX11_26 qn_3 qi_3 (fun j hj => by rcases (show j = 0 ∨ j = 1 ∨ j = 2 ∨ j = 3 ∨ j = 4 ∨ j = 5 ∨ j = 6 ∨ j = 7 ∨ j = 8 ∨ j = 9 ∨ j = 10 ∨ j = 11 ∨ j = 12 by omega) with rfl | rfl | rfl | rfl | rfl | rfl | rfl | rfl | rfl | rfl | rfl | rfl | rfl <;> rfl) rfl rfl rfl (Nat.le_trans (by decide) hR.1) (Nat.le_trans (by decide) hR.2) h dX11_init_34 (fun t_34_141 σ H hS hsz h => ?_)
  refine lv_dup hx hb dX11_init_37 rfl ?_
  refine ez_cI (As := []) (rest := [.ref (B + t_34_141), .ref (B + h0)]) (n' := 0) (c1 := 38) (s1 := 3072) (n1 := σ0.length + 38) h (fun _ q => c_X3_init q) hC ki_X3_init rfl (by decide +kernel) ql_RX11_28 rfl (by decide) hS (Nat.succ_pos _) hsz hl.1 rfl (Nat.le_of_ble_eq_true rfl) rfl rfl rfl ⟨Nat.le_trans (by decide) hR.1, Nat.le_trans (by decide) hR.2⟩ dX11_init_38 (fun σ H locs hS hsz h => ?_)
  refine eF_RX11_29 hin hC hS h dX11_init_41 (fun σ H locs hS h => ?_)
  refine lv_aload_n hx hb dX11_init_44 rfl (lv_at hl 0 rfl) ?_
  refine lv_aload_n hx hb dX11_init_45 rfl (lv_at hl 0 rfl) ?_
  refine eg_RX11_29 hC hS h dX11_init_46 (fun t_46_147 h => ?_)
  refine eg_RX11_33 hC hS h dX11_init_49 (fun t_49_148 h => ?_)
  refine eF_RX11_37 hin hC hS h dX11_init_52 (fun σ H locs hS h => ?_)
  refine lv_aload_n hx hb dX11_init_55 rfl (lv_at hl 0 rfl) ?_
  refine ez_new (ci := 7) (fs := [.inr (.inr none)]) (c1 := 39) (s1 := 3073) (n1 := σ0.length + 39) tyX7 hC hB hS hsz rfl inq_7 tyX7_ok qk_RX11_38 qn_7 qi_7 (fun j hj => by rcases (show j = 0 by omega) with rfl <;> rfl) rfl rfl rfl (Nat.le_trans (by decide) hR.1) (Nat.le_trans (by decide) hR.2) h dX11_init_56 (fun t_56_151 σ H hS hsz h => ?_)
  refine lv_dup hx hb dX11_init_59 rfl ?_
  refine ez_cI (As := []) (rest := [.ref (B + t_56_151), .ref (B + h0)]) (n' := 0) (c1 := 40) (s1 := 3108) (n1 := σ0.length + 40) h (fun _ q => c_X7_init q) hC ki_X7_init rfl (by decide +kernel) ql_RX11_40 rfl (by decide) hS (Nat.succ_pos _) hsz hl.1 rfl (Nat.le_of_ble_eq_true rfl) rfl rfl rfl ⟨Nat.le_trans (by decide) hR.1, Nat.le_trans (by decide) hR.2⟩ dX11_init_60 (fun σ H locs hS hsz h => ?_)
  refine eF_RX11_41 hin hC hS h dX11_init_63 (fun σ H locs hS h => ?_)
  refine lv_aload_n hx hb dX11_init_66 rfl (lv_at hl 0 rfl) ?_
  refine ez_new (ci := 7) (fs := [.inr (.inr none)]) (c1 := 41) (s1 := 3109) (n1 := σ0.length + 41) tyX7 hC hB hS hsz rfl inq_7 tyX7_ok qk_RX11_38 qn_7 qi_7 (fun j hj => by rcases (show j = 0 by omega) with rfl <;> rfl) rfl rfl rfl (Nat.le_trans (by decide) hR.1) (Nat.le_trans (by decide) hR.2) h dX11_init_67 (fun t_67_156 σ H hS hsz h => ?_)
  refine lv_dup hx hb dX11_init_70 rfl ?_
  refine ez_cI (As := []) (rest := [.ref (B + t_67_156), .ref (B + h0)]) (n' := 0) (c1 := 42) (s1 := 3144) (n1 := σ0.length + 42) h (fun _ q => c_X7_init q) hC ki_X7_init rfl (by decide +kernel) ql_RX11_40 rfl (by decide) hS (Nat.succ_pos _) hsz hl.1 rfl (Nat.le_of_ble_eq_true rfl) rfl rfl rfl ⟨Nat.le_trans (by decide) hR.1, Nat.le_trans (by decide) hR.2⟩ dX11_init_71 (fun σ H locs hS hsz h => ?_)
  refine eF_RX11_45 hin hC hS h dX11_init_74 (fun σ H locs hS h => ?_)
  refine lv_aload_n hx hb dX11_init_77 rfl (lv_at hl 0 rfl) ?_
  refine ez_new (ci := 1) (fs := [.inr (.inr none), .inl 0, .inl 0, .inl 0]) (c1 := 43) (s1 := 3148) (n1 := σ0.length + 43) tyX1 hC hB hS hsz rfl inq_1 tyX1_ok qk_RX11_48 qn_1 qi_1 (fun j hj => by rcases (show j = 0 ∨ j = 1 ∨ j = 2 ∨ j = 3 by omega) with rfl | rfl | rfl | rfl <;> rfl) rfl rfl rfl (Nat.le_trans (by decide) hR.1) (Nat.le_trans (by decide) hR.2) h dX11_init_78 (fun t_78_161 σ H hS hsz h => ?_)
  refine lv_dup hx hb dX11_init_81 rfl ?_
  refine ez_cI (As := []) (rest := [.ref (B + t_78_161), .ref (B + h0)]) (n' := 0) (c1 := 126) (s1 := 4665) (n1 := σ0.length + 126) h (fun _ q => c_X1_init q) hC ki_X1_init rfl (by decide +kernel) ql_RX11_50 rfl (by decide) hS (Nat.succ_pos _) hsz hl.1 rfl (Nat.le_of_ble_eq_true rfl) rfl rfl rfl ⟨Nat.le_trans (by decide) hR.1, Nat.le_trans (by decide) hR.2⟩ dX11_init_82 (fun σ H locs hS hsz h => ?_)
  refine eF_RX11_51 hin hC hS h dX11_init_85 (fun σ H locs hS h => ?_)
  refine lv_aload_n hx hb dX11_init_88 rfl (lv_at hl 0 rfl) ?_
  refine lv_iconst (v := 3) hx hb dX11_init_89 (by decide) ?_
  refine ez_newq (N := 3) (c1 := 127) (s1 := 4668) (n1 := σ0.length + 127) hC hB hS hsz qk_RX11_38 (by decide) (by decide) (by decide) rfl rfl rfl (Nat.le_trans (by decide) hR.1) (Nat.le_trans (by decide) hR.2) h dX11_init_90 (fun t_90_167 σ H hS hsz h => ?_)
  refine eF_RX11_55 hin hC hS h dX11_init_93 (fun σ H locs hS h => ?_)
  refine lv_iconst (v := 0) hx hb dX11_init_96 (by decide) ?_
  refine lv_istore_n (lv' := [(1, .int 0), (0, .ref (B + h0))]) hx hb dX11_init_97 rfl hl (by decide) rfl (fun ls hl => ?_)
  refine lv_iload_n hx hb dX11_init_98 rfl (lv_at hl 0 rfl) ?_
  refine lv_iconst (v := 3) hx hb dX11_init_99 (by decide) ?_
  refine lv_icmp_ge (tgt := 122) hx hb dX11_init_100 (by decide) (fun c_100 => ?_) (fun c_100 => ?_)
  · exact absurd c_100 (by decide)
  · skip
    refine lv_aload_n hx hb dX11_init_103 rfl (lv_at hl 1 rfl) ?_
    refine eg_RX11_55 hC hS h dX11_init_104 (fun t_104_174 h => ?_)
    refine lv_iload_n hx hb dX11_init_107 rfl (lv_at hl 0 rfl) ?_
    refine ez_new (ci := 7) (fs := [.inr (.inr none)]) (c1 := 128) (s1 := 4669) (n1 := σ0.length + 128) tyX7 hC hB hS hsz rfl inq_7 tyX7_ok qk_RX11_38 qn_7 qi_7 (fun j hj => by rcases (show j = 0 by omega) with rfl <;> rfl) rfl rfl rfl (Nat.le_trans (by decide) hR.1) (Nat.le_trans (by decide) hR.2) h dX11_init_108 (fun t_108_176 σ H hS hsz h => ?_)
    refine lv_dup hx hb dX11_init_111 rfl ?_
    refine ez_cI (As := []) (rest := [.ref (B + t_108_176), .int 0, .ref (B + t_104_174)]) (n' := 0) (c1 := 129) (s1 := 4704) (n1 := σ0.length + 129) h (fun _ q => c_X7_init q) hC ki_X7_init rfl (by decide +kernel) ql_RX11_40 rfl (by decide) hS (Nat.succ_pos _) hsz hl.1 rfl (Nat.le_of_ble_eq_true rfl) rfl rfl rfl ⟨Nat.le_trans (by decide) hR.1, Nat.le_trans (by decide) hR.2⟩ dX11_init_112 (fun σ H locs hS hsz h => ?_)
    refine ez_aas hC hS h dX11_init_115 (fun σ H locs hS h => ?_)
    refine lv_iinc (v := 1) (lv' := [(1, .int 1), (0, .ref (B + h0))]) hx hb dX11_init_116 hl (k := 0) rfl (by decide) (by decide) rfl (fun ls hl => ?_)
    refine lv_goto (tgt := 98) hx hb dX11_init_119 (by decide) ?_
    refine lv_iload_n hx hb dX11_init_98 rfl (lv_at hl 0 rfl) ?_
    refine lv_iconst (v := 3) hx hb dX11_init_99 (by decide) ?_
    refine lv_icmp_ge (tgt := 122) hx hb dX11_init_100 (by decide) (fun c_100 => ?_) (fun c_100 => ?_)
    · exact absurd c_100 (by decide)
    · skip
      refine lv_aload_n hx hb dX11_init_103 rfl (lv_at hl 1 rfl) ?_
      refine eg_RX11_55 hC hS h dX11_init_104 (fun t_104_184 h => ?_)
      refine lv_iload_n hx hb dX11_init_107 rfl (lv_at hl 0 rfl) ?_
      refine ez_new (ci := 7) (fs := [.inr (.inr none)]) (c1 := 130) (s1 := 4705) (n1 := σ0.length + 130) tyX7 hC hB hS hsz rfl inq_7 tyX7_ok qk_RX11_38 qn_7 qi_7 (fun j hj => by rcases (show j = 0 by omega) with rfl <;> rfl) rfl rfl rfl (Nat.le_trans (by decide) hR.1) (Nat.le_trans (by decide) hR.2) h dX11_init_108 (fun t_108_186 σ H hS hsz h => ?_)
      refine lv_dup hx hb dX11_init_111 rfl ?_
      refine ez_cI (As := []) (rest := [.ref (B + t_108_186), .int 1, .ref (B + t_104_184)]) (n' := 0) (c1 := 131) (s1 := 4740) (n1 := σ0.length + 131) h (fun _ q => c_X7_init q) hC ki_X7_init rfl (by decide +kernel) ql_RX11_40 rfl (by decide) hS (Nat.succ_pos _) hsz hl.1 rfl (Nat.le_of_ble_eq_true rfl) rfl rfl rfl ⟨Nat.le_trans (by decide) hR.1, Nat.le_trans (by decide) hR.2⟩ dX11_init_112 (fun σ H locs hS hsz h => ?_)
      refine ez_aas hC hS h dX11_init_115 (fun σ H locs hS h => ?_)
      refine lv_iinc (v := 2) (lv' := [(1, .int 2), (0, .ref (B + h0))]) hx hb dX11_init_116 hl (k := 0) rfl (by decide) (by decide) rfl (fun ls hl => ?_)
      refine lv_goto (tgt := 98) hx hb dX11_init_119 (by decide) ?_
      refine lv_iload_n hx hb dX11_init_98 rfl (lv_at hl 0 rfl) ?_
      refine lv_iconst (v := 3) hx hb dX11_init_99 (by decide) ?_
      refine lv_icmp_ge (tgt := 122) hx hb dX11_init_100 (by decide) (fun c_100 => ?_) (fun c_100 => ?_)
      · exact absurd c_100 (by decide)
      · skip
        refine lv_aload_n hx hb dX11_init_103 rfl (lv_at hl 1 rfl) ?_
        refine eg_RX11_55 hC hS h dX11_init_104 (fun t_104_194 h => ?_)
        refine lv_iload_n hx hb dX11_init_107 rfl (lv_at hl 0 rfl) ?_
        refine ez_new (ci := 7) (fs := [.inr (.inr none)]) (c1 := 132) (s1 := 4741) (n1 := σ0.length + 132) tyX7 hC hB hS hsz rfl inq_7 tyX7_ok qk_RX11_38 qn_7 qi_7 (fun j hj => by rcases (show j = 0 by omega) with rfl <;> rfl) rfl rfl rfl (Nat.le_trans (by decide) hR.1) (Nat.le_trans (by decide) hR.2) h dX11_init_108 (fun t_108_196 σ H hS hsz h => ?_)
        refine lv_dup hx hb dX11_init_111 rfl ?_
        refine ez_cI (As := []) (rest := [.ref (B + t_108_196), .int 2, .ref (B + t_104_194)]) (n' := 0) (c1 := 133) (s1 := 4776) (n1 := σ0.length + 133) h (fun _ q => c_X7_init q) hC ki_X7_init rfl (by decide +kernel) ql_RX11_40 rfl (by decide) hS (Nat.succ_pos _) hsz hl.1 rfl (Nat.le_of_ble_eq_true rfl) rfl rfl rfl ⟨Nat.le_trans (by decide) hR.1, Nat.le_trans (by decide) hR.2⟩ dX11_init_112 (fun σ H locs hS hsz h => ?_)
        refine ez_aas hC hS h dX11_init_115 (fun σ H locs hS h => ?_)
        refine lv_iinc (v := 3) (lv' := [(1, .int 3), (0, .ref (B + h0))]) hx hb dX11_init_116 hl (k := 0) rfl (by decide) (by decide) rfl (fun ls hl => ?_)
        refine lv_goto (tgt := 98) hx hb dX11_init_119 (by decide) ?_
        refine lv_iload_n hx hb dX11_init_98 rfl (lv_at hl 0 rfl) ?_
        refine lv_iconst (v := 3) hx hb dX11_init_99 (by decide) ?_
        refine lv_icmp_ge (tgt := 122) hx hb dX11_init_100 (by decide) (fun c_100 => ?_) (fun c_100 => ?_)
        · skip
          refine lv_aload_n hx hb dX11_init_122 rfl (lv_at hl 1 rfl) ?_
          refine lv_iconst (v := 0) hx hb dX11_init_123 (by decide) ?_
          refine ep_RX11_59 hC hS h dX11_init_124 (fun σ H locs hS h => ?_)
          refine lv_aload_n hx hb dX11_init_127 rfl (lv_at hl 1 rfl) ?_
          refine ez_new (ci := 8) (fs := [.inr (.inr none), .inr (.inr none), .inr (.inr none), .inr (.inr none), .inr (.inr none), .inr (.inr none), .inr (.inr none), .inr (.inr none), .inr (.inr none), .inr (.inr none), .inr (.inr none), .inr (.inr none), .inr (.inr none)]) (c1 := 134) (s1 := 4789) (n1 := σ0.length + 134) tyX8 hC hB hS hsz rfl inq_8 tyX8_ok qk_RX11_62 qn_8 qi_8 (fun j hj => by rcases (show j = 0 ∨ j = 1 ∨ j = 2 ∨ j = 3 ∨ j = 4 ∨ j = 5 ∨ j = 6 ∨ j = 7 ∨ j = 8 ∨ j = 9 ∨ j = 10 ∨ j = 11 ∨ j = 12 by omega) with rfl | rfl | rfl | rfl | rfl | rfl | rfl | rfl | rfl | rfl | rfl | rfl | rfl <;> rfl) rfl rfl rfl (Nat.le_trans (by decide) hR.1) (Nat.le_trans (by decide) hR.2) h dX11_init_128 (fun t_128_207 σ H hS hsz h => ?_)
          refine lv_dup hx hb dX11_init_131 rfl ?_
          refine lv_aload_n hx hb dX11_init_132 rfl (lv_at hl 1 rfl) ?_
          refine eg_RX11_29 hC hS h dX11_init_133 (fun t_133_210 h => ?_)
          refine ez_cI (As := [.ref (B + t_133_210)]) (rest := [.ref (B + t_128_207), .ref (B + h0)]) (n' := 1) (c1 := 145) (s1 := 7301) (n1 := σ0.length + 145) h (fun _ q => c_X8_init q) hC ki_X8_init rfl (by decide +kernel) ql_RX11_64 rfl (by decide) hS (Nat.succ_pos _) hsz hl.1 rfl (Nat.le_of_ble_eq_true rfl) rfl rfl rfl ⟨Nat.le_trans (by decide) hR.1, Nat.le_trans (by decide) hR.2⟩ dX11_init_136 (fun σ H locs hS hsz h => ?_)
          refine eF_RX11_67 hin hC hS h dX11_init_139 (fun σ H locs hS h => ?_)
          refine lv_aload_n hx hb dX11_init_142 rfl (lv_at hl 1 rfl) ?_
          refine ez_new (ci := 8) (fs := [.inr (.inr none), .inr (.inr none), .inr (.inr none), .inr (.inr none), .inr (.inr none), .inr (.inr none), .inr (.inr none), .inr (.inr none), .inr (.inr none), .inr (.inr none), .inr (.inr none), .inr (.inr none), .inr (.inr none)]) (c1 := 146) (s1 := 7314) (n1 := σ0.length + 146) tyX8 hC hB hS hsz rfl inq_8 tyX8_ok qk_RX11_62 qn_8 qi_8 (fun j hj => by rcases (show j = 0 ∨ j = 1 ∨ j = 2 ∨ j = 3 ∨ j = 4 ∨ j = 5 ∨ j = 6 ∨ j = 7 ∨ j = 8 ∨ j = 9 ∨ j = 10 ∨ j = 11 ∨ j = 12 by omega) with rfl | rfl | rfl | rfl | rfl | rfl | rfl | rfl | rfl | rfl | rfl | rfl | rfl <;> rfl) rfl rfl rfl (Nat.le_trans (by decide) hR.1) (Nat.le_trans (by decide) hR.2) h dX11_init_143 (fun t_143_214 σ H hS hsz h => ?_)
          refine lv_dup hx hb dX11_init_146 rfl ?_
          refine lv_aload_n hx hb dX11_init_147 rfl (lv_at hl 1 rfl) ?_
          refine eg_RX11_29 hC hS h dX11_init_148 (fun t_148_217 h => ?_)
          refine ez_cI (As := [.ref (B + t_148_217)]) (rest := [.ref (B + t_143_214), .ref (B + h0)]) (n' := 1) (c1 := 157) (s1 := 9826) (n1 := σ0.length + 157) h (fun _ q => c_X8_init q) hC ki_X8_init rfl (by decide +kernel) ql_RX11_64 rfl (by decide) hS (Nat.succ_pos _) hsz hl.1 rfl (Nat.le_of_ble_eq_true rfl) rfl rfl rfl ⟨Nat.le_trans (by decide) hR.1, Nat.le_trans (by decide) hR.2⟩ dX11_init_151 (fun σ H locs hS hsz h => ?_)
          refine eF_RX11_71 hin hC hS h dX11_init_154 (fun σ H locs hS h => ?_)
          refine lv_aload_n hx hb dX11_init_157 rfl (lv_at hl 1 rfl) ?_
          refine ez_new (ci := 2) (fs := [.inr (.inr none), .inr (.inr none), .inr (.inr none), .inr (.inr none), .inr (.inr none), .inl 0]) (c1 := 158) (s1 := 9832) (n1 := σ0.length + 158) tyX2 hC hB hS hsz rfl inq_2 tyX2_ok qk_RX11_74 qn_2 qi_2 (fun j hj => by rcases (show j = 0 ∨ j = 1 ∨ j = 2 ∨ j = 3 ∨ j = 4 ∨ j = 5 by omega) with rfl | rfl | rfl | rfl | rfl | rfl <;> rfl) rfl rfl rfl (Nat.le_trans (by decide) hR.1) (Nat.le_trans (by decide) hR.2) h dX11_init_158 (fun t_158_221 σ H hS hsz h => ?_)
          refine lv_dup hx hb dX11_init_161 rfl ?_
          refine lv_aload_n hx hb dX11_init_162 rfl (lv_at hl 1 rfl) ?_
          refine eg_RX11_29 hC hS h dX11_init_163 (fun t_163_224 h => ?_)
          refine lv_aload_n hx hb dX11_init_166 rfl (lv_at hl 1 rfl) ?_
          refine eg_RX11_41 hC hS h dX11_init_167 (fun t_167_226 h => ?_)
          refine ez_cI (As := [.ref (B + t_163_224), .ref (B + t_167_226)]) (rest := [.ref (B + t_158_221), .ref (B + h0)]) (n' := 2) (c1 := 161) (s1 := 9848) (n1 := σ0.length + 161) h (fun _ q => c_X2_init q) hC ki_X2_init rfl (by decide +kernel) ql_RX11_76 rfl (by decide) hS (Nat.succ_pos _) hsz hl.1 rfl (Nat.le_of_ble_eq_true rfl) rfl rfl rfl ⟨Nat.le_trans (by decide) hR.1, Nat.le_trans (by decide) hR.2⟩ dX11_init_170 (fun σ H locs hS hsz h => ?_)
          refine eF_RX11_79 hin hC hS h dX11_init_173 (fun σ H locs hS h => ?_)
          refine lv_aload_n hx hb dX11_init_176 rfl (lv_at hl 1 rfl) ?_
          refine ez_new (ci := 5) (fs := [.inr (.inr none), .inr (.inr none), .inr (.inr none), .inr (.inr none), .inl 0]) (c1 := 162) (s1 := 9853) (n1 := σ0.length + 162) tyX5 hC hB hS hsz rfl inq_5 tyX5_ok qk_RX11_83 qn_5 qi_5 (fun j hj => by rcases (show j = 0 ∨ j = 1 ∨ j = 2 ∨ j = 3 ∨ j = 4 by omega) with rfl | rfl | rfl | rfl | rfl <;> rfl) rfl rfl rfl (Nat.le_trans (by decide) hR.1) (Nat.le_trans (by decide) hR.2) h dX11_init_177 (fun t_177_230 σ H hS hsz h => ?_)
          refine lv_dup hx hb dX11_init_180 rfl ?_
          refine lv_aload_n hx hb dX11_init_181 rfl (lv_at hl 1 rfl) ?_
          refine eg_RX11_29 hC hS h dX11_init_182 (fun t_182_233 h => ?_)
          refine lv_aload_n hx hb dX11_init_185 rfl (lv_at hl 1 rfl) ?_
          refine eg_RX11_41 hC hS h dX11_init_186 (fun t_186_235 h => ?_)
          refine ez_cI (As := [.ref (B + t_182_233), .ref (B + t_186_235)]) (rest := [.ref (B + t_177_230), .ref (B + h0)]) (n' := 2) (c1 := 163) (s1 := 9901) (n1 := σ0.length + 163) h (fun _ q => c_X5_init q) hC ki_X5_init rfl (by decide +kernel) ql_RX11_85 rfl (by decide) hS (Nat.succ_pos _) hsz hl.1 rfl (Nat.le_of_ble_eq_true rfl) rfl rfl rfl ⟨Nat.le_trans (by decide) hR.1, Nat.le_trans (by decide) hR.2⟩ dX11_init_189 (fun σ H locs hS hsz h => ?_)
          refine eF_RX11_86 hin hC hS h dX11_init_192 (fun σ H locs hS h => ?_)
          refine lv_aload_n hx hb dX11_init_195 rfl (lv_at hl 1 rfl) ?_
          refine ez_new (ci := 10) (fs := [.inr (.inr none), .inr (.inr none), .inr (.inr none), .inr (.inr none), .inl 0, .inl 0]) (c1 := 164) (s1 := 9907) (n1 := σ0.length + 164) tyX10 hC hB hS hsz rfl inq_10 tyX10_ok qk_RX11_90 qn_10 qi_10 (fun j hj => by rcases (show j = 0 ∨ j = 1 ∨ j = 2 ∨ j = 3 ∨ j = 4 ∨ j = 5 by omega) with rfl | rfl | rfl | rfl | rfl | rfl <;> rfl) rfl rfl rfl (Nat.le_trans (by decide) hR.1) (Nat.le_trans (by decide) hR.2) h dX11_init_196 (fun t_196_239 σ H hS hsz h => ?_)
          refine lv_dup hx hb dX11_init_199 rfl ?_
          refine ez_cI (As := []) (rest := [.ref (B + t_196_239), .ref (B + h0)]) (n' := 0) (c1 := 168) (s1 := 10027) (n1 := σ0.length + 168) h (fun _ q => c_X10_init q) hC ki_X10_init rfl (by decide +kernel) ql_RX11_92 rfl (by decide) hS (Nat.succ_pos _) hsz hl.1 rfl (Nat.le_of_ble_eq_true rfl) rfl rfl rfl ⟨Nat.le_trans (by decide) hR.1, Nat.le_trans (by decide) hR.2⟩ dX11_init_200 (fun σ H locs hS hsz h => ?_)
          refine eF_RX11_93 hin hC hS h dX11_init_203 (fun σ H locs hS h => ?_)
          refine lv_aload_n hx hb dX11_init_206 rfl (lv_at hl 1 rfl) ?_
          refine lv_bipush (v := 60) hx hb dX11_init_207 (by decide) ?_
          refine ez_newa (k := 1) (N := 60) (ty := .int) (atype := .int) (c1 := 169) (s1 := 10087) (n1 := σ0.length + 169) hC hB hS hsz rfl rfl (fun _ _ h9 => h9) rfl qw_int (by decide) (by decide) (by decide) rfl rfl rfl (Nat.le_trans (by decide) hR.1) (Nat.le_trans (by decide) hR.2) h dX11_init_209 (fun t_209_245 σ H hS hsz h => ?_)
          refine eF_RX11_97 hin hC hS h dX11_init_211 (fun σ H locs hS h => ?_)
          exact hret _ _ _ _ _ _ (Option.some.inj h) hS dX11_init_214
        · exact absurd c_100 (by decide)
set_option maxHeartbeats 4000000 in
set_option maxRecDepth 100000 in
theorem c_X12_clearBank {l : Launch} {X : ez_X} {B : Nat} {σ : ez_H} {h0 : Nat} {z : Unit × ez_H} (h : z_X12_clearBank σ h0 = some z) : ez_M l X B σ yX12_clearBank cX12_clearBank 2 (none) 0 [.ref (B + h0)] (none) z.2 := by
  refine ez_startv (z := z) (by decide) (Nat.le_of_ble_eq_true rfl) (fun p e R s m args below meth c Q hC hret hS ls hl => ?_)
  have hC : ez_C p R s m args c X B RX12 cX12_clearBank 2 0 := hC
  have hx := hC.1.1
  have hb := hC.1.2.1
  have hown := hC.1.2.2.2.1
  have hts := hC.1.2.2.2.2
  have hl : lv_has ls 2 [(0, .ref (B + h0))] := hl
  obtain ⟨σ0, eσ⟩ : ∃ σ0 : ez_H, σ0 = σ := ⟨_, rfl⟩
  rw [← eσ] at hret
  have hS : ez_S X B s.heap σ0.length σ s.heap [] := eσ ▸ hS
  obtain ⟨-, h⟩ := ez_in h
  have K_113 : ∀ (k_113 : ez_H → Nat → Int32 → Option (Unit × ez_H)) (hk_113 : ∀ (σ : ez_H) (h0 : Nat) (x1 : Int32) (H : Heap) (locs : List Loc) (ls : Array Slot), ez_S X B s.heap (σ0.length) σ H locs → k_113 σ h0 x1 = some z → lv_has ls 2 [(0, .ref (B + h0)), (1, .int x1)] → W p l e R s m args below meth c H locs 0 0 Q (F0 m 113 ls [])), ∀ (σ : ez_H) (h0 : Nat) (x1 : Int32) (H : Heap) (locs : List Loc) (ls : Array Slot), ez_S X B s.heap (σ0.length) σ H locs → z_X12_clearBank_113 k_113 σ h0 x1 = some z → lv_has ls 2 [(0, .ref (B + h0)), (1, .int x1)] → W p l e R s m args below meth c H locs 0 0 Q (F0 m 113 ls []) := by
    intro k_113 hk_113 σ h0 x1 H locs ls hS h hl
    refine lv_iload_n hx hb dX12_clearBank_113 rfl (lv_at hl 1 rfl) ?_
    refine lv_bipush (v := 6) hx hb dX12_clearBank_114 (by decide) ?_
    refine lv_icmp_ge (tgt := 155) hx hb dX12_clearBank_116 (by decide) (fun c_116 => ?_) (fun c_116 => ?_)
    · replace h := ez_ifp h c_116
      refine lv_aload_n hx hb dX12_clearBank_155 rfl (lv_at hl 0 rfl) ?_
      refine lv_sipush (v := 560) hx hb dX12_clearBank_156 (by decide) ?_
      refine lv_aload_n hx hb dX12_clearBank_159 rfl (lv_at hl 0 rfl) ?_
      refine eg_RX12_265 hC hS h dX12_clearBank_160 (fun t_160 h => ?_)
      refine lv_imul hx hb dX12_clearBank_163 ?_
      refine ez_top h (fun t_163 h => ?_)
      refine ep_RX12_268 hC hS h dX12_clearBank_164 (fun σ H locs hS h => ?_)
      exact hret _ _ _ _ _ _ (Option.some.inj h) hS dX12_clearBank_167
    · replace h := ez_ifn h c_116
      refine lv_aload_n hx hb dX12_clearBank_119 rfl (lv_at hl 0 rfl) ?_
      refine eg_RX12_75 hC hS h dX12_clearBank_120 (fun t_120 h => ?_)
      refine lv_bipush (v := 6) hx hb dX12_clearBank_123 (by decide) ?_
      refine lv_aload_n hx hb dX12_clearBank_125 rfl (lv_at hl 0 rfl) ?_
      refine eg_RX12_265 hC hS h dX12_clearBank_126 (fun t_126 h => ?_)
      refine lv_imul hx hb dX12_clearBank_129 ?_
      refine ez_top h (fun t_129 h => ?_)
      refine lv_iload_n hx hb dX12_clearBank_130 rfl (lv_at hl 1 rfl) ?_
      refine lv_iadd hx hb dX12_clearBank_131 ?_
      refine ez_top h (fun t_131 h => ?_)
      refine lv_iconst (v := 0) hx hb dX12_clearBank_132 (by decide) ?_
      refine ez_ias hC hS h dX12_clearBank_133 (fun σ H locs hS h => ?_)
      refine lv_aload_n hx hb dX12_clearBank_134 rfl (lv_at hl 0 rfl) ?_
      refine eg_RX12_78 hC hS h dX12_clearBank_135 (fun t_135 h => ?_)
      refine lv_bipush (v := 6) hx hb dX12_clearBank_138 (by decide) ?_
      refine lv_aload_n hx hb dX12_clearBank_140 rfl (lv_at hl 0 rfl) ?_
      refine eg_RX12_265 hC hS h dX12_clearBank_141 (fun t_141 h => ?_)
      refine lv_imul hx hb dX12_clearBank_144 ?_
      refine ez_top h (fun t_144 h => ?_)
      refine lv_iload_n hx hb dX12_clearBank_145 rfl (lv_at hl 1 rfl) ?_
      refine lv_iadd hx hb dX12_clearBank_146 ?_
      refine ez_top h (fun t_146 h => ?_)
      refine lv_iconst (v := 0) hx hb dX12_clearBank_147 (by decide) ?_
      refine ez_ias hC hS h dX12_clearBank_148 (fun σ H locs hS h => ?_)
      obtain ⟨t_149, e_149, h⟩ := ez_let_sp h
      refine lv_iinc (v := t_149) (lv' := [(1, .int t_149), (0, .ref (B + h0))]) hx hb dX12_clearBank_149 hl (k := 1) rfl (by rw [e_149]; rfl) (by decide) rfl (fun ls hl => ?_)
      refine lv_goto (tgt := 113) hx hb dX12_clearBank_152 (by decide) ?_
      exact hk_113 σ h0 t_149 _ _ _ hS h (lv_sub hl [1, 0] rfl)
  have E_113 : ∀ (σ : ez_H) (h0 : Nat) (x1 : Int32) (H : Heap) (locs : List Loc) (ls : Array Slot), ez_S X B s.heap (σ0.length) σ H locs → (ez_fix (fun _ _ _ => none) (z_X12_clearBank_113) ez_N) σ h0 x1 = some z → lv_has ls 2 [(0, .ref (B + h0)), (1, .int x1)] → W p l e R s m args below meth c H locs 0 0 Q (F0 m 113 ls []) := ez_fix_ind (fun k_113 : ez_H → Nat → Int32 → Option (Unit × ez_H) => ∀ (σ : ez_H) (h0 : Nat) (x1 : Int32) (H : Heap) (locs : List Loc) (ls : Array Slot), ez_S X B s.heap (σ0.length) σ H locs → k_113 σ h0 x1 = some z → lv_has ls 2 [(0, .ref (B + h0)), (1, .int x1)] → W p l e R s m args below meth c H locs 0 0 Q (F0 m 113 ls [])) (fun _ _ _ _ _ _ _ h _ => by cases h) (fun k_113 hk_113 => K_113 k_113 hk_113) ez_N
  refine lv_aload_n hx hb dX12_clearBank_0 rfl (lv_at hl 0 rfl) ?_
  refine eg_RX12_20 hC hS h dX12_clearBank_1 (fun t_1 h => ?_)
  refine lv_aload_n hx hb dX12_clearBank_4 rfl (lv_at hl 0 rfl) ?_
  refine eg_RX12_265 hC hS h dX12_clearBank_5 (fun t_5 h => ?_)
  refine lv_iconst (v := 5) hx hb dX12_clearBank_8 (by decide) ?_
  refine ez_ias hC hS h dX12_clearBank_9 (fun σ H locs hS h => ?_)
  refine lv_aload_n hx hb dX12_clearBank_10 rfl (lv_at hl 0 rfl) ?_
  refine eg_RX12_24 hC hS h dX12_clearBank_11 (fun t_11 h => ?_)
  refine lv_aload_n hx hb dX12_clearBank_14 rfl (lv_at hl 0 rfl) ?_
  refine eg_RX12_265 hC hS h dX12_clearBank_15 (fun t_15 h => ?_)
  refine lv_bipush (v := 6) hx hb dX12_clearBank_18 (by decide) ?_
  refine ez_ias hC hS h dX12_clearBank_20 (fun σ H locs hS h => ?_)
  refine lv_aload_n hx hb dX12_clearBank_21 rfl (lv_at hl 0 rfl) ?_
  refine eg_RX12_27 hC hS h dX12_clearBank_22 (fun t_22 h => ?_)
  refine lv_aload_n hx hb dX12_clearBank_25 rfl (lv_at hl 0 rfl) ?_
  refine eg_RX12_265 hC hS h dX12_clearBank_26 (fun t_26 h => ?_)
  refine lv_iconst (v := 5) hx hb dX12_clearBank_29 (by decide) ?_
  refine ez_ias hC hS h dX12_clearBank_30 (fun σ H locs hS h => ?_)
  refine lv_aload_n hx hb dX12_clearBank_31 rfl (lv_at hl 0 rfl) ?_
  refine eg_RX12_30 hC hS h dX12_clearBank_32 (fun t_32 h => ?_)
  refine lv_aload_n hx hb dX12_clearBank_35 rfl (lv_at hl 0 rfl) ?_
  refine eg_RX12_265 hC hS h dX12_clearBank_36 (fun t_36 h => ?_)
  refine lv_iconst (v := 0) hx hb dX12_clearBank_39 (by decide) ?_
  refine ez_ias hC hS h dX12_clearBank_40 (fun σ H locs hS h => ?_)
  refine lv_aload_n hx hb dX12_clearBank_41 rfl (lv_at hl 0 rfl) ?_
  refine eg_RX12_33 hC hS h dX12_clearBank_42 (fun t_42 h => ?_)
  refine lv_aload_n hx hb dX12_clearBank_45 rfl (lv_at hl 0 rfl) ?_
  refine eg_RX12_265 hC hS h dX12_clearBank_46 (fun t_46 h => ?_)
  refine lv_iconst (v := 0) hx hb dX12_clearBank_49 (by decide) ?_
  refine ez_ias hC hS h dX12_clearBank_50 (fun σ H locs hS h => ?_)
  refine lv_aload_n hx hb dX12_clearBank_51 rfl (lv_at hl 0 rfl) ?_
  refine eg_RX12_36 hC hS h dX12_clearBank_52 (fun t_52 h => ?_)
  refine lv_aload_n hx hb dX12_clearBank_55 rfl (lv_at hl 0 rfl) ?_
  refine eg_RX12_265 hC hS h dX12_clearBank_56 (fun t_56 h => ?_)
  refine lv_iconst (v := 0) hx hb dX12_clearBank_59 (by decide) ?_
  refine ez_ias hC hS h dX12_clearBank_60 (fun σ H locs hS h => ?_)
  refine lv_aload_n hx hb dX12_clearBank_61 rfl (lv_at hl 0 rfl) ?_
  refine eg_RX12_39 hC hS h dX12_clearBank_62 (fun t_62 h => ?_)
  refine lv_aload_n hx hb dX12_clearBank_65 rfl (lv_at hl 0 rfl) ?_
  refine eg_RX12_265 hC hS h dX12_clearBank_66 (fun t_66 h => ?_)
  refine lv_iconst (v := 0) hx hb dX12_clearBank_69 (by decide) ?_
  refine ez_ias hC hS h dX12_clearBank_70 (fun σ H locs hS h => ?_)
  refine lv_aload_n hx hb dX12_clearBank_71 rfl (lv_at hl 0 rfl) ?_
  refine eg_RX12_42 hC hS h dX12_clearBank_72 (fun t_72 h => ?_)
  refine lv_aload_n hx hb dX12_clearBank_75 rfl (lv_at hl 0 rfl) ?_
  refine eg_RX12_265 hC hS h dX12_clearBank_76 (fun t_76 h => ?_)
  refine lv_iconst (v := 0) hx hb dX12_clearBank_79 (by decide) ?_
  refine ez_ias hC hS h dX12_clearBank_80 (fun σ H locs hS h => ?_)
  refine lv_aload_n hx hb dX12_clearBank_81 rfl (lv_at hl 0 rfl) ?_
  refine eg_RX12_45 hC hS h dX12_clearBank_82 (fun t_82 h => ?_)
  refine lv_aload_n hx hb dX12_clearBank_85 rfl (lv_at hl 0 rfl) ?_
  refine eg_RX12_265 hC hS h dX12_clearBank_86 (fun t_86 h => ?_)
  refine lv_iconst (v := 0) hx hb dX12_clearBank_89 (by decide) ?_
  refine ez_ias hC hS h dX12_clearBank_90 (fun σ H locs hS h => ?_)
  refine lv_aload_n hx hb dX12_clearBank_91 rfl (lv_at hl 0 rfl) ?_
  refine eg_RX12_48 hC hS h dX12_clearBank_92 (fun t_92 h => ?_)
  refine lv_aload_n hx hb dX12_clearBank_95 rfl (lv_at hl 0 rfl) ?_
  refine eg_RX12_265 hC hS h dX12_clearBank_96 (fun t_96 h => ?_)
  refine lv_iconst (v := 0) hx hb dX12_clearBank_99 (by decide) ?_
  refine ez_ias hC hS h dX12_clearBank_100 (fun σ H locs hS h => ?_)
  refine lv_aload_n hx hb dX12_clearBank_101 rfl (lv_at hl 0 rfl) ?_
  refine eg_RX12_51 hC hS h dX12_clearBank_102 (fun t_102 h => ?_)
  refine lv_aload_n hx hb dX12_clearBank_105 rfl (lv_at hl 0 rfl) ?_
  refine eg_RX12_265 hC hS h dX12_clearBank_106 (fun t_106 h => ?_)
  refine lv_iconst (v := 0) hx hb dX12_clearBank_109 (by decide) ?_
  refine ez_ias hC hS h dX12_clearBank_110 (fun σ H locs hS h => ?_)
  refine lv_iconst (v := 0) hx hb dX12_clearBank_111 (by decide) ?_
  refine lv_istore_n (lv' := [(1, .int 0), (0, .ref (B + h0))]) hx hb dX12_clearBank_112 rfl hl (by decide) rfl (fun ls hl => ?_)
  exact E_113  σ h0 (0 : Int32) _ _ _ hS h (lv_sub hl [1, 0] rfl)
set_option maxHeartbeats 4000000 in
set_option maxRecDepth 100000 in
theorem c_X12_many {l : Launch} {X : ez_X} {B : Nat} {σ : ez_H} {h0 : Nat} {z : Int32} (h : z_X12_many σ h0 = some z) : ez_M l X B σ yX12_many cX12_many 1 (some .int) 0 [.ref (B + h0)] (some (.int z)) σ := by
  refine ez_startip (z := z) (by decide) (Nat.le_of_ble_eq_true rfl) (fun p e R s m args below meth c Q hC hret hS ls hl => ?_)
  have hC : ez_C p R s m args c X B RX12 cX12_many 1 0 := hC
  have hx := hC.1.1
  have hb := hC.1.2.1
  have hown := hC.1.2.2.2.1
  have hts := hC.1.2.2.2.2
  have hl : lv_has ls 1 [(0, .ref (B + h0))] := hl
  obtain ⟨n0, e0⟩ : ∃ n0 : Nat, n0 = σ.length := ⟨_, rfl⟩
  rw [← e0] at hret hS
  obtain ⟨-, h⟩ := ez_in h
  refine lv_aload_n hx hb dX12_many_0 rfl (lv_at hl 0 rfl) ?_
  refine eg_RX12_30 hC hS h dX12_many_1 (fun t_1 h => ?_)
  refine lv_aload_n hx hb dX12_many_4 rfl (lv_at hl 0 rfl) ?_
  refine eg_RX12_274 hC hS h dX12_many_5 (fun t_5 h => ?_)
  refine ez_ial hC hS h dX12_many_8 (fun t_8 h => ?_)
  exact hret _ _ _ _ _ (Option.some.inj h) rfl hS dX12_many_9
set_option maxHeartbeats 4000000 in
set_option maxRecDepth 100000 in
theorem c_X12_bolts {l : Launch} {X : ez_X} {B : Nat} {σ : ez_H} {h0 : Nat} {z : Int32} (h : z_X12_bolts σ h0 = some z) : ez_M l X B σ yX12_bolts cX12_bolts 1 (some .int) 0 [.ref (B + h0)] (some (.int z)) σ := by
  refine ez_startip (z := z) (by decide) (Nat.le_of_ble_eq_true rfl) (fun p e R s m args below meth c Q hC hret hS ls hl => ?_)
  have hC : ez_C p R s m args c X B RX12 cX12_bolts 1 0 := hC
  have hx := hC.1.1
  have hb := hC.1.2.1
  have hown := hC.1.2.2.2.1
  have hts := hC.1.2.2.2.2
  have hl : lv_has ls 1 [(0, .ref (B + h0))] := hl
  obtain ⟨n0, e0⟩ : ∃ n0 : Nat, n0 = σ.length := ⟨_, rfl⟩
  rw [← e0] at hret hS
  obtain ⟨-, h⟩ := ez_in h
  refine lv_aload_n hx hb dX12_bolts_0 rfl (lv_at hl 0 rfl) ?_
  refine eg_RX12_33 hC hS h dX12_bolts_1 (fun t_1 h => ?_)
  refine lv_aload_n hx hb dX12_bolts_4 rfl (lv_at hl 0 rfl) ?_
  refine eg_RX12_274 hC hS h dX12_bolts_5 (fun t_5 h => ?_)
  refine ez_ial hC hS h dX12_bolts_8 (fun t_8 h => ?_)
  exact hret _ _ _ _ _ (Option.some.inj h) rfl hS dX12_bolts_9
set_option maxHeartbeats 4000000 in
set_option maxRecDepth 100000 in
theorem c_X12_startAnew {l : Launch} {X : ez_X} {B : Nat} {σ : ez_H} {h0 : Nat} {z : Unit × ez_H} (h : z_X12_startAnew σ h0 = some z) : ez_M l X B σ yX12_startAnew cX12_startAnew 2 (none) 1 [.ref (B + h0)] (none) z.2 := by
  refine ez_startv (z := z) (by decide) (Nat.le_of_ble_eq_true rfl) (fun p e R s m args below meth c Q hC hret hS ls hl => ?_)
  have hC : ez_C p R s m args c X B RX12 cX12_startAnew 2 1 := hC
  have hx := hC.1.1
  have hb := hC.1.2.1
  have hown := hC.1.2.2.2.1
  have hts := hC.1.2.2.2.2
  have hl : lv_has ls 2 [(0, .ref (B + h0))] := hl
  obtain ⟨σ0, eσ⟩ : ∃ σ0 : ez_H, σ0 = σ := ⟨_, rfl⟩
  rw [← eσ] at hret
  have hS : ez_S X B s.heap σ0.length σ s.heap [] := eσ ▸ hS
  obtain ⟨-, h⟩ := ez_in h
  have K_232 : ∀ (k_232 : ez_H → Nat → Int32 → Option (Unit × ez_H)) (hk_232 : ∀ (σ : ez_H) (h0 : Nat) (x1 : Int32) (H : Heap) (locs : List Loc) (ls : Array Slot), ez_S X B s.heap (σ0.length) σ H locs → k_232 σ h0 x1 = some z → lv_has ls 2 [(0, .ref (B + h0)), (1, .int x1)] → W p l e R s m args below meth c H locs 0 0 Q (F0 m 232 ls [])), ∀ (σ : ez_H) (h0 : Nat) (x1 : Int32) (H : Heap) (locs : List Loc) (ls : Array Slot), ez_S X B s.heap (σ0.length) σ H locs → z_X12_startAnew_232 k_232 σ h0 x1 = some z → lv_has ls 2 [(0, .ref (B + h0)), (1, .int x1)] → W p l e R s m args below meth c H locs 0 0 Q (F0 m 232 ls []) := by
    intro k_232 hk_232 σ h0 x1 H locs ls hS h hl
    refine lv_iload_n hx hb dX12_startAnew_232 rfl (lv_at hl 1 rfl) ?_
    refine lv_iconst (v := 3) hx hb dX12_startAnew_233 (by decide) ?_
    refine lv_icmp_ge (tgt := 250) hx hb dX12_startAnew_234 (by decide) (fun c_234 => ?_) (fun c_234 => ?_)
    · replace h := ez_ifp h c_234
      exact hret _ _ _ _ _ _ (Option.some.inj h) hS dX12_startAnew_250
    · replace h := ez_ifn h c_234
      refine lv_aload_n hx hb dX12_startAnew_237 rfl (lv_at hl 0 rfl) ?_
      refine eg_RX12_151 hC hS h dX12_startAnew_238 (fun t_238 h => ?_)
      refine lv_iload_n hx hb dX12_startAnew_241 rfl (lv_at hl 1 rfl) ?_
      refine lv_iconst (v := 0) hx hb dX12_startAnew_242 (by decide) ?_
      refine ez_zas hC hS h dX12_startAnew_243 (fun σ H locs hS h => ?_)
      obtain ⟨t_244, e_244, h⟩ := ez_let_sp h
      refine lv_iinc (v := t_244) (lv' := [(1, .int t_244), (0, .ref (B + h0))]) hx hb dX12_startAnew_244 hl (k := 1) rfl (by rw [e_244]; rfl) (by decide) rfl (fun ls hl => ?_)
      refine lv_goto (tgt := 232) hx hb dX12_startAnew_247 (by decide) ?_
      exact hk_232 σ h0 t_244 _ _ _ hS h (lv_sub hl [1, 0] rfl)
  have E_232 : ∀ (σ : ez_H) (h0 : Nat) (x1 : Int32) (H : Heap) (locs : List Loc) (ls : Array Slot), ez_S X B s.heap (σ0.length) σ H locs → (ez_fix (fun _ _ _ => none) (z_X12_startAnew_232) ez_N) σ h0 x1 = some z → lv_has ls 2 [(0, .ref (B + h0)), (1, .int x1)] → W p l e R s m args below meth c H locs 0 0 Q (F0 m 232 ls []) := ez_fix_ind (fun k_232 : ez_H → Nat → Int32 → Option (Unit × ez_H) => ∀ (σ : ez_H) (h0 : Nat) (x1 : Int32) (H : Heap) (locs : List Loc) (ls : Array Slot), ez_S X B s.heap (σ0.length) σ H locs → k_232 σ h0 x1 = some z → lv_has ls 2 [(0, .ref (B + h0)), (1, .int x1)] → W p l e R s m args below meth c H locs 0 0 Q (F0 m 232 ls [])) (fun _ _ _ _ _ _ _ h _ => by cases h) (fun k_232 hk_232 => K_232 k_232 hk_232) ez_N
  have K_153 : ∀ (k_153 : ez_H → Nat → Int32 → Option (Unit × ez_H)) (hk_153 : ∀ (σ : ez_H) (h0 : Nat) (x1 : Int32) (H : Heap) (locs : List Loc) (ls : Array Slot), ez_S X B s.heap (σ0.length) σ H locs → k_153 σ h0 x1 = some z → lv_has ls 2 [(0, .ref (B + h0)), (1, .int x1)] → W p l e R s m args below meth c H locs 0 0 Q (F0 m 153 ls [])), ∀ (σ : ez_H) (h0 : Nat) (x1 : Int32) (H : Heap) (locs : List Loc) (ls : Array Slot), ez_S X B s.heap (σ0.length) σ H locs → z_X12_startAnew_153 k_153 σ h0 x1 = some z → lv_has ls 2 [(0, .ref (B + h0)), (1, .int x1)] → W p l e R s m args below meth c H locs 0 0 Q (F0 m 153 ls []) := by
    intro k_153 hk_153 σ h0 x1 H locs ls hS h hl
    refine lv_iload_n hx hb dX12_startAnew_153 rfl (lv_at hl 1 rfl) ?_
    refine lv_aload_n hx hb dX12_startAnew_154 rfl (lv_at hl 0 rfl) ?_
    refine eg_RX12_42 hC hS h dX12_startAnew_155 (fun t_155 h => ?_)
    refine lv_aload_n hx hb dX12_startAnew_158 rfl (lv_at hl 0 rfl) ?_
    refine eg_RX12_274 hC hS h dX12_startAnew_159 (fun t_159 h => ?_)
    refine ez_ial hC hS h dX12_startAnew_162 (fun t_162 h => ?_)
    refine lv_icmp_ge (tgt := 194) hx hb dX12_startAnew_163 (by decide) (fun c_163 => ?_) (fun c_163 => ?_)
    · replace h := ez_ifp h c_163
      refine lv_aload_n hx hb dX12_startAnew_194 rfl (lv_at hl 0 rfl) ?_
      refine eg_RX12_118 hC hS h dX12_startAnew_195 (fun t_195 h => ?_)
      refine lv_bipush (v := 90) hx hb dX12_startAnew_198 (by decide) ?_
      refine lv_aload_n hx hb dX12_startAnew_200 rfl (lv_at hl 0 rfl) ?_
      refine eg_RX12_48 hC hS h dX12_startAnew_201 (fun t_201 h => ?_)
      refine lv_aload_n hx hb dX12_startAnew_204 rfl (lv_at hl 0 rfl) ?_
      refine eg_RX12_274 hC hS h dX12_startAnew_205 (fun t_205 h => ?_)
      refine ez_ial hC hS h dX12_startAnew_208 (fun t_208 h => ?_)
      refine ez_ias hC hS h dX12_startAnew_209 (fun σ H locs hS h => ?_)
      refine lv_aload_n hx hb dX12_startAnew_210 rfl (lv_at hl 0 rfl) ?_
      refine lv_iconst (v := 0) hx hb dX12_startAnew_211 (by decide) ?_
      refine ep_RX12_417 hC hS h dX12_startAnew_212 (fun σ H locs hS h => ?_)
      refine lv_aload_n hx hb dX12_startAnew_215 rfl (lv_at hl 0 rfl) ?_
      refine lv_iconst (v := 0) hx hb dX12_startAnew_216 (by decide) ?_
      refine ep_RX12_420 hC hS h dX12_startAnew_217 (fun σ H locs hS h => ?_)
      refine lv_aload_n hx hb dX12_startAnew_220 rfl (lv_at hl 0 rfl) ?_
      refine lv_iconst (v := 0) hx hb dX12_startAnew_221 (by decide) ?_
      refine ep_RX12_423 hC hS h dX12_startAnew_222 (fun σ H locs hS h => ?_)
      refine lv_aload_n hx hb dX12_startAnew_225 rfl (lv_at hl 0 rfl) ?_
      refine lv_iconst (v := 0) hx hb dX12_startAnew_226 (by decide) ?_
      refine ep_RX12_426 hC hS h dX12_startAnew_227 (fun σ H locs hS h => ?_)
      refine lv_iconst (v := 0) hx hb dX12_startAnew_230 (by decide) ?_
      refine lv_istore_n (lv' := [(1, .int 0), (0, .ref (B + h0))]) hx hb dX12_startAnew_231 rfl hl (by decide) rfl (fun ls hl => ?_)
      exact E_232  σ h0 (0 : Int32) _ _ _ hS h (lv_sub hl [1, 0] rfl)
    · replace h := ez_ifn h c_163
      refine lv_aload_n hx hb dX12_startAnew_166 rfl (lv_at hl 0 rfl) ?_
      refine eg_RX12_118 hC hS h dX12_startAnew_167 (fun t_167 h => ?_)
      refine lv_bipush (v := 86) hx hb dX12_startAnew_170 (by decide) ?_
      refine lv_iload_n hx hb dX12_startAnew_172 rfl (lv_at hl 1 rfl) ?_
      refine lv_iadd hx hb dX12_startAnew_173 ?_
      refine ez_top h (fun t_173 h => ?_)
      refine lv_aload_n hx hb dX12_startAnew_174 rfl (lv_at hl 0 rfl) ?_
      refine eg_RX12_69 hC hS h dX12_startAnew_175 (fun t_175 h => ?_)
      refine lv_iconst (v := 4) hx hb dX12_startAnew_178 (by decide) ?_
      refine lv_aload_n hx hb dX12_startAnew_179 rfl (lv_at hl 0 rfl) ?_
      refine eg_RX12_274 hC hS h dX12_startAnew_180 (fun t_180 h => ?_)
      refine lv_imul hx hb dX12_startAnew_183 ?_
      refine ez_top h (fun t_183 h => ?_)
      refine lv_iload_n hx hb dX12_startAnew_184 rfl (lv_at hl 1 rfl) ?_
      refine lv_iadd hx hb dX12_startAnew_185 ?_
      refine ez_top h (fun t_185 h => ?_)
      refine ez_ial hC hS h dX12_startAnew_186 (fun t_186 h => ?_)
      refine ez_ias hC hS h dX12_startAnew_187 (fun σ H locs hS h => ?_)
      obtain ⟨t_188, e_188, h⟩ := ez_let_sp h
      refine lv_iinc (v := t_188) (lv' := [(1, .int t_188), (0, .ref (B + h0))]) hx hb dX12_startAnew_188 hl (k := 1) rfl (by rw [e_188]; rfl) (by decide) rfl (fun ls hl => ?_)
      refine lv_goto (tgt := 153) hx hb dX12_startAnew_191 (by decide) ?_
      exact hk_153 σ h0 t_188 _ _ _ hS h (lv_sub hl [1, 0] rfl)
  have E_153 : ∀ (σ : ez_H) (h0 : Nat) (x1 : Int32) (H : Heap) (locs : List Loc) (ls : Array Slot), ez_S X B s.heap (σ0.length) σ H locs → (ez_fix (fun _ _ _ => none) (z_X12_startAnew_153) ez_N) σ h0 x1 = some z → lv_has ls 2 [(0, .ref (B + h0)), (1, .int x1)] → W p l e R s m args below meth c H locs 0 0 Q (F0 m 153 ls []) := ez_fix_ind (fun k_153 : ez_H → Nat → Int32 → Option (Unit × ez_H) => ∀ (σ : ez_H) (h0 : Nat) (x1 : Int32) (H : Heap) (locs : List Loc) (ls : Array Slot), ez_S X B s.heap (σ0.length) σ H locs → k_153 σ h0 x1 = some z → lv_has ls 2 [(0, .ref (B + h0)), (1, .int x1)] → W p l e R s m args below meth c H locs 0 0 Q (F0 m 153 ls [])) (fun _ _ _ _ _ _ _ h _ => by cases h) (fun k_153 hk_153 => K_153 k_153 hk_153) ez_N
  have K_112 : ∀ (k_112 : ez_H → Nat → Int32 → Option (Unit × ez_H)) (hk_112 : ∀ (σ : ez_H) (h0 : Nat) (x1 : Int32) (H : Heap) (locs : List Loc) (ls : Array Slot), ez_S X B s.heap (σ0.length) σ H locs → k_112 σ h0 x1 = some z → lv_has ls 2 [(0, .ref (B + h0)), (1, .int x1)] → W p l e R s m args below meth c H locs 0 0 Q (F0 m 112 ls [])), ∀ (σ : ez_H) (h0 : Nat) (x1 : Int32) (H : Heap) (locs : List Loc) (ls : Array Slot), ez_S X B s.heap (σ0.length) σ H locs → z_X12_startAnew_112 k_112 σ h0 x1 = some z → lv_has ls 2 [(0, .ref (B + h0)), (1, .int x1)] → W p l e R s m args below meth c H locs 0 0 Q (F0 m 112 ls []) := by
    intro k_112 hk_112 σ h0 x1 H locs ls hS h hl
    refine lv_iload_n hx hb dX12_startAnew_112 rfl (lv_at hl 1 rfl) ?_
    refine lv_aload_n hx hb dX12_startAnew_113 rfl (lv_at hl 0 rfl) ?_
    refine ez_cVpi (As := []) (rest := [.int x1]) h (fun _ q => c_X12_bolts q) hC k_X12_bolts ql_RX12_411 rfl (by decide) hS (fun _ q => ez_rcv q) rfl hl.1 rfl (Nat.le_of_ble_eq_true rfl) ⟨Nat.zero_le _, Nat.zero_le _⟩ dX12_startAnew_114 (fun t_114 H locs hS h => ?_)
    refine lv_iconst (v := 5) hx hb dX12_startAnew_117 (by decide) ?_
    refine lv_imul hx hb dX12_startAnew_118 ?_
    refine ez_top h (fun t_118 h => ?_)
    refine lv_icmp_ge (tgt := 151) hx hb dX12_startAnew_119 (by decide) (fun c_119 => ?_) (fun c_119 => ?_)
    · replace h := ez_ifp h c_119
      refine lv_iconst (v := 0) hx hb dX12_startAnew_151 (by decide) ?_
      refine lv_istore_n (lv' := [(1, .int 0), (0, .ref (B + h0))]) hx hb dX12_startAnew_152 rfl hl (by decide) rfl (fun ls hl => ?_)
      exact E_153  σ h0 (0 : Int32) _ _ _ hS h (lv_sub hl [1, 0] rfl)
    · replace h := ez_ifn h c_119
      refine lv_aload_n hx hb dX12_startAnew_122 rfl (lv_at hl 0 rfl) ?_
      refine eg_RX12_118 hC hS h dX12_startAnew_123 (fun t_123 h => ?_)
      refine lv_bipush (v := 56) hx hb dX12_startAnew_126 (by decide) ?_
      refine lv_iload_n hx hb dX12_startAnew_128 rfl (lv_at hl 1 rfl) ?_
      refine lv_iadd hx hb dX12_startAnew_129 ?_
      refine ez_top h (fun t_129 h => ?_)
      refine lv_aload_n hx hb dX12_startAnew_130 rfl (lv_at hl 0 rfl) ?_
      refine eg_RX12_57 hC hS h dX12_startAnew_131 (fun t_131 h => ?_)
      refine lv_bipush (v := 30) hx hb dX12_startAnew_134 (by decide) ?_
      refine lv_aload_n hx hb dX12_startAnew_136 rfl (lv_at hl 0 rfl) ?_
      refine eg_RX12_274 hC hS h dX12_startAnew_137 (fun t_137 h => ?_)
      refine lv_imul hx hb dX12_startAnew_140 ?_
      refine ez_top h (fun t_140 h => ?_)
      refine lv_iload_n hx hb dX12_startAnew_141 rfl (lv_at hl 1 rfl) ?_
      refine lv_iadd hx hb dX12_startAnew_142 ?_
      refine ez_top h (fun t_142 h => ?_)
      refine ez_ial hC hS h dX12_startAnew_143 (fun t_143 h => ?_)
      refine ez_ias hC hS h dX12_startAnew_144 (fun σ H locs hS h => ?_)
      obtain ⟨t_145, e_145, h⟩ := ez_let_sp h
      refine lv_iinc (v := t_145) (lv' := [(1, .int t_145), (0, .ref (B + h0))]) hx hb dX12_startAnew_145 hl (k := 1) rfl (by rw [e_145]; rfl) (by decide) rfl (fun ls hl => ?_)
      refine lv_goto (tgt := 112) hx hb dX12_startAnew_148 (by decide) ?_
      exact hk_112 σ h0 t_145 _ _ _ hS h (lv_sub hl [1, 0] rfl)
  have E_112 : ∀ (σ : ez_H) (h0 : Nat) (x1 : Int32) (H : Heap) (locs : List Loc) (ls : Array Slot), ez_S X B s.heap (σ0.length) σ H locs → (ez_fix (fun _ _ _ => none) (z_X12_startAnew_112) ez_N) σ h0 x1 = some z → lv_has ls 2 [(0, .ref (B + h0)), (1, .int x1)] → W p l e R s m args below meth c H locs 0 0 Q (F0 m 112 ls []) := ez_fix_ind (fun k_112 : ez_H → Nat → Int32 → Option (Unit × ez_H) => ∀ (σ : ez_H) (h0 : Nat) (x1 : Int32) (H : Heap) (locs : List Loc) (ls : Array Slot), ez_S X B s.heap (σ0.length) σ H locs → k_112 σ h0 x1 = some z → lv_has ls 2 [(0, .ref (B + h0)), (1, .int x1)] → W p l e R s m args below meth c H locs 0 0 Q (F0 m 112 ls [])) (fun _ _ _ _ _ _ _ h _ => by cases h) (fun k_112 hk_112 => K_112 k_112 hk_112) ez_N
  have K_72 : ∀ (k_72 : ez_H → Nat → Int32 → Option (Unit × ez_H)) (hk_72 : ∀ (σ : ez_H) (h0 : Nat) (x1 : Int32) (H : Heap) (locs : List Loc) (ls : Array Slot), ez_S X B s.heap (σ0.length) σ H locs → k_72 σ h0 x1 = some z → lv_has ls 2 [(0, .ref (B + h0)), (1, .int x1)] → W p l e R s m args below meth c H locs 0 0 Q (F0 m 72 ls [])), ∀ (σ : ez_H) (h0 : Nat) (x1 : Int32) (H : Heap) (locs : List Loc) (ls : Array Slot), ez_S X B s.heap (σ0.length) σ H locs → z_X12_startAnew_72 k_72 σ h0 x1 = some z → lv_has ls 2 [(0, .ref (B + h0)), (1, .int x1)] → W p l e R s m args below meth c H locs 0 0 Q (F0 m 72 ls []) := by
    intro k_72 hk_72 σ h0 x1 H locs ls hS h hl
    refine lv_iload_n hx hb dX12_startAnew_72 rfl (lv_at hl 1 rfl) ?_
    refine lv_aload_n hx hb dX12_startAnew_73 rfl (lv_at hl 0 rfl) ?_
    refine ez_cVpi (As := []) (rest := [.int x1]) h (fun _ q => c_X12_many q) hC k_X12_many ql_RX12_404 rfl (by decide) hS (fun _ q => ez_rcv q) rfl hl.1 rfl (Nat.le_of_ble_eq_true rfl) ⟨Nat.zero_le _, Nat.zero_le _⟩ dX12_startAnew_74 (fun t_74 H locs hS h => ?_)
    refine lv_iconst (v := 5) hx hb dX12_startAnew_77 (by decide) ?_
    refine lv_imul hx hb dX12_startAnew_78 ?_
    refine ez_top h (fun t_78 h => ?_)
    refine lv_icmp_ge (tgt := 110) hx hb dX12_startAnew_79 (by decide) (fun c_79 => ?_) (fun c_79 => ?_)
    · replace h := ez_ifp h c_79
      refine lv_iconst (v := 0) hx hb dX12_startAnew_110 (by decide) ?_
      refine lv_istore_n (lv' := [(1, .int 0), (0, .ref (B + h0))]) hx hb dX12_startAnew_111 rfl hl (by decide) rfl (fun ls hl => ?_)
      exact E_112  σ h0 (0 : Int32) _ _ _ hS h (lv_sub hl [1, 0] rfl)
    · replace h := ez_ifn h c_79
      refine lv_aload_n hx hb dX12_startAnew_82 rfl (lv_at hl 0 rfl) ?_
      refine eg_RX12_118 hC hS h dX12_startAnew_83 (fun t_83 h => ?_)
      refine lv_iconst (v := 0) hx hb dX12_startAnew_86 (by decide) ?_
      refine lv_iload_n hx hb dX12_startAnew_87 rfl (lv_at hl 1 rfl) ?_
      refine lv_iadd hx hb dX12_startAnew_88 ?_
      refine ez_top h (fun t_88 h => ?_)
      refine lv_aload_n hx hb dX12_startAnew_89 rfl (lv_at hl 0 rfl) ?_
      refine eg_RX12_54 hC hS h dX12_startAnew_90 (fun t_90 h => ?_)
      refine lv_bipush (v := 40) hx hb dX12_startAnew_93 (by decide) ?_
      refine lv_aload_n hx hb dX12_startAnew_95 rfl (lv_at hl 0 rfl) ?_
      refine eg_RX12_274 hC hS h dX12_startAnew_96 (fun t_96 h => ?_)
      refine lv_imul hx hb dX12_startAnew_99 ?_
      refine ez_top h (fun t_99 h => ?_)
      refine lv_iload_n hx hb dX12_startAnew_100 rfl (lv_at hl 1 rfl) ?_
      refine lv_iadd hx hb dX12_startAnew_101 ?_
      refine ez_top h (fun t_101 h => ?_)
      refine ez_ial hC hS h dX12_startAnew_102 (fun t_102 h => ?_)
      refine ez_ias hC hS h dX12_startAnew_103 (fun σ H locs hS h => ?_)
      obtain ⟨t_104, e_104, h⟩ := ez_let_sp h
      refine lv_iinc (v := t_104) (lv' := [(1, .int t_104), (0, .ref (B + h0))]) hx hb dX12_startAnew_104 hl (k := 1) rfl (by rw [e_104]; rfl) (by decide) rfl (fun ls hl => ?_)
      refine lv_goto (tgt := 72) hx hb dX12_startAnew_107 (by decide) ?_
      exact hk_72 σ h0 t_104 _ _ _ hS h (lv_sub hl [1, 0] rfl)
  have E_72 : ∀ (σ : ez_H) (h0 : Nat) (x1 : Int32) (H : Heap) (locs : List Loc) (ls : Array Slot), ez_S X B s.heap (σ0.length) σ H locs → (ez_fix (fun _ _ _ => none) (z_X12_startAnew_72) ez_N) σ h0 x1 = some z → lv_has ls 2 [(0, .ref (B + h0)), (1, .int x1)] → W p l e R s m args below meth c H locs 0 0 Q (F0 m 72 ls []) := ez_fix_ind (fun k_72 : ez_H → Nat → Int32 → Option (Unit × ez_H) => ∀ (σ : ez_H) (h0 : Nat) (x1 : Int32) (H : Heap) (locs : List Loc) (ls : Array Slot), ez_S X B s.heap (σ0.length) σ H locs → k_72 σ h0 x1 = some z → lv_has ls 2 [(0, .ref (B + h0)), (1, .int x1)] → W p l e R s m args below meth c H locs 0 0 Q (F0 m 72 ls [])) (fun _ _ _ _ _ _ _ h _ => by cases h) (fun k_72 hk_72 => K_72 k_72 hk_72) ez_N
  have K_63 : ∀ (k_23 : ez_H → Nat → Int32 → Option (Unit × ez_H)) (hk_23 : ∀ (σ : ez_H) (h0 : Nat) (x1 : Int32) (H : Heap) (locs : List Loc) (ls : Array Slot), ez_S X B s.heap (σ0.length) σ H locs → k_23 σ h0 x1 = some z → lv_has ls 2 [(0, .ref (B + h0)), (1, .int x1)] → W p l e R s m args below meth c H locs 0 0 Q (F0 m 23 ls [])), ∀ (σ : ez_H) (h0 : Nat) (x1 : Int32) (y0 : Nat) (y1 : Int32) (y2 : Int32) (H : Heap) (locs : List Loc) (ls : Array Slot), ez_S X B s.heap (σ0.length) σ H locs → z_X12_startAnew_63 k_23 σ h0 x1 y0 y1 y2 = some z → lv_has ls 2 [(0, .ref (B + h0)), (1, .int x1)] → W p l e R s m args below meth c H locs 0 0 Q (F0 m 63 ls [.int y2, .int y1, .ref (B + y0)]) := by
    intro k_23 hk_23 σ h0 x1 y0 y1 y2 H locs ls hS h hl
    refine ez_ias hC hS h dX12_startAnew_63 (fun σ H locs hS h => ?_)
    obtain ⟨t_64, e_64, h⟩ := ez_let_sp h
    refine lv_iinc (v := t_64) (lv' := [(1, .int t_64), (0, .ref (B + h0))]) hx hb dX12_startAnew_64 hl (k := 1) rfl (by rw [e_64]; rfl) (by decide) rfl (fun ls hl => ?_)
    refine lv_goto (tgt := 23) hx hb dX12_startAnew_67 (by decide) ?_
    exact hk_23 σ h0 t_64 _ _ _ hS h (lv_sub hl [1, 0] rfl)
  have K_23 : ∀ (k_23 : ez_H → Nat → Int32 → Option (Unit × ez_H)) (hk_23 : ∀ (σ : ez_H) (h0 : Nat) (x1 : Int32) (H : Heap) (locs : List Loc) (ls : Array Slot), ez_S X B s.heap (σ0.length) σ H locs → k_23 σ h0 x1 = some z → lv_has ls 2 [(0, .ref (B + h0)), (1, .int x1)] → W p l e R s m args below meth c H locs 0 0 Q (F0 m 23 ls [])), ∀ (σ : ez_H) (h0 : Nat) (x1 : Int32) (H : Heap) (locs : List Loc) (ls : Array Slot), ez_S X B s.heap (σ0.length) σ H locs → z_X12_startAnew_23 k_23 σ h0 x1 = some z → lv_has ls 2 [(0, .ref (B + h0)), (1, .int x1)] → W p l e R s m args below meth c H locs 0 0 Q (F0 m 23 ls []) := by
    intro k_23 hk_23 σ h0 x1 H locs ls hS h hl
    refine lv_iload_n hx hb dX12_startAnew_23 rfl (lv_at hl 1 rfl) ?_
    refine lv_bipush (v := 8) hx hb dX12_startAnew_24 (by decide) ?_
    refine lv_icmp_ge (tgt := 70) hx hb dX12_startAnew_26 (by decide) (fun c_26 => ?_) (fun c_26 => ?_)
    · replace h := ez_ifp h c_26
      refine lv_iconst (v := 0) hx hb dX12_startAnew_70 (by decide) ?_
      refine lv_istore_n (lv' := [(1, .int 0), (0, .ref (B + h0))]) hx hb dX12_startAnew_71 rfl hl (by decide) rfl (fun ls hl => ?_)
      exact E_72  σ h0 (0 : Int32) _ _ _ hS h (lv_sub hl [1, 0] rfl)
    · replace h := ez_ifn h c_26
      refine lv_aload_n hx hb dX12_startAnew_29 rfl (lv_at hl 0 rfl) ?_
      refine eg_RX12_118 hC hS h dX12_startAnew_30 (fun t_30 h => ?_)
      refine lv_bipush (v := 48) hx hb dX12_startAnew_33 (by decide) ?_
      refine lv_iload_n hx hb dX12_startAnew_35 rfl (lv_at hl 1 rfl) ?_
      refine lv_iadd hx hb dX12_startAnew_36 ?_
      refine ez_top h (fun t_36 h => ?_)
      refine lv_iload_n hx hb dX12_startAnew_37 rfl (lv_at hl 1 rfl) ?_
      refine lv_aload_n hx hb dX12_startAnew_38 rfl (lv_at hl 0 rfl) ?_
      refine ez_cVpi (As := []) (rest := [.int x1, .int t_36, .ref (B + t_30)]) h (fun _ q => c_X12_many q) hC k_X12_many ql_RX12_404 rfl (by decide) hS (fun _ q => ez_rcv q) rfl hl.1 rfl (Nat.le_of_ble_eq_true rfl) ⟨Nat.zero_le _, Nat.zero_le _⟩ dX12_startAnew_39 (fun t_39 H locs hS h => ?_)
      refine lv_icmp_ge (tgt := 62) hx hb dX12_startAnew_42 (by decide) (fun c_42 => ?_) (fun c_42 => ?_)
      · replace h := ez_ifp h c_42
        refine lv_iconst (v := -1) hx hb dX12_startAnew_62 (by decide) ?_
        exact K_63 k_23 hk_23 σ h0 x1 t_30 t_36 (-1 : Int32) _ _ _ hS h (lv_sub hl [0, 1] rfl)
      · replace h := ez_ifn h c_42
        refine lv_aload_n hx hb dX12_startAnew_45 rfl (lv_at hl 0 rfl) ?_
        refine eg_RX12_72 hC hS h dX12_startAnew_46 (fun t_46 h => ?_)
        refine lv_bipush (v := 8) hx hb dX12_startAnew_49 (by decide) ?_
        refine lv_aload_n hx hb dX12_startAnew_51 rfl (lv_at hl 0 rfl) ?_
        refine eg_RX12_274 hC hS h dX12_startAnew_52 (fun t_52 h => ?_)
        refine lv_imul hx hb dX12_startAnew_55 ?_
        refine ez_top h (fun t_55 h => ?_)
        refine lv_iload_n hx hb dX12_startAnew_56 rfl (lv_at hl 1 rfl) ?_
        refine lv_iadd hx hb dX12_startAnew_57 ?_
        refine ez_top h (fun t_57 h => ?_)
        refine ez_ial hC hS h dX12_startAnew_58 (fun t_58 h => ?_)
        refine lv_goto (tgt := 63) hx hb dX12_startAnew_59 (by decide) ?_
        exact K_63 k_23 hk_23 σ h0 x1 t_30 t_36 t_58 _ _ _ hS h (lv_sub hl [0, 1] rfl)
  have E_23 : ∀ (σ : ez_H) (h0 : Nat) (x1 : Int32) (H : Heap) (locs : List Loc) (ls : Array Slot), ez_S X B s.heap (σ0.length) σ H locs → (ez_fix (fun _ _ _ => none) (z_X12_startAnew_23) ez_N) σ h0 x1 = some z → lv_has ls 2 [(0, .ref (B + h0)), (1, .int x1)] → W p l e R s m args below meth c H locs 0 0 Q (F0 m 23 ls []) := ez_fix_ind (fun k_23 : ez_H → Nat → Int32 → Option (Unit × ez_H) => ∀ (σ : ez_H) (h0 : Nat) (x1 : Int32) (H : Heap) (locs : List Loc) (ls : Array Slot), ez_S X B s.heap (σ0.length) σ H locs → k_23 σ h0 x1 = some z → lv_has ls 2 [(0, .ref (B + h0)), (1, .int x1)] → W p l e R s m args below meth c H locs 0 0 Q (F0 m 23 ls [])) (fun _ _ _ _ _ _ _ h _ => by cases h) (fun k_23 hk_23 => K_23 k_23 hk_23) ez_N
  have K_2 : ∀ (k_2 : ez_H → Nat → Int32 → Option (Unit × ez_H)) (hk_2 : ∀ (σ : ez_H) (h0 : Nat) (x1 : Int32) (H : Heap) (locs : List Loc) (ls : Array Slot), ez_S X B s.heap (σ0.length) σ H locs → k_2 σ h0 x1 = some z → lv_has ls 2 [(0, .ref (B + h0)), (1, .int x1)] → W p l e R s m args below meth c H locs 0 0 Q (F0 m 2 ls [])), ∀ (σ : ez_H) (h0 : Nat) (x1 : Int32) (H : Heap) (locs : List Loc) (ls : Array Slot), ez_S X B s.heap (σ0.length) σ H locs → z_X12_startAnew_2 k_2 σ h0 x1 = some z → lv_has ls 2 [(0, .ref (B + h0)), (1, .int x1)] → W p l e R s m args below meth c H locs 0 0 Q (F0 m 2 ls []) := by
    intro k_2 hk_2 σ h0 x1 H locs ls hS h hl
    refine lv_iload_n hx hb dX12_startAnew_2 rfl (lv_at hl 1 rfl) ?_
    refine lv_bipush (v := 91) hx hb dX12_startAnew_3 (by decide) ?_
    refine lv_icmp_ge (tgt := 21) hx hb dX12_startAnew_5 (by decide) (fun c_5 => ?_) (fun c_5 => ?_)
    · replace h := ez_ifp h c_5
      refine lv_iconst (v := 0) hx hb dX12_startAnew_21 (by decide) ?_
      refine lv_istore_n (lv' := [(1, .int 0), (0, .ref (B + h0))]) hx hb dX12_startAnew_22 rfl hl (by decide) rfl (fun ls hl => ?_)
      exact E_23  σ h0 (0 : Int32) _ _ _ hS h (lv_sub hl [1, 0] rfl)
    · replace h := ez_ifn h c_5
      refine lv_aload_n hx hb dX12_startAnew_8 rfl (lv_at hl 0 rfl) ?_
      refine eg_RX12_118 hC hS h dX12_startAnew_9 (fun t_9 h => ?_)
      refine lv_iload_n hx hb dX12_startAnew_12 rfl (lv_at hl 1 rfl) ?_
      refine lv_iconst (v := 0) hx hb dX12_startAnew_13 (by decide) ?_
      refine ez_ias hC hS h dX12_startAnew_14 (fun σ H locs hS h => ?_)
      obtain ⟨t_15, e_15, h⟩ := ez_let_sp h
      refine lv_iinc (v := t_15) (lv' := [(1, .int t_15), (0, .ref (B + h0))]) hx hb dX12_startAnew_15 hl (k := 1) rfl (by rw [e_15]; rfl) (by decide) rfl (fun ls hl => ?_)
      refine lv_goto (tgt := 2) hx hb dX12_startAnew_18 (by decide) ?_
      exact hk_2 σ h0 t_15 _ _ _ hS h (lv_sub hl [1, 0] rfl)
  have E_2 : ∀ (σ : ez_H) (h0 : Nat) (x1 : Int32) (H : Heap) (locs : List Loc) (ls : Array Slot), ez_S X B s.heap (σ0.length) σ H locs → (ez_fix (fun _ _ _ => none) (z_X12_startAnew_2) ez_N) σ h0 x1 = some z → lv_has ls 2 [(0, .ref (B + h0)), (1, .int x1)] → W p l e R s m args below meth c H locs 0 0 Q (F0 m 2 ls []) := ez_fix_ind (fun k_2 : ez_H → Nat → Int32 → Option (Unit × ez_H) => ∀ (σ : ez_H) (h0 : Nat) (x1 : Int32) (H : Heap) (locs : List Loc) (ls : Array Slot), ez_S X B s.heap (σ0.length) σ H locs → k_2 σ h0 x1 = some z → lv_has ls 2 [(0, .ref (B + h0)), (1, .int x1)] → W p l e R s m args below meth c H locs 0 0 Q (F0 m 2 ls [])) (fun _ _ _ _ _ _ _ h _ => by cases h) (fun k_2 hk_2 => K_2 k_2 hk_2) ez_N
  refine lv_iconst (v := 0) hx hb dX12_startAnew_0 (by decide) ?_
  refine lv_istore_n (lv' := [(1, .int 0), (0, .ref (B + h0))]) hx hb dX12_startAnew_1 rfl hl (by decide) rfl (fun ls hl => ?_)
  exact E_2  σ h0 (0 : Int32) _ _ _ hS h (lv_sub hl [1, 0] rfl)
set_option maxHeartbeats 4000000 in
set_option maxRecDepth 100000 in
theorem c_X12_init {l : Launch} {X : ez_X} {B : Nat} {σ : ez_H} {h0 : Nat} {z : Unit × ez_H} (h : z_X12_init σ h0 = some z) : ez_Mn l X B σ yX12_init cX12_init 1 2 46 10405 [.ref (B + h0)] z.2 := by
  refine ez_startn (z := z) (by decide) rfl (Nat.le_of_ble_eq_true rfl) (fun p e R s m args below meth c Q hC hin hR hsz hret hS ls hl => ?_)
  have hC : ez_C p R s m args c X B RX12 cX12_init 1 2 := hC
  have hx := hC.1.1
  have hb := hC.1.2.1
  have hown := hC.1.2.2.2.1
  have hts := hC.1.2.2.2.2
  have hl : lv_has ls 1 [(0, .ref (B + h0))] := hl
  have hB : B ≤ s.heap.size := by omega
  obtain ⟨σ0, eσ⟩ : ∃ σ0 : ez_H, σ0 = σ := ⟨_, rfl⟩
  rw [← eσ] at hret
  have hS : ez_S X B s.heap σ0.length σ s.heap [] := eσ ▸ hS
  have hsz : s.heap.size + 0 = B + σ0.length := eσ ▸ hsz
  obtain ⟨-, h⟩ := ez_in h
  refine lv_aload_n hx hb dX12_init_0 rfl (lv_at hl 0 rfl) ?_
  refine ez_obj hC ql_RX12_1 hl.1 rfl (by decide) dX12_init_1 ?_
  refine lv_aload_n hx hb dX12_init_4 rfl (lv_at hl 0 rfl) ?_
  refine lv_sipush (v := 1620) hx hb dX12_init_5 (by decide) ?_
  refine ez_newa (k := 0) (N := 1620) (ty := .byte) (atype := .byte) (c1 := 1) (s1 := 1620) (n1 := σ0.length + 1) hC hB hS hsz rfl rfl (fun _ _ h9 => h9) rfl qw_byte (by decide) (by decide) (by decide) rfl rfl rfl (Nat.le_trans (by decide) hR.1) (Nat.le_trans (by decide) hR.2) h dX12_init_8 (fun t_8 σ H hS hsz h => ?_)
  refine eF_RX12_7 hin hC hS h dX12_init_10 (fun σ H locs hS h => ?_)
  refine lv_aload_n hx hb dX12_init_13 rfl (lv_at hl 0 rfl) ?_
  refine lv_sipush (v := 1600) hx hb dX12_init_14 (by decide) ?_
  refine ez_newa (k := 0) (N := 1600) (ty := .byte) (atype := .byte) (c1 := 2) (s1 := 3220) (n1 := σ0.length + 2) hC hB hS hsz rfl rfl (fun _ _ h9 => h9) rfl qw_byte (by decide) (by decide) (by decide) rfl rfl rfl (Nat.le_trans (by decide) hR.1) (Nat.le_trans (by decide) hR.2) h dX12_init_17 (fun t_17 σ H hS hsz h => ?_)
  refine eF_RX12_13 hin hC hS h dX12_init_19 (fun σ H locs hS h => ?_)
  refine lv_aload_n hx hb dX12_init_22 rfl (lv_at hl 0 rfl) ?_
  refine lv_iconst (v := -1) hx hb dX12_init_23 (by decide) ?_
  refine ep_RX12_16 hC hS h dX12_init_24 (fun σ H locs hS h => ?_)
  refine lv_aload_n hx hb dX12_init_27 rfl (lv_at hl 0 rfl) ?_
  refine lv_iconst (v := 2) hx hb dX12_init_28 (by decide) ?_
  refine ez_newa (k := 1) (N := 2) (ty := .int) (atype := .int) (c1 := 3) (s1 := 3222) (n1 := σ0.length + 3) hC hB hS hsz rfl rfl (fun _ _ h9 => h9) rfl qw_int (by decide) (by decide) (by decide) rfl rfl rfl (Nat.le_trans (by decide) hR.1) (Nat.le_trans (by decide) hR.2) h dX12_init_29 (fun t_29 σ H hS hsz h => ?_)
  refine eF_RX12_20 hin hC hS h dX12_init_31 (fun σ H locs hS h => ?_)
  refine lv_aload_n hx hb dX12_init_34 rfl (lv_at hl 0 rfl) ?_
  refine lv_iconst (v := 2) hx hb dX12_init_35 (by decide) ?_
  refine ez_newa (k := 1) (N := 2) (ty := .int) (atype := .int) (c1 := 4) (s1 := 3224) (n1 := σ0.length + 4) hC hB hS hsz rfl rfl (fun _ _ h9 => h9) rfl qw_int (by decide) (by decide) (by decide) rfl rfl rfl (Nat.le_trans (by decide) hR.1) (Nat.le_trans (by decide) hR.2) h dX12_init_36 (fun t_36 σ H hS hsz h => ?_)
  refine eF_RX12_24 hin hC hS h dX12_init_38 (fun σ H locs hS h => ?_)
  refine lv_aload_n hx hb dX12_init_41 rfl (lv_at hl 0 rfl) ?_
  refine lv_iconst (v := 2) hx hb dX12_init_42 (by decide) ?_
  refine ez_newa (k := 1) (N := 2) (ty := .int) (atype := .int) (c1 := 5) (s1 := 3226) (n1 := σ0.length + 5) hC hB hS hsz rfl rfl (fun _ _ h9 => h9) rfl qw_int (by decide) (by decide) (by decide) rfl rfl rfl (Nat.le_trans (by decide) hR.1) (Nat.le_trans (by decide) hR.2) h dX12_init_43 (fun t_43 σ H hS hsz h => ?_)
  refine eF_RX12_27 hin hC hS h dX12_init_45 (fun σ H locs hS h => ?_)
  refine lv_aload_n hx hb dX12_init_48 rfl (lv_at hl 0 rfl) ?_
  refine lv_iconst (v := 2) hx hb dX12_init_49 (by decide) ?_
  refine ez_newa (k := 1) (N := 2) (ty := .int) (atype := .int) (c1 := 6) (s1 := 3228) (n1 := σ0.length + 6) hC hB hS hsz rfl rfl (fun _ _ h9 => h9) rfl qw_int (by decide) (by decide) (by decide) rfl rfl rfl (Nat.le_trans (by decide) hR.1) (Nat.le_trans (by decide) hR.2) h dX12_init_50 (fun t_50 σ H hS hsz h => ?_)
  refine eF_RX12_30 hin hC hS h dX12_init_52 (fun σ H locs hS h => ?_)
  refine lv_aload_n hx hb dX12_init_55 rfl (lv_at hl 0 rfl) ?_
  refine lv_iconst (v := 2) hx hb dX12_init_56 (by decide) ?_
  refine ez_newa (k := 1) (N := 2) (ty := .int) (atype := .int) (c1 := 7) (s1 := 3230) (n1 := σ0.length + 7) hC hB hS hsz rfl rfl (fun _ _ h9 => h9) rfl qw_int (by decide) (by decide) (by decide) rfl rfl rfl (Nat.le_trans (by decide) hR.1) (Nat.le_trans (by decide) hR.2) h dX12_init_57 (fun t_57 σ H hS hsz h => ?_)
  refine eF_RX12_33 hin hC hS h dX12_init_59 (fun σ H locs hS h => ?_)
  refine lv_aload_n hx hb dX12_init_62 rfl (lv_at hl 0 rfl) ?_
  refine lv_iconst (v := 2) hx hb dX12_init_63 (by decide) ?_
  refine ez_newa (k := 1) (N := 2) (ty := .int) (atype := .int) (c1 := 8) (s1 := 3232) (n1 := σ0.length + 8) hC hB hS hsz rfl rfl (fun _ _ h9 => h9) rfl qw_int (by decide) (by decide) (by decide) rfl rfl rfl (Nat.le_trans (by decide) hR.1) (Nat.le_trans (by decide) hR.2) h dX12_init_64 (fun t_64 σ H hS hsz h => ?_)
  refine eF_RX12_36 hin hC hS h dX12_init_66 (fun σ H locs hS h => ?_)
  refine lv_aload_n hx hb dX12_init_69 rfl (lv_at hl 0 rfl) ?_
  refine lv_iconst (v := 2) hx hb dX12_init_70 (by decide) ?_
  refine ez_newa (k := 1) (N := 2) (ty := .int) (atype := .int) (c1 := 9) (s1 := 3234) (n1 := σ0.length + 9) hC hB hS hsz rfl rfl (fun _ _ h9 => h9) rfl qw_int (by decide) (by decide) (by decide) rfl rfl rfl (Nat.le_trans (by decide) hR.1) (Nat.le_trans (by decide) hR.2) h dX12_init_71 (fun t_71 σ H hS hsz h => ?_)
  refine eF_RX12_39 hin hC hS h dX12_init_73 (fun σ H locs hS h => ?_)
  refine lv_aload_n hx hb dX12_init_76 rfl (lv_at hl 0 rfl) ?_
  refine lv_iconst (v := 2) hx hb dX12_init_77 (by decide) ?_
  refine ez_newa (k := 1) (N := 2) (ty := .int) (atype := .int) (c1 := 10) (s1 := 3236) (n1 := σ0.length + 10) hC hB hS hsz rfl rfl (fun _ _ h9 => h9) rfl qw_int (by decide) (by decide) (by decide) rfl rfl rfl (Nat.le_trans (by decide) hR.1) (Nat.le_trans (by decide) hR.2) h dX12_init_78 (fun t_78 σ H hS hsz h => ?_)
  refine eF_RX12_42 hin hC hS h dX12_init_80 (fun σ H locs hS h => ?_)
  refine lv_aload_n hx hb dX12_init_83 rfl (lv_at hl 0 rfl) ?_
  refine lv_iconst (v := 2) hx hb dX12_init_84 (by decide) ?_
  refine ez_newa (k := 1) (N := 2) (ty := .int) (atype := .int) (c1 := 11) (s1 := 3238) (n1 := σ0.length + 11) hC hB hS hsz rfl rfl (fun _ _ h9 => h9) rfl qw_int (by decide) (by decide) (by decide) rfl rfl rfl (Nat.le_trans (by decide) hR.1) (Nat.le_trans (by decide) hR.2) h dX12_init_85 (fun t_85 σ H hS hsz h => ?_)
  refine eF_RX12_45 hin hC hS h dX12_init_87 (fun σ H locs hS h => ?_)
  refine lv_aload_n hx hb dX12_init_90 rfl (lv_at hl 0 rfl) ?_
  refine lv_iconst (v := 2) hx hb dX12_init_91 (by decide) ?_
  refine ez_newa (k := 1) (N := 2) (ty := .int) (atype := .int) (c1 := 12) (s1 := 3240) (n1 := σ0.length + 12) hC hB hS hsz rfl rfl (fun _ _ h9 => h9) rfl qw_int (by decide) (by decide) (by decide) rfl rfl rfl (Nat.le_trans (by decide) hR.1) (Nat.le_trans (by decide) hR.2) h dX12_init_92 (fun t_92 σ H hS hsz h => ?_)
  refine eF_RX12_48 hin hC hS h dX12_init_94 (fun σ H locs hS h => ?_)
  refine lv_aload_n hx hb dX12_init_97 rfl (lv_at hl 0 rfl) ?_
  refine lv_iconst (v := 2) hx hb dX12_init_98 (by decide) ?_
  refine ez_newa (k := 1) (N := 2) (ty := .int) (atype := .int) (c1 := 13) (s1 := 3242) (n1 := σ0.length + 13) hC hB hS hsz rfl rfl (fun _ _ h9 => h9) rfl qw_int (by decide) (by decide) (by decide) rfl rfl rfl (Nat.le_trans (by decide) hR.1) (Nat.le_trans (by decide) hR.2) h dX12_init_99 (fun t_99 σ H hS hsz h => ?_)
  refine eF_RX12_51 hin hC hS h dX12_init_101 (fun σ H locs hS h => ?_)
  refine lv_aload_n hx hb dX12_init_104 rfl (lv_at hl 0 rfl) ?_
  refine lv_bipush (v := 80) hx hb dX12_init_105 (by decide) ?_
  refine ez_newa (k := 1) (N := 80) (ty := .int) (atype := .int) (c1 := 14) (s1 := 3322) (n1 := σ0.length + 14) hC hB hS hsz rfl rfl (fun _ _ h9 => h9) rfl qw_int (by decide) (by decide) (by decide) rfl rfl rfl (Nat.le_trans (by decide) hR.1) (Nat.le_trans (by decide) hR.2) h dX12_init_107 (fun t_107 σ H hS hsz h => ?_)
  refine eF_RX12_54 hin hC hS h dX12_init_109 (fun σ H locs hS h => ?_)
  refine lv_aload_n hx hb dX12_init_112 rfl (lv_at hl 0 rfl) ?_
  refine lv_bipush (v := 60) hx hb dX12_init_113 (by decide) ?_
  refine ez_newa (k := 1) (N := 60) (ty := .int) (atype := .int) (c1 := 15) (s1 := 3382) (n1 := σ0.length + 15) hC hB hS hsz rfl rfl (fun _ _ h9 => h9) rfl qw_int (by decide) (by decide) (by decide) rfl rfl rfl (Nat.le_trans (by decide) hR.1) (Nat.le_trans (by decide) hR.2) h dX12_init_115 (fun t_115 σ H hS hsz h => ?_)
  refine eF_RX12_57 hin hC hS h dX12_init_117 (fun σ H locs hS h => ?_)
  refine lv_aload_n hx hb dX12_init_120 rfl (lv_at hl 0 rfl) ?_
  refine lv_bipush (v := 16) hx hb dX12_init_121 (by decide) ?_
  refine ez_newa (k := 1) (N := 16) (ty := .int) (atype := .int) (c1 := 16) (s1 := 3398) (n1 := σ0.length + 16) hC hB hS hsz rfl rfl (fun _ _ h9 => h9) rfl qw_int (by decide) (by decide) (by decide) rfl rfl rfl (Nat.le_trans (by decide) hR.1) (Nat.le_trans (by decide) hR.2) h dX12_init_123 (fun t_123 σ H hS hsz h => ?_)
  refine eF_RX12_60 hin hC hS h dX12_init_125 (fun σ H locs hS h => ?_)
  refine lv_aload_n hx hb dX12_init_128 rfl (lv_at hl 0 rfl) ?_
  refine lv_bipush (v := 16) hx hb dX12_init_129 (by decide) ?_
  refine ez_newa (k := 1) (N := 16) (ty := .int) (atype := .int) (c1 := 17) (s1 := 3414) (n1 := σ0.length + 17) hC hB hS hsz rfl rfl (fun _ _ h9 => h9) rfl qw_int (by decide) (by decide) (by decide) rfl rfl rfl (Nat.le_trans (by decide) hR.1) (Nat.le_trans (by decide) hR.2) h dX12_init_131 (fun t_131 σ H hS hsz h => ?_)
  refine eF_RX12_63 hin hC hS h dX12_init_133 (fun σ H locs hS h => ?_)
  refine lv_aload_n hx hb dX12_init_136 rfl (lv_at hl 0 rfl) ?_
  refine lv_bipush (v := 16) hx hb dX12_init_137 (by decide) ?_
  refine ez_newa (k := 1) (N := 16) (ty := .int) (atype := .int) (c1 := 18) (s1 := 3430) (n1 := σ0.length + 18) hC hB hS hsz rfl rfl (fun _ _ h9 => h9) rfl qw_int (by decide) (by decide) (by decide) rfl rfl rfl (Nat.le_trans (by decide) hR.1) (Nat.le_trans (by decide) hR.2) h dX12_init_139 (fun t_139 σ H hS hsz h => ?_)
  refine eF_RX12_66 hin hC hS h dX12_init_141 (fun σ H locs hS h => ?_)
  refine lv_aload_n hx hb dX12_init_144 rfl (lv_at hl 0 rfl) ?_
  refine lv_bipush (v := 8) hx hb dX12_init_145 (by decide) ?_
  refine ez_newa (k := 1) (N := 8) (ty := .int) (atype := .int) (c1 := 19) (s1 := 3438) (n1 := σ0.length + 19) hC hB hS hsz rfl rfl (fun _ _ h9 => h9) rfl qw_int (by decide) (by decide) (by decide) rfl rfl rfl (Nat.le_trans (by decide) hR.1) (Nat.le_trans (by decide) hR.2) h dX12_init_147 (fun t_147 σ H hS hsz h => ?_)
  refine eF_RX12_69 hin hC hS h dX12_init_149 (fun σ H locs hS h => ?_)
  refine lv_aload_n hx hb dX12_init_152 rfl (lv_at hl 0 rfl) ?_
  refine lv_bipush (v := 16) hx hb dX12_init_153 (by decide) ?_
  refine ez_newa (k := 1) (N := 16) (ty := .int) (atype := .int) (c1 := 20) (s1 := 3454) (n1 := σ0.length + 20) hC hB hS hsz rfl rfl (fun _ _ h9 => h9) rfl qw_int (by decide) (by decide) (by decide) rfl rfl rfl (Nat.le_trans (by decide) hR.1) (Nat.le_trans (by decide) hR.2) h dX12_init_155 (fun t_155 σ H hS hsz h => ?_)
  refine eF_RX12_72 hin hC hS h dX12_init_157 (fun σ H locs hS h => ?_)
  refine lv_aload_n hx hb dX12_init_160 rfl (lv_at hl 0 rfl) ?_
  refine lv_bipush (v := 12) hx hb dX12_init_161 (by decide) ?_
  refine ez_newa (k := 1) (N := 12) (ty := .int) (atype := .int) (c1 := 21) (s1 := 3466) (n1 := σ0.length + 21) hC hB hS hsz rfl rfl (fun _ _ h9 => h9) rfl qw_int (by decide) (by decide) (by decide) rfl rfl rfl (Nat.le_trans (by decide) hR.1) (Nat.le_trans (by decide) hR.2) h dX12_init_163 (fun t_163 σ H hS hsz h => ?_)
  refine eF_RX12_75 hin hC hS h dX12_init_165 (fun σ H locs hS h => ?_)
  refine lv_aload_n hx hb dX12_init_168 rfl (lv_at hl 0 rfl) ?_
  refine lv_bipush (v := 12) hx hb dX12_init_169 (by decide) ?_
  refine ez_newa (k := 1) (N := 12) (ty := .int) (atype := .int) (c1 := 22) (s1 := 3478) (n1 := σ0.length + 22) hC hB hS hsz rfl rfl (fun _ _ h9 => h9) rfl qw_int (by decide) (by decide) (by decide) rfl rfl rfl (Nat.le_trans (by decide) hR.1) (Nat.le_trans (by decide) hR.2) h dX12_init_171 (fun t_171 σ H hS hsz h => ?_)
  refine eF_RX12_78 hin hC hS h dX12_init_173 (fun σ H locs hS h => ?_)
  refine lv_aload_n hx hb dX12_init_176 rfl (lv_at hl 0 rfl) ?_
  refine lv_iconst (v := 2) hx hb dX12_init_177 (by decide) ?_
  refine ez_newa (k := 1) (N := 2) (ty := .int) (atype := .int) (c1 := 23) (s1 := 3480) (n1 := σ0.length + 23) hC hB hS hsz rfl rfl (fun _ _ h9 => h9) rfl qw_int (by decide) (by decide) (by decide) rfl rfl rfl (Nat.le_trans (by decide) hR.1) (Nat.le_trans (by decide) hR.2) h dX12_init_178 (fun t_178 σ H hS hsz h => ?_)
  refine eF_RX12_81 hin hC hS h dX12_init_180 (fun σ H locs hS h => ?_)
  refine lv_aload_n hx hb dX12_init_183 rfl (lv_at hl 0 rfl) ?_
  refine lv_iconst (v := 2) hx hb dX12_init_184 (by decide) ?_
  refine ez_newa (k := 1) (N := 2) (ty := .int) (atype := .int) (c1 := 24) (s1 := 3482) (n1 := σ0.length + 24) hC hB hS hsz rfl rfl (fun _ _ h9 => h9) rfl qw_int (by decide) (by decide) (by decide) rfl rfl rfl (Nat.le_trans (by decide) hR.1) (Nat.le_trans (by decide) hR.2) h dX12_init_185 (fun t_185 σ H hS hsz h => ?_)
  refine eF_RX12_84 hin hC hS h dX12_init_187 (fun σ H locs hS h => ?_)
  refine lv_aload_n hx hb dX12_init_190 rfl (lv_at hl 0 rfl) ?_
  refine lv_bipush (v := 16) hx hb dX12_init_191 (by decide) ?_
  refine ez_newl (N := 16) (c1 := 25) (s1 := 3498) (n1 := σ0.length + 25) hC hB hS hsz qw_long (by decide) (by decide) (by decide) rfl rfl rfl (Nat.le_trans (by decide) hR.1) (Nat.le_trans (by decide) hR.2) h dX12_init_193 (fun t_193 σ H hS hsz h => ?_)
  refine eF_RX12_87 hin hC hS h dX12_init_195 (fun σ H locs hS h => ?_)
  refine lv_aload_n hx hb dX12_init_198 rfl (lv_at hl 0 rfl) ?_
  refine lv_bipush (v := 12) hx hb dX12_init_199 (by decide) ?_
  refine ez_newl (N := 12) (c1 := 26) (s1 := 3510) (n1 := σ0.length + 26) hC hB hS hsz qw_long (by decide) (by decide) (by decide) rfl rfl rfl (Nat.le_trans (by decide) hR.1) (Nat.le_trans (by decide) hR.2) h dX12_init_201 (fun t_201 σ H hS hsz h => ?_)
  refine eF_RX12_91 hin hC hS h dX12_init_203 (fun σ H locs hS h => ?_)
  refine lv_aload_n hx hb dX12_init_206 rfl (lv_at hl 0 rfl) ?_
  refine lv_bipush (v := 12) hx hb dX12_init_207 (by decide) ?_
  refine ez_newl (N := 12) (c1 := 27) (s1 := 3522) (n1 := σ0.length + 27) hC hB hS hsz qw_long (by decide) (by decide) (by decide) rfl rfl rfl (Nat.le_trans (by decide) hR.1) (Nat.le_trans (by decide) hR.2) h dX12_init_209 (fun t_209 σ H hS hsz h => ?_)
  refine eF_RX12_94 hin hC hS h dX12_init_211 (fun σ H locs hS h => ?_)
  refine lv_aload_n hx hb dX12_init_214 rfl (lv_at hl 0 rfl) ?_
  refine lv_bipush (v := 16) hx hb dX12_init_215 (by decide) ?_
  refine ez_newl (N := 16) (c1 := 28) (s1 := 3538) (n1 := σ0.length + 28) hC hB hS hsz qw_long (by decide) (by decide) (by decide) rfl rfl rfl (Nat.le_trans (by decide) hR.1) (Nat.le_trans (by decide) hR.2) h dX12_init_217 (fun t_217 σ H hS hsz h => ?_)
  refine eF_RX12_97 hin hC hS h dX12_init_219 (fun σ H locs hS h => ?_)
  refine lv_aload_n hx hb dX12_init_222 rfl (lv_at hl 0 rfl) ?_
  refine lv_bipush (v := 8) hx hb dX12_init_223 (by decide) ?_
  refine ez_newl (N := 8) (c1 := 29) (s1 := 3546) (n1 := σ0.length + 29) hC hB hS hsz qw_long (by decide) (by decide) (by decide) rfl rfl rfl (Nat.le_trans (by decide) hR.1) (Nat.le_trans (by decide) hR.2) h dX12_init_225 (fun t_225 σ H hS hsz h => ?_)
  refine eF_RX12_100 hin hC hS h dX12_init_227 (fun σ H locs hS h => ?_)
  refine lv_aload_n hx hb dX12_init_230 rfl (lv_at hl 0 rfl) ?_
  refine lv_sipush (v := 1120) hx hb dX12_init_231 (by decide) ?_
  refine ez_newa (k := 1) (N := 1120) (ty := .int) (atype := .int) (c1 := 30) (s1 := 4666) (n1 := σ0.length + 30) hC hB hS hsz rfl rfl (fun _ _ h9 => h9) rfl qw_int (by decide) (by decide) (by decide) rfl rfl rfl (Nat.le_trans (by decide) hR.1) (Nat.le_trans (by decide) hR.2) h dX12_init_234 (fun t_234 σ H hS hsz h => ?_)
  refine eF_RX12_103 hin hC hS h dX12_init_236 (fun σ H locs hS h => ?_)
  refine lv_aload_n hx hb dX12_init_239 rfl (lv_at hl 0 rfl) ?_
  refine lv_sipush (v := 1120) hx hb dX12_init_240 (by decide) ?_
  refine ez_newa (k := 1) (N := 1120) (ty := .int) (atype := .int) (c1 := 31) (s1 := 5786) (n1 := σ0.length + 31) hC hB hS hsz rfl rfl (fun _ _ h9 => h9) rfl qw_int (by decide) (by decide) (by decide) rfl rfl rfl (Nat.le_trans (by decide) hR.1) (Nat.le_trans (by decide) hR.2) h dX12_init_243 (fun t_243 σ H hS hsz h => ?_)
  refine eF_RX12_106 hin hC hS h dX12_init_245 (fun σ H locs hS h => ?_)
  refine lv_aload_n hx hb dX12_init_248 rfl (lv_at hl 0 rfl) ?_
  refine lv_bipush (v := 90) hx hb dX12_init_249 (by decide) ?_
  refine ez_newa (k := 1) (N := 90) (ty := .int) (atype := .int) (c1 := 32) (s1 := 5876) (n1 := σ0.length + 32) hC hB hS hsz rfl rfl (fun _ _ h9 => h9) rfl qw_int (by decide) (by decide) (by decide) rfl rfl rfl (Nat.le_trans (by decide) hR.1) (Nat.le_trans (by decide) hR.2) h dX12_init_251 (fun t_251 σ H hS hsz h => ?_)
  refine eF_RX12_109 hin hC hS h dX12_init_253 (fun σ H locs hS h => ?_)
  refine lv_aload_n hx hb dX12_init_256 rfl (lv_at hl 0 rfl) ?_
  refine lv_bipush (v := 90) hx hb dX12_init_257 (by decide) ?_
  refine ez_newa (k := 1) (N := 90) (ty := .int) (atype := .int) (c1 := 33) (s1 := 5966) (n1 := σ0.length + 33) hC hB hS hsz rfl rfl (fun _ _ h9 => h9) rfl qw_int (by decide) (by decide) (by decide) rfl rfl rfl (Nat.le_trans (by decide) hR.1) (Nat.le_trans (by decide) hR.2) h dX12_init_259 (fun t_259 σ H hS hsz h => ?_)
  refine eF_RX12_112 hin hC hS h dX12_init_261 (fun σ H locs hS h => ?_)
  refine lv_aload_n hx hb dX12_init_264 rfl (lv_at hl 0 rfl) ?_
  refine lv_bipush (v := 60) hx hb dX12_init_265 (by decide) ?_
  refine ez_newa (k := 1) (N := 60) (ty := .int) (atype := .int) (c1 := 34) (s1 := 6026) (n1 := σ0.length + 34) hC hB hS hsz rfl rfl (fun _ _ h9 => h9) rfl qw_int (by decide) (by decide) (by decide) rfl rfl rfl (Nat.le_trans (by decide) hR.1) (Nat.le_trans (by decide) hR.2) h dX12_init_267 (fun t_267 σ H hS hsz h => ?_)
  refine eF_RX12_115 hin hC hS h dX12_init_269 (fun σ H locs hS h => ?_)
  refine lv_aload_n hx hb dX12_init_272 rfl (lv_at hl 0 rfl) ?_
  refine lv_bipush (v := 91) hx hb dX12_init_273 (by decide) ?_
  refine ez_newa (k := 1) (N := 91) (ty := .int) (atype := .int) (c1 := 35) (s1 := 6117) (n1 := σ0.length + 35) hC hB hS hsz rfl rfl (fun _ _ h9 => h9) rfl qw_int (by decide) (by decide) (by decide) rfl rfl rfl (Nat.le_trans (by decide) hR.1) (Nat.le_trans (by decide) hR.2) h dX12_init_275 (fun t_275 σ H hS hsz h => ?_)
  refine eF_RX12_118 hin hC hS h dX12_init_277 (fun σ H locs hS h => ?_)
  refine lv_aload_n hx hb dX12_init_280 rfl (lv_at hl 0 rfl) ?_
  refine lv_bipush (v := 91) hx hb dX12_init_281 (by decide) ?_
  refine ez_newa (k := 1) (N := 91) (ty := .int) (atype := .int) (c1 := 36) (s1 := 6208) (n1 := σ0.length + 36) hC hB hS hsz rfl rfl (fun _ _ h9 => h9) rfl qw_int (by decide) (by decide) (by decide) rfl rfl rfl (Nat.le_trans (by decide) hR.1) (Nat.le_trans (by decide) hR.2) h dX12_init_283 (fun t_283 σ H hS hsz h => ?_)
  refine eF_RX12_121 hin hC hS h dX12_init_285 (fun σ H locs hS h => ?_)
  refine lv_aload_n hx hb dX12_init_288 rfl (lv_at hl 0 rfl) ?_
  refine lv_bipush (v := 60) hx hb dX12_init_289 (by decide) ?_
  refine ez_newa (k := 1) (N := 60) (ty := .int) (atype := .int) (c1 := 37) (s1 := 6268) (n1 := σ0.length + 37) hC hB hS hsz rfl rfl (fun _ _ h9 => h9) rfl qw_int (by decide) (by decide) (by decide) rfl rfl rfl (Nat.le_trans (by decide) hR.1) (Nat.le_trans (by decide) hR.2) h dX12_init_291 (fun t_291 σ H hS hsz h => ?_)
  refine eF_RX12_124 hin hC hS h dX12_init_293 (fun σ H locs hS h => ?_)
  refine lv_aload_n hx hb dX12_init_296 rfl (lv_at hl 0 rfl) ?_
  refine lv_bipush (v := 6) hx hb dX12_init_297 (by decide) ?_
  refine ez_newa (k := 1) (N := 6) (ty := .int) (atype := .int) (c1 := 38) (s1 := 6274) (n1 := σ0.length + 38) hC hB hS hsz rfl rfl (fun _ _ h9 => h9) rfl qw_int (by decide) (by decide) (by decide) rfl rfl rfl (Nat.le_trans (by decide) hR.1) (Nat.le_trans (by decide) hR.2) h dX12_init_299 (fun t_299 σ H hS hsz h => ?_)
  refine eF_RX12_127 hin hC hS h dX12_init_301 (fun σ H locs hS h => ?_)
  refine lv_aload_n hx hb dX12_init_304 rfl (lv_at hl 0 rfl) ?_
  refine lv_iconst (v := 4) hx hb dX12_init_305 (by decide) ?_
  refine ez_newa (k := 1) (N := 4) (ty := .int) (atype := .int) (c1 := 39) (s1 := 6278) (n1 := σ0.length + 39) hC hB hS hsz rfl rfl (fun _ _ h9 => h9) rfl qw_int (by decide) (by decide) (by decide) rfl rfl rfl (Nat.le_trans (by decide) hR.1) (Nat.le_trans (by decide) hR.2) h dX12_init_306 (fun t_306 σ H hS hsz h => ?_)
  refine eF_RX12_130 hin hC hS h dX12_init_308 (fun σ H locs hS h => ?_)
  refine lv_aload_n hx hb dX12_init_311 rfl (lv_at hl 0 rfl) ?_
  refine lv_sipush (v := 3731) hx hb dX12_init_312 (by decide) ?_
  refine ez_newa (k := 1) (N := 3731) (ty := .int) (atype := .int) (c1 := 40) (s1 := 10009) (n1 := σ0.length + 40) hC hB hS hsz rfl rfl (fun _ _ h9 => h9) rfl qw_int (by decide) (by decide) (by decide) rfl rfl rfl (Nat.le_trans (by decide) hR.1) (Nat.le_trans (by decide) hR.2) h dX12_init_315 (fun t_315 σ H hS hsz h => ?_)
  refine eF_RX12_133 hin hC hS h dX12_init_317 (fun σ H locs hS h => ?_)
  refine lv_aload_n hx hb dX12_init_320 rfl (lv_at hl 0 rfl) ?_
  refine lv_bipush (v := 30) hx hb dX12_init_321 (by decide) ?_
  refine ez_newa (k := 1) (N := 30) (ty := .int) (atype := .int) (c1 := 41) (s1 := 10039) (n1 := σ0.length + 41) hC hB hS hsz rfl rfl (fun _ _ h9 => h9) rfl qw_int (by decide) (by decide) (by decide) rfl rfl rfl (Nat.le_trans (by decide) hR.1) (Nat.le_trans (by decide) hR.2) h dX12_init_323 (fun t_323 σ H hS hsz h => ?_)
  refine eF_RX12_136 hin hC hS h dX12_init_325 (fun σ H locs hS h => ?_)
  refine lv_aload_n hx hb dX12_init_328 rfl (lv_at hl 0 rfl) ?_
  refine lv_bipush (v := 30) hx hb dX12_init_329 (by decide) ?_
  refine ez_newa (k := 1) (N := 30) (ty := .int) (atype := .int) (c1 := 42) (s1 := 10069) (n1 := σ0.length + 42) hC hB hS hsz rfl rfl (fun _ _ h9 => h9) rfl qw_int (by decide) (by decide) (by decide) rfl rfl rfl (Nat.le_trans (by decide) hR.1) (Nat.le_trans (by decide) hR.2) h dX12_init_331 (fun t_331 σ H hS hsz h => ?_)
  refine eF_RX12_139 hin hC hS h dX12_init_333 (fun σ H locs hS h => ?_)
  refine lv_aload_n hx hb dX12_init_336 rfl (lv_at hl 0 rfl) ?_
  refine lv_bipush (v := 30) hx hb dX12_init_337 (by decide) ?_
  refine ez_newa (k := 1) (N := 30) (ty := .int) (atype := .int) (c1 := 43) (s1 := 10099) (n1 := σ0.length + 43) hC hB hS hsz rfl rfl (fun _ _ h9 => h9) rfl qw_int (by decide) (by decide) (by decide) rfl rfl rfl (Nat.le_trans (by decide) hR.1) (Nat.le_trans (by decide) hR.2) h dX12_init_339 (fun t_339 σ H hS hsz h => ?_)
  refine eF_RX12_142 hin hC hS h dX12_init_341 (fun σ H locs hS h => ?_)
  refine lv_aload_n hx hb dX12_init_344 rfl (lv_at hl 0 rfl) ?_
  refine lv_bipush (v := 30) hx hb dX12_init_345 (by decide) ?_
  refine ez_newa (k := 1) (N := 30) (ty := .int) (atype := .int) (c1 := 44) (s1 := 10129) (n1 := σ0.length + 44) hC hB hS hsz rfl rfl (fun _ _ h9 => h9) rfl qw_int (by decide) (by decide) (by decide) rfl rfl rfl (Nat.le_trans (by decide) hR.1) (Nat.le_trans (by decide) hR.2) h dX12_init_347 (fun t_347 σ H hS hsz h => ?_)
  refine eF_RX12_145 hin hC hS h dX12_init_349 (fun σ H locs hS h => ?_)
  refine lv_aload_n hx hb dX12_init_352 rfl (lv_at hl 0 rfl) ?_
  refine lv_sipush (v := 273) hx hb dX12_init_353 (by decide) ?_
  refine ez_newa (k := 1) (N := 273) (ty := .int) (atype := .int) (c1 := 45) (s1 := 10402) (n1 := σ0.length + 45) hC hB hS hsz rfl rfl (fun _ _ h9 => h9) rfl qw_int (by decide) (by decide) (by decide) rfl rfl rfl (Nat.le_trans (by decide) hR.1) (Nat.le_trans (by decide) hR.2) h dX12_init_356 (fun t_356 σ H hS hsz h => ?_)
  refine eF_RX12_148 hin hC hS h dX12_init_358 (fun σ H locs hS h => ?_)
  refine lv_aload_n hx hb dX12_init_361 rfl (lv_at hl 0 rfl) ?_
  refine lv_iconst (v := 3) hx hb dX12_init_362 (by decide) ?_
  refine ez_newa (k := 3) (N := 3) (ty := .boolean) (atype := .boolean) (c1 := 46) (s1 := 10405) (n1 := σ0.length + 46) hC hB hS hsz rfl rfl (fun _ _ h9 => h9) rfl qw_boolean (by decide) (by decide) (by decide) rfl rfl rfl (Nat.le_trans (by decide) hR.1) (Nat.le_trans (by decide) hR.2) h dX12_init_363 (fun t_363 σ H hS hsz h => ?_)
  refine eF_RX12_151 hin hC hS h dX12_init_365 (fun σ H locs hS h => ?_)
  refine lv_aload_n hx hb dX12_init_368 rfl (lv_at hl 0 rfl) ?_
  refine ez_cVv (As := []) (rest := []) h (fun _ q => c_X12_clearBank q) hC k_X12_clearBank ql_RX12_155 rfl (by decide) hS (fun _ q => ez_rcv q) rfl hl.1 rfl (Nat.le_of_ble_eq_true rfl) ⟨Nat.le_trans (by decide) hR.1, Nat.le_trans (by decide) hR.2⟩ dX12_init_369 (fun _ σ H locs hS h => ?_)
  refine lv_aload_n hx hb dX12_init_372 rfl (lv_at hl 0 rfl) ?_
  refine ez_cVv (As := []) (rest := []) h (fun _ q => c_X12_startAnew q) hC k_X12_startAnew ql_RX12_158 rfl (by decide) hS (fun _ q => ez_rcv q) rfl hl.1 rfl (Nat.le_of_ble_eq_true rfl) ⟨Nat.le_trans (by decide) hR.1, Nat.le_trans (by decide) hR.2⟩ dX12_init_373 (fun _ σ H locs hS h => ?_)
  exact hret _ _ _ _ _ _ (Option.some.inj h) hS dX12_init_376
