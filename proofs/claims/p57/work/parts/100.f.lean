set_option maxHeartbeats 4000000 in
set_option maxRecDepth 100000 in
theorem c_X6_reset {l : Launch} {X : ez_X} {B : Nat} {σ : ez_H} {h0 : Nat} {z : Unit × ez_H} (h : z_X6_reset σ h0 = some z) : ez_M l X B σ yX6_reset cX6_reset 1 (none) 0 [.ref (B + h0)] (none) z.2 := by
  refine ez_startv (z := z) (by decide) (Nat.le_of_ble_eq_true rfl) (fun p e R s m args below meth c Q hC hret hS ls hl => ?_)
  have hC : ez_C p R s m args c X B RX6 cX6_reset 1 0 := hC
  have hx := hC.1.1
  have hb := hC.1.2.1
  have hown := hC.1.2.2.2.1
  have hts := hC.1.2.2.2.2
  have hl : lv_has ls 1 [(0, .ref (B + h0))] := hl
  obtain ⟨σ0, eσ⟩ : ∃ σ0 : ez_H, σ0 = σ := ⟨_, rfl⟩
  rw [← eσ] at hret
  have hS : ez_S X B s.heap σ0.length σ s.heap [] := eσ ▸ hS
  obtain ⟨-, h⟩ := ez_in h
  refine lv_aload_n hx hb dX6_reset_0 rfl (lv_at hl 0 rfl) ?_
  refine lv_iconst (v := 5) hx hb dX6_reset_1 (by decide) ?_
  refine ep_RX6_18 hC hS h dX6_reset_2 (fun σ H locs hS h => ?_)
  refine lv_aload_n hx hb dX6_reset_5 rfl (lv_at hl 0 rfl) ?_
  refine lv_bipush (v := 6) hx hb dX6_reset_6 (by decide) ?_
  refine ep_RX6_22 hC hS h dX6_reset_8 (fun σ H locs hS h => ?_)
  refine lv_aload_n hx hb dX6_reset_11 rfl (lv_at hl 0 rfl) ?_
  refine lv_iconst (v := 5) hx hb dX6_reset_12 (by decide) ?_
  refine ep_RX6_25 hC hS h dX6_reset_13 (fun σ H locs hS h => ?_)
  exact hret _ _ _ _ _ _ (Option.some.inj h) hS dX6_reset_16
set_option maxHeartbeats 4000000 in
set_option maxRecDepth 100000 in
theorem c_X6_init {l : Launch} {X : ez_X} {B : Nat} {σ : ez_H} {h0 : Nat} {z : Unit × ez_H} (h : z_X6_init σ h0 = some z) : ez_Mn l X B σ yX6_init cX6_init 1 1 1 30 [.ref (B + h0)] z.2 := by
  refine ez_startn (z := z) (by decide) rfl (Nat.le_of_ble_eq_true rfl) (fun p e R s m args below meth c Q hC hin hR hsz hret hS ls hl => ?_)
  have hC : ez_C p R s m args c X B RX6 cX6_init 1 1 := hC
  have hx := hC.1.1
  have hb := hC.1.2.1
  have hown := hC.1.2.2.2.1
  have hts := hC.1.2.2.2.2
  have hl : lv_has ls 1 [(0, .ref (B + h0))] := hl
  have hB : B ≤ s.heap.size := by omega
  obtain ⟨σ0, eσ⟩ : ∃ σ0 : ez_H, σ0 = σ := ⟨_, rfl⟩
  rw [← eσ] at hret
  have hS : ez_S X B s.heap σ0.length σ s.heap [] := eσ ▸ hS
  have hsz : s.heap.size + 0 = B + σ0.length := eσ ▸ hsz
  obtain ⟨-, h⟩ := ez_in h
  refine lv_aload_n hx hb dX6_init_0 rfl (lv_at hl 0 rfl) ?_
  refine ez_obj hC ql_RX6_3 hl.1 rfl (by decide) dX6_init_1 ?_
  refine lv_aload_n hx hb dX6_init_4 rfl (lv_at hl 0 rfl) ?_
  refine lv_bipush (v := 30) hx hb dX6_init_5 (by decide) ?_
  refine ez_newa (k := 1) (N := 30) (ty := .int) (atype := .int) (c1 := 1) (s1 := 30) (n1 := σ0.length + 1) hC hB hS hsz rfl rfl (fun _ _ h9 => h9) rfl qw_int (by decide) (by decide) (by decide) rfl rfl rfl (Nat.le_trans (by decide) hR.1) (Nat.le_trans (by decide) hR.2) h dX6_init_7 (fun t_7 σ H hS hsz h => ?_)
  refine eF_RX6_9 hin hC hS h dX6_init_9 (fun σ H locs hS h => ?_)
  refine lv_aload_n hx hb dX6_init_12 rfl (lv_at hl 0 rfl) ?_
  refine ez_cVv (As := []) (rest := []) h (fun _ q => c_X6_reset q) hC k_X6_reset ql_RX6_15 rfl (by decide) hS (fun _ q => ez_rcv q) rfl hl.1 rfl (Nat.le_of_ble_eq_true rfl) ⟨Nat.le_trans (by decide) hR.1, Nat.le_trans (by decide) hR.2⟩ dX6_init_13 (fun _ σ H locs hS h => ?_)
  exact hret _ _ _ _ _ _ (Option.some.inj h) hS dX6_init_16
set_option maxHeartbeats 4000000 in
set_option maxRecDepth 100000 in
theorem c_X0_init {l : Launch} {X : ez_X} {B : Nat} {σ : ez_H} {h0 : Nat} {z : Unit × ez_H} (h : z_X0_init σ h0 = some z) : ez_Mn l X B σ yX0_init cX0_init 1 1 3 571 [.ref (B + h0)] z.2 := by
  refine ez_startn (z := z) (by decide) rfl (Nat.le_of_ble_eq_true rfl) (fun p e R s m args below meth c Q hC hin hR hsz hret hS ls hl => ?_)
  have hC : ez_C p R s m args c X B RX0 cX0_init 1 1 := hC
  have hx := hC.1.1
  have hb := hC.1.2.1
  have hown := hC.1.2.2.2.1
  have hts := hC.1.2.2.2.2
  have hl : lv_has ls 1 [(0, .ref (B + h0))] := hl
  have hB : B ≤ s.heap.size := by omega
  obtain ⟨σ0, eσ⟩ : ∃ σ0 : ez_H, σ0 = σ := ⟨_, rfl⟩
  rw [← eσ] at hret
  have hS : ez_S X B s.heap σ0.length σ s.heap [] := eσ ▸ hS
  have hsz : s.heap.size + 0 = B + σ0.length := eσ ▸ hsz
  obtain ⟨-, h⟩ := ez_in h
  refine lv_aload_n hx hb dX0_init_0 rfl (lv_at hl 0 rfl) ?_
  refine ez_obj hC ql_RX0_3 hl.1 rfl (by decide) dX0_init_1 ?_
  refine lv_aload_n hx hb dX0_init_4 rfl (lv_at hl 0 rfl) ?_
  refine lv_iconst (v := 0) hx hb dX0_init_5 (by decide) ?_
  refine ep_RX0_9 hC hS h dX0_init_6 (fun σ H locs hS h => ?_)
  refine lv_aload_n hx hb dX0_init_9 rfl (lv_at hl 0 rfl) ?_
  refine lv_iconst (v := 0) hx hb dX0_init_10 (by decide) ?_
  refine ep_RX0_13 hC hS h dX0_init_11 (fun σ H locs hS h => ?_)
  refine lv_aload_n hx hb dX0_init_14 rfl (lv_at hl 0 rfl) ?_
  refine lv_sipush (v := 270) hx hb dX0_init_15 (by decide) ?_
  refine ez_newa (k := 1) (N := 270) (ty := .int) (atype := .int) (c1 := 1) (s1 := 270) (n1 := σ0.length + 1) hC hB hS hsz rfl rfl (fun _ _ h9 => h9) rfl qw_int (by decide) (by decide) (by decide) rfl rfl rfl (Nat.le_trans (by decide) hR.1) (Nat.le_trans (by decide) hR.2) h dX0_init_18 (fun t_18 σ H hS hsz h => ?_)
  refine eF_RX0_16 hin hC hS h dX0_init_20 (fun σ H locs hS h => ?_)
  refine lv_aload_n hx hb dX0_init_23 rfl (lv_at hl 0 rfl) ?_
  refine lv_sipush (v := 270) hx hb dX0_init_24 (by decide) ?_
  refine ez_newa (k := 1) (N := 270) (ty := .int) (atype := .int) (c1 := 2) (s1 := 540) (n1 := σ0.length + 2) hC hB hS hsz rfl rfl (fun _ _ h9 => h9) rfl qw_int (by decide) (by decide) (by decide) rfl rfl rfl (Nat.le_trans (by decide) hR.1) (Nat.le_trans (by decide) hR.2) h dX0_init_27 (fun t_27 σ H hS hsz h => ?_)
  refine eF_RX0_20 hin hC hS h dX0_init_29 (fun σ H locs hS h => ?_)
  refine lv_aload_n hx hb dX0_init_32 rfl (lv_at hl 0 rfl) ?_
  refine lv_bipush (v := 31) hx hb dX0_init_33 (by decide) ?_
  refine ez_newa (k := 1) (N := 31) (ty := .int) (atype := .int) (c1 := 3) (s1 := 571) (n1 := σ0.length + 3) hC hB hS hsz rfl rfl (fun _ _ h9 => h9) rfl qw_int (by decide) (by decide) (by decide) rfl rfl rfl (Nat.le_trans (by decide) hR.1) (Nat.le_trans (by decide) hR.2) h dX0_init_35 (fun t_35 σ H hS hsz h => ?_)
  refine eF_RX0_23 hin hC hS h dX0_init_37 (fun σ H locs hS h => ?_)
  exact hret _ _ _ _ _ _ (Option.some.inj h) hS dX0_init_40
set_option maxHeartbeats 4000000 in
set_option maxRecDepth 100000 in
theorem c_X7_init {l : Launch} {X : ez_X} {B : Nat} {σ : ez_H} {h0 : Nat} {z : Unit × ez_H} (h : z_X7_init σ h0 = some z) : ez_Mn l X B σ yX7_init cX7_init 1 1 1 35 [.ref (B + h0)] z.2 := by
  refine ez_startn (z := z) (by decide) rfl (Nat.le_of_ble_eq_true rfl) (fun p e R s m args below meth c Q hC hin hR hsz hret hS ls hl => ?_)
  have hC : ez_C p R s m args c X B RX7 cX7_init 1 1 := hC
  have hx := hC.1.1
  have hb := hC.1.2.1
  have hown := hC.1.2.2.2.1
  have hts := hC.1.2.2.2.2
  have hl : lv_has ls 1 [(0, .ref (B + h0))] := hl
  have hB : B ≤ s.heap.size := by omega
  obtain ⟨σ0, eσ⟩ : ∃ σ0 : ez_H, σ0 = σ := ⟨_, rfl⟩
  rw [← eσ] at hret
  have hS : ez_S X B s.heap σ0.length σ s.heap [] := eσ ▸ hS
  have hsz : s.heap.size + 0 = B + σ0.length := eσ ▸ hsz
  obtain ⟨-, h⟩ := ez_in h
  refine lv_aload_n hx hb dX7_init_0 rfl (lv_at hl 0 rfl) ?_
  refine ez_obj hC ql_RX7_5 hl.1 rfl (by decide) dX7_init_1 ?_
  refine lv_aload_n hx hb dX7_init_4 rfl (lv_at hl 0 rfl) ?_
  refine lv_bipush (v := 35) hx hb dX7_init_5 (by decide) ?_
  refine ez_newa (k := 1) (N := 35) (ty := .int) (atype := .int) (c1 := 1) (s1 := 35) (n1 := σ0.length + 1) hC hB hS hsz rfl rfl (fun _ _ h9 => h9) rfl qw_int (by decide) (by decide) (by decide) rfl rfl rfl (Nat.le_trans (by decide) hR.1) (Nat.le_trans (by decide) hR.2) h dX7_init_7 (fun t_7 σ H hS hsz h => ?_)
  refine eF_RX7_11 hin hC hS h dX7_init_9 (fun σ H locs hS h => ?_)
  exact hret _ _ _ _ _ _ (Option.some.inj h) hS dX7_init_12
set_option maxHeartbeats 4000000 in
set_option maxRecDepth 100000 in
theorem c_X3_init {l : Launch} {X : ez_X} {B : Nat} {σ : ez_H} {h0 : Nat} {z : Unit × ez_H} (h : z_X3_init σ h0 = some z) : ez_Mn l X B σ yX3_init cX3_init 1 2 13 682 [.ref (B + h0)] z.2 := by
  refine ez_startn (z := z) (by decide) rfl (Nat.le_of_ble_eq_true rfl) (fun p e R s m args below meth c Q hC hin hR hsz hret hS ls hl => ?_)
  have hC : ez_C p R s m args c X B RX3 cX3_init 1 2 := hC
  have hx := hC.1.1
  have hb := hC.1.2.1
  have hown := hC.1.2.2.2.1
  have hts := hC.1.2.2.2.2
  have hl : lv_has ls 1 [(0, .ref (B + h0))] := hl
  have hB : B ≤ s.heap.size := by omega
  obtain ⟨σ0, eσ⟩ : ∃ σ0 : ez_H, σ0 = σ := ⟨_, rfl⟩
  rw [← eσ] at hret
  have hS : ez_S X B s.heap σ0.length σ s.heap [] := eσ ▸ hS
  have hsz : s.heap.size + 0 = B + σ0.length := eσ ▸ hsz
  obtain ⟨-, h⟩ := ez_in h
  refine lv_aload_n hx hb dX3_init_0 rfl (lv_at hl 0 rfl) ?_
  refine ez_obj hC ql_RX3_3 hl.1 rfl (by decide) dX3_init_1 ?_
  refine lv_aload_n hx hb dX3_init_4 rfl (lv_at hl 0 rfl) ?_
  refine ez_new (ci := 6) (fs := [.inl 0, .inl 0, .inl 0, .inr (.inr none)]) (c1 := 1) (s1 := 4) (n1 := σ0.length + 1) tyX6 hC hB hS hsz rfl inq_6 tyX6_ok qk_RX3_9 qn_6 qi_6 (fun j hj => by rcases (show j = 0 ∨ j = 1 ∨ j = 2 ∨ j = 3 by omega) with rfl | rfl | rfl | rfl <;> rfl) rfl rfl rfl (Nat.le_trans (by decide) hR.1) (Nat.le_trans (by decide) hR.2) h dX3_init_5 (fun t_5 σ H hS hsz h => ?_)
  refine lv_dup hx hb dX3_init_8 rfl ?_
  refine ez_cI (As := []) (rest := [.ref (B + t_5), .ref (B + h0)]) (n' := 0) (c1 := 2) (s1 := 34) (n1 := σ0.length + 2) h (fun _ q => c_X6_init q) hC ki_X6_init rfl (by decide +kernel) ql_RX3_11 rfl (by decide) hS (Nat.succ_pos _) hsz hl.1 rfl (Nat.le_of_ble_eq_true rfl) rfl rfl rfl ⟨Nat.le_trans (by decide) hR.1, Nat.le_trans (by decide) hR.2⟩ dX3_init_9 (fun σ H locs hS hsz h => ?_)
  refine eF_RX3_12 hin hC hS h dX3_init_12 (fun σ H locs hS h => ?_)
  refine lv_aload_n hx hb dX3_init_15 rfl (lv_at hl 0 rfl) ?_
  refine ez_new (ci := 0) (fs := [.inl 0, .inl 0, .inr (.inr none), .inr (.inr none), .inr (.inr none)]) (c1 := 3) (s1 := 39) (n1 := σ0.length + 3) tyX0 hC hB hS hsz rfl inq_0 tyX0_ok qk_RX3_18 qn_0 qi_0 (fun j hj => by rcases (show j = 0 ∨ j = 1 ∨ j = 2 ∨ j = 3 ∨ j = 4 by omega) with rfl | rfl | rfl | rfl | rfl <;> rfl) rfl rfl rfl (Nat.le_trans (by decide) hR.1) (Nat.le_trans (by decide) hR.2) h dX3_init_16 (fun t_16 σ H hS hsz h => ?_)
  refine lv_dup hx hb dX3_init_19 rfl ?_
  refine ez_cI (As := []) (rest := [.ref (B + t_16), .ref (B + h0)]) (n' := 0) (c1 := 6) (s1 := 610) (n1 := σ0.length + 6) h (fun _ q => c_X0_init q) hC ki_X0_init rfl (by decide +kernel) ql_RX3_20 rfl (by decide) hS (Nat.succ_pos _) hsz hl.1 rfl (Nat.le_of_ble_eq_true rfl) rfl rfl rfl ⟨Nat.le_trans (by decide) hR.1, Nat.le_trans (by decide) hR.2⟩ dX3_init_20 (fun σ H locs hS hsz h => ?_)
  refine eF_RX3_21 hin hC hS h dX3_init_23 (fun σ H locs hS h => ?_)
  refine lv_aload_n hx hb dX3_init_26 rfl (lv_at hl 0 rfl) ?_
  refine ez_new (ci := 7) (fs := [.inr (.inr none)]) (c1 := 7) (s1 := 611) (n1 := σ0.length + 7) tyX7 hC hB hS hsz rfl inq_7 tyX7_ok qk_RX3_25 qn_7 qi_7 (fun j hj => by rcases (show j = 0 by omega) with rfl <;> rfl) rfl rfl rfl (Nat.le_trans (by decide) hR.1) (Nat.le_trans (by decide) hR.2) h dX3_init_27 (fun t_27 σ H hS hsz h => ?_)
  refine lv_dup hx hb dX3_init_30 rfl ?_
  refine ez_cI (As := []) (rest := [.ref (B + t_27), .ref (B + h0)]) (n' := 0) (c1 := 8) (s1 := 646) (n1 := σ0.length + 8) h (fun _ q => c_X7_init q) hC ki_X7_init rfl (by decide +kernel) ql_RX3_27 rfl (by decide) hS (Nat.succ_pos _) hsz hl.1 rfl (Nat.le_of_ble_eq_true rfl) rfl rfl rfl ⟨Nat.le_trans (by decide) hR.1, Nat.le_trans (by decide) hR.2⟩ dX3_init_31 (fun σ H locs hS hsz h => ?_)
  refine eF_RX3_28 hin hC hS h dX3_init_34 (fun σ H locs hS h => ?_)
  refine lv_aload_n hx hb dX3_init_37 rfl (lv_at hl 0 rfl) ?_
  refine lv_bipush (v := 8) hx hb dX3_init_38 (by decide) ?_
  refine ez_newa (k := 1) (N := 8) (ty := .int) (atype := .int) (c1 := 9) (s1 := 654) (n1 := σ0.length + 9) hC hB hS hsz rfl rfl (fun _ _ h9 => h9) rfl qw_int (by decide) (by decide) (by decide) rfl rfl rfl (Nat.le_trans (by decide) hR.1) (Nat.le_trans (by decide) hR.2) h dX3_init_40 (fun t_40 σ H hS hsz h => ?_)
  refine eF_RX3_32 hin hC hS h dX3_init_42 (fun σ H locs hS h => ?_)
  refine lv_aload_n hx hb dX3_init_45 rfl (lv_at hl 0 rfl) ?_
  refine lv_bipush (v := 8) hx hb dX3_init_46 (by decide) ?_
  refine ez_newa (k := 1) (N := 8) (ty := .int) (atype := .int) (c1 := 10) (s1 := 662) (n1 := σ0.length + 10) hC hB hS hsz rfl rfl (fun _ _ h9 => h9) rfl qw_int (by decide) (by decide) (by decide) rfl rfl rfl (Nat.le_trans (by decide) hR.1) (Nat.le_trans (by decide) hR.2) h dX3_init_48 (fun t_48 σ H hS hsz h => ?_)
  refine eF_RX3_36 hin hC hS h dX3_init_50 (fun σ H locs hS h => ?_)
  refine lv_aload_n hx hb dX3_init_53 rfl (lv_at hl 0 rfl) ?_
  refine lv_bipush (v := 8) hx hb dX3_init_54 (by decide) ?_
  refine ez_newa (k := 1) (N := 8) (ty := .int) (atype := .int) (c1 := 11) (s1 := 670) (n1 := σ0.length + 11) hC hB hS hsz rfl rfl (fun _ _ h9 => h9) rfl qw_int (by decide) (by decide) (by decide) rfl rfl rfl (Nat.le_trans (by decide) hR.1) (Nat.le_trans (by decide) hR.2) h dX3_init_56 (fun t_56 σ H hS hsz h => ?_)
  refine eF_RX3_39 hin hC hS h dX3_init_58 (fun σ H locs hS h => ?_)
  refine lv_aload_n hx hb dX3_init_61 rfl (lv_at hl 0 rfl) ?_
  refine lv_bipush (v := 6) hx hb dX3_init_62 (by decide) ?_
  refine ez_newa (k := 1) (N := 6) (ty := .int) (atype := .int) (c1 := 12) (s1 := 676) (n1 := σ0.length + 12) hC hB hS hsz rfl rfl (fun _ _ h9 => h9) rfl qw_int (by decide) (by decide) (by decide) rfl rfl rfl (Nat.le_trans (by decide) hR.1) (Nat.le_trans (by decide) hR.2) h dX3_init_64 (fun t_64 σ H hS hsz h => ?_)
  refine eF_RX3_42 hin hC hS h dX3_init_66 (fun σ H locs hS h => ?_)
  refine lv_aload_n hx hb dX3_init_69 rfl (lv_at hl 0 rfl) ?_
  refine lv_bipush (v := 6) hx hb dX3_init_70 (by decide) ?_
  refine ez_newa (k := 1) (N := 6) (ty := .int) (atype := .int) (c1 := 13) (s1 := 682) (n1 := σ0.length + 13) hC hB hS hsz rfl rfl (fun _ _ h9 => h9) rfl qw_int (by decide) (by decide) (by decide) rfl rfl rfl (Nat.le_trans (by decide) hR.1) (Nat.le_trans (by decide) hR.2) h dX3_init_72 (fun t_72 σ H hS hsz h => ?_)
  refine eF_RX3_45 hin hC hS h dX3_init_74 (fun σ H locs hS h => ?_)
  exact hret _ _ _ _ _ _ (Option.some.inj h) hS dX3_init_77
set_option maxHeartbeats 4000000 in
set_option maxRecDepth 100000 in
theorem c_J0_coder_7d493_s0 {l : Launch} {X : ez_X} {B : Nat} {σ : ez_H} {z : Int32} (h : z_J0_coder_7d493_s0 σ = some z) : ez_M l X B σ yJ0_coder_7d493 cJ0_coder_7d493 1 (some .byte) 0 [.ref (X.2.2.1 0)] (some (.int z)) σ := by
  refine ez_startip (z := z) (by decide) (Nat.le_of_ble_eq_true rfl) (fun p e R s m args below meth c Q hC hret hS ls hl => ?_)
  have hC : ez_C p R s m args c X B RJ0 cJ0_coder_7d493 1 0 := hC
  have hx := hC.1.1
  have hb := hC.1.2.1
  have hown := hC.1.2.2.2.1
  have hts := hC.1.2.2.2.2
  have hl : lv_has ls 1 [(0, .ref (X.2.2.1 0))] := hl
  obtain ⟨n0, e0⟩ : ∃ n0 : Nat, n0 = σ.length := ⟨_, rfl⟩
  rw [← e0] at hret hS
  have K_14 : ∀ (y0 : Int32) (H : Heap) (locs : List Loc) (ls : Array Slot), ez_S X B s.heap (n0) σ H locs → z_J0_coder_7d493_s0_14 σ y0 = some z → lv_has ls 1 [] → W p l e R s m args below meth c H locs 0 0 Q (F0 m 14 ls [.int y0]) := by
    intro y0 H locs ls hS h hl
    obtain ⟨hn, h⟩ := ez_nr_sp rfl h
    exact hret _ _ _ _ _ (Option.some.inj h) hn hS dJ0_coder_7d493_14
  refine va_gets hx hb hC.2.2.2.2.2.2.2.1 hS.2.2 hown (hts _ qs_RJ0_38) (fun _ h9 => h9) dJ0_coder_7d493_0 ?_
  refine lv_if_eq (tgt := 13) hx hb dJ0_coder_7d493_3 (by decide) (fun c_3 => ?_) (fun c_3 => ?_)
  · exact absurd c_3 (by decide)
  · skip
    refine lv_aload_n hx hb dJ0_coder_7d493_6 rfl (lv_at hl 0 rfl) ?_
    refine vk_getf hx hb (hC.2.2.2.2.1.1 0 (by decide)).2.1 hS.2.2 hown (hts _ qs_RJ0_15) (fun _ h9 => h9) dJ0_coder_7d493_7 ?_
    refine lv_goto (tgt := 14) hx hb dJ0_coder_7d493_10 (by decide) ?_
    exact K_14  (0 : Int32) _ _ _ hS h (lv_sub hl [] rfl)
set_option maxHeartbeats 4000000 in
set_option maxRecDepth 100000 in
theorem c_J0_length_8abf5_s0 {l : Launch} {X : ez_X} {B : Nat} {σ : ez_H} {z : Int32} (h : z_J0_length_8abf5_s0 σ = some z) : ez_M l X B σ yJ0_length_8abf5 cJ0_length_8abf5 1 (some .int) 1 [.ref (X.2.2.1 0)] (some (.int z)) σ := by
  refine ez_startip (z := z) (by decide) (Nat.le_of_ble_eq_true rfl) (fun p e R s m args below meth c Q hC hret hS ls hl => ?_)
  have hC : ez_C p R s m args c X B RJ0 cJ0_length_8abf5 1 1 := hC
  have hx := hC.1.1
  have hb := hC.1.2.1
  have hown := hC.1.2.2.2.1
  have hts := hC.1.2.2.2.2
  have hl : lv_has ls 1 [(0, .ref (X.2.2.1 0))] := hl
  obtain ⟨n0, e0⟩ : ∃ n0 : Nat, n0 = σ.length := ⟨_, rfl⟩
  rw [← e0] at hret hS
  refine lv_aload_n hx hb dJ0_length_8abf5_0 rfl (lv_at hl 0 rfl) ?_
  refine vk_getf hx hb (hC.2.2.2.2.1.1 0 (by decide)).2.2.1 hS.2.2 hown (hts _ qs_RJ0_9) (fun _ h9 => h9) dJ0_length_8abf5_1 ?_
  refine va_tlen hx hb (hC.2.2.2.2.1.1 0 (by decide)).2.2.2 hS.2.2 (v := 120) (by decide) dJ0_length_8abf5_4 ?_
  refine lv_aload_n hx hb dJ0_length_8abf5_5 rfl (lv_at hl 0 rfl) ?_
  refine ez_cUpi (As := []) (rest := [.int 120]) h (fun _ q => c_J0_coder_7d493_s0 q) hC k_J0_coder_7d493 ql_RJ0_335 rfl (by decide) hS (vk_recv hC.2.2.2.2.1 (i := 0) (by decide) hS.2.2) hl.1 rfl (Nat.le_of_ble_eq_true rfl) ⟨Nat.zero_le _, Nat.zero_le _⟩ dJ0_length_8abf5_6 (fun t_6 H locs hS h => ?_)
  refine lv_ishr hx hb dJ0_length_8abf5_9 ?_
  refine ez_top h (fun t_9 h => ?_)
  exact hret _ _ _ _ _ (Option.some.inj h) rfl hS dJ0_length_8abf5_10
set_option maxHeartbeats 4000000 in
set_option maxRecDepth 100000 in
theorem c_J0_isLatin1_aae02_s0 {l : Launch} {X : ez_X} {B : Nat} {σ : ez_H} {z : Int32} (h : z_J0_isLatin1_aae02_s0 σ = some z) : ez_M l X B σ yJ0_isLatin1_aae02 cJ0_isLatin1_aae02 1 (some .boolean) 0 [.ref (X.2.2.1 0)] (some (.int z)) σ := by
  refine ez_startip (z := z) (by decide) (Nat.le_of_ble_eq_true rfl) (fun p e R s m args below meth c Q hC hret hS ls hl => ?_)
  have hC : ez_C p R s m args c X B RJ0 cJ0_isLatin1_aae02 1 0 := hC
  have hx := hC.1.1
  have hb := hC.1.2.1
  have hown := hC.1.2.2.2.1
  have hts := hC.1.2.2.2.2
  have hl : lv_has ls 1 [(0, .ref (X.2.2.1 0))] := hl
  obtain ⟨n0, e0⟩ : ∃ n0 : Nat, n0 = σ.length := ⟨_, rfl⟩
  rw [← e0] at hret hS
  have K_18 : ∀ (y0 : Int32) (H : Heap) (locs : List Loc) (ls : Array Slot), ez_S X B s.heap (n0) σ H locs → z_J0_isLatin1_aae02_s0_18 σ y0 = some z → lv_has ls 1 [] → W p l e R s m args below meth c H locs 0 0 Q (F0 m 18 ls [.int y0]) := by
    intro y0 H locs ls hS h hl
    obtain ⟨hn, h⟩ := ez_nr_sp rfl h
    exact hret _ _ _ _ _ (Option.some.inj h) hn hS dJ0_isLatin1_aae02_18
  refine va_gets hx hb hC.2.2.2.2.2.2.2.1 hS.2.2 hown (hts _ qs_RJ0_38) (fun _ h9 => h9) dJ0_isLatin1_aae02_0 ?_
  refine lv_if_eq (tgt := 17) hx hb dJ0_isLatin1_aae02_3 (by decide) (fun c_3 => ?_) (fun c_3 => ?_)
  · exact absurd c_3 (by decide)
  · skip
    refine lv_aload_n hx hb dJ0_isLatin1_aae02_6 rfl (lv_at hl 0 rfl) ?_
    refine vk_getf hx hb (hC.2.2.2.2.1.1 0 (by decide)).2.1 hS.2.2 hown (hts _ qs_RJ0_15) (fun _ h9 => h9) dJ0_isLatin1_aae02_7 ?_
    refine lv_if_ne (tgt := 17) hx hb dJ0_isLatin1_aae02_10 (by decide) (fun c_10 => ?_) (fun c_10 => ?_)
    · exact absurd c_10 (by decide)
    · skip
      refine lv_iconst (v := 1) hx hb dJ0_isLatin1_aae02_13 (by decide) ?_
      refine lv_goto (tgt := 18) hx hb dJ0_isLatin1_aae02_14 (by decide) ?_
      exact K_18  (1 : Int32) _ _ _ hS h (lv_sub hl [] rfl)
set_option maxHeartbeats 4000000 in
set_option maxRecDepth 100000 in
theorem c_J3_checkIndex_8e157_n0 {l : Launch} {X : ez_X} {B : Nat} {σ : ez_H} {x0 : Int32} {x1 : Int32} {z : Int32} (h : z_J3_checkIndex_8e157_n0 σ x0 x1 = some z) : ez_M l X B σ yJ3_checkIndex_8e157 cJ3_checkIndex_8e157 3 (some .int) 0 [.int x0, .int x1, .null] (some (.int z)) σ := by
  refine ez_startip (z := z) (by decide) (Nat.le_of_ble_eq_true rfl) (fun p e R s m args below meth c Q hC hret hS ls hl => ?_)
  have hC : ez_C p R s m args c X B RJ3 cJ3_checkIndex_8e157 3 0 := hC
  have hx := hC.1.1
  have hb := hC.1.2.1
  have hown := hC.1.2.2.2.1
  have hts := hC.1.2.2.2.2
  have hl : lv_has ls 3 [(0, .int x0), (1, .int x1), (2, .null)] := hl
  obtain ⟨n0, e0⟩ : ∃ n0 : Nat, n0 = σ.length := ⟨_, rfl⟩
  rw [← e0] at hret hS
  have K_9 : ∀ (x0 : Int32) (x1 : Int32) (H : Heap) (locs : List Loc) (ls : Array Slot), ez_S X B s.heap (n0) σ H locs → z_J3_checkIndex_8e157_n0_9 σ x0 x1 = some z → lv_has ls 3 [(0, .int x0), (1, .int x1), (2, .null)] → W p l e R s m args below meth c H locs 0 0 Q (F0 m 9 ls []) := by
    intro x0 x1 H locs ls hS h hl
    cases h
  refine lv_iload_n hx hb dJ3_checkIndex_8e157_0 rfl (lv_at hl 0 rfl) ?_
  refine lv_if_lt (tgt := 9) hx hb dJ3_checkIndex_8e157_1 (by decide) (fun c_1 => ?_) (fun c_1 => ?_)
  · replace h := ez_ifp h c_1
    exact K_9  x0 x1 _ _ _ hS h (lv_sub hl [0, 1, 2] rfl)
  · replace h := ez_ifn h c_1
    refine lv_iload_n hx hb dJ3_checkIndex_8e157_4 rfl (lv_at hl 0 rfl) ?_
    refine lv_iload_n hx hb dJ3_checkIndex_8e157_5 rfl (lv_at hl 1 rfl) ?_
    refine lv_icmp_lt (tgt := 16) hx hb dJ3_checkIndex_8e157_6 (by decide) (fun c_6 => ?_) (fun c_6 => ?_)
    · replace h := ez_ifp h c_6
      refine lv_iload_n hx hb dJ3_checkIndex_8e157_16 rfl (lv_at hl 0 rfl) ?_
      exact hret _ _ _ _ _ (Option.some.inj h) rfl hS dJ3_checkIndex_8e157_17
    · replace h := ez_ifn h c_6
      exact K_9  x0 x1 _ _ _ hS h (lv_sub hl [0, 1, 2] rfl)
set_option maxHeartbeats 4000000 in
set_option maxRecDepth 100000 in
theorem c_J3_checkIndex_8e157_e0 {l : Launch} {X : ez_X} {B : Nat} {σ : ez_H} {x0 : Int32} {x1 : Int32} {q9 : Nat} {z : Int32} (h : z_J3_checkIndex_8e157_e0 σ x0 x1 = some z) : ez_M l X B σ yJ3_checkIndex_8e157 cJ3_checkIndex_8e157 3 (some .int) 0 [.int x0, .int x1, .ref q9] (some (.int z)) σ := by
  refine ez_startip (z := z) (by decide) (Nat.le_of_ble_eq_true rfl) (fun p e R s m args below meth c Q hC hret hS ls hl => ?_)
  have hC : ez_C p R s m args c X B RJ3 cJ3_checkIndex_8e157 3 0 := hC
  have hx := hC.1.1
  have hb := hC.1.2.1
  have hown := hC.1.2.2.2.1
  have hts := hC.1.2.2.2.2
  have hl : lv_has ls 3 [(0, .int x0), (1, .int x1), (2, .ref q9)] := hl
  obtain ⟨n0, e0⟩ : ∃ n0 : Nat, n0 = σ.length := ⟨_, rfl⟩
  rw [← e0] at hret hS
  have K_9 : ∀ (x0 : Int32) (x1 : Int32) (H : Heap) (locs : List Loc) (ls : Array Slot), ez_S X B s.heap (n0) σ H locs → z_J3_checkIndex_8e157_e0_9 σ x0 x1 = some z → lv_has ls 3 [(0, .int x0), (1, .int x1), (2, .ref q9)] → W p l e R s m args below meth c H locs 0 0 Q (F0 m 9 ls []) := by
    intro x0 x1 H locs ls hS h hl
    cases h
  refine lv_iload_n hx hb dJ3_checkIndex_8e157_0 rfl (lv_at hl 0 rfl) ?_
  refine lv_if_lt (tgt := 9) hx hb dJ3_checkIndex_8e157_1 (by decide) (fun c_1 => ?_) (fun c_1 => ?_)
  · replace h := ez_ifp h c_1
    exact K_9  x0 x1 _ _ _ hS h (lv_sub hl [0, 1, 2] rfl)
  · replace h := ez_ifn h c_1
    refine lv_iload_n hx hb dJ3_checkIndex_8e157_4 rfl (lv_at hl 0 rfl) ?_
    refine lv_iload_n hx hb dJ3_checkIndex_8e157_5 rfl (lv_at hl 1 rfl) ?_
    refine lv_icmp_lt (tgt := 16) hx hb dJ3_checkIndex_8e157_6 (by decide) (fun c_6 => ?_) (fun c_6 => ?_)
    · replace h := ez_ifp h c_6
      refine lv_iload_n hx hb dJ3_checkIndex_8e157_16 rfl (lv_at hl 0 rfl) ?_
      exact hret _ _ _ _ _ (Option.some.inj h) rfl hS dJ3_checkIndex_8e157_17
    · replace h := ez_ifn h c_6
      exact K_9  x0 x1 _ _ _ hS h (lv_sub hl [0, 1, 2] rfl)
set_option maxHeartbeats 4000000 in
set_option maxRecDepth 100000 in
theorem c_J0_checkIndex_df160 {l : Launch} {X : ez_X} {B : Nat} {σ : ez_H} {x0 : Int32} {x1 : Int32} {z : Unit} (h : z_J0_checkIndex_df160 σ x0 x1 = some z) : ez_M l X B σ yJ0_checkIndex_df160 cJ0_checkIndex_df160 2 (none) 1 [.int x0, .int x1] (none) σ := by
  refine ez_startvp (z := z) (by decide) (Nat.le_of_ble_eq_true rfl) (fun p e R s m args below meth c Q hC hret hS ls hl => ?_)
  have hC : ez_C p R s m args c X B RJ0 cJ0_checkIndex_df160 2 1 := hC
  have hx := hC.1.1
  have hb := hC.1.2.1
  have hown := hC.1.2.2.2.1
  have hts := hC.1.2.2.2.2
  have hl : lv_has ls 2 [(0, .int x0), (1, .int x1)] := hl
  obtain ⟨n0, e0⟩ : ∃ n0 : Nat, n0 = σ.length := ⟨_, rfl⟩
  rw [← e0] at hret hS
  refine lv_iload_n hx hb dJ0_checkIndex_df160_0 rfl (lv_at hl 0 rfl) ?_
  refine lv_iload_n hx hb dJ0_checkIndex_df160_1 rfl (lv_at hl 1 rfl) ?_
  refine va_gets hx hb hC.2.2.2.2.2.2.2.2.2.1 hS.2.2 hown (hts _ qs_RJ0_1053) (fun _ h9 => h9) dJ0_checkIndex_df160_2 ?_
  obtain ⟨q9, hq9⟩ : ∃ q9 : Nat, q9 = X.2.2.1 2 := ⟨_, rfl⟩
  rw [← hq9]
  cases q9 with
  | zero =>
    refine ez_cSpi (As := [.int x0, .int x1, .null]) (rest := []) h (fun _ q => c_J3_checkIndex_8e157_n0 q) hC k_J3_checkIndex_8e157 ql_RJ0_1059 rfl (by decide) hS hl.1 rfl (Nat.le_of_ble_eq_true rfl) ⟨Nat.zero_le _, Nat.zero_le _⟩ dJ0_checkIndex_df160_5 (fun t_5 H locs hS h => ?_)
    refine lv_pop hx hb dJ0_checkIndex_df160_8 rfl ?_
    exact hret _ _ _ _ _ (Option.some.inj h) hS dJ0_checkIndex_df160_9
  | succ q9 =>
    refine ez_cSpi (As := [.int x0, .int x1, .ref q9]) (rest := []) h (fun _ q => c_J3_checkIndex_8e157_e0 q) hC k_J3_checkIndex_8e157 ql_RJ0_1059 rfl (by decide) hS hl.1 rfl (Nat.le_of_ble_eq_true rfl) ⟨Nat.zero_le _, Nat.zero_le _⟩ dJ0_checkIndex_df160_5 (fun t_5 H locs hS h => ?_)
    refine lv_pop hx hb dJ0_checkIndex_df160_8 rfl ?_
    exact hret _ _ _ _ _ (Option.some.inj h) hS dJ0_checkIndex_df160_9
set_option maxHeartbeats 4000000 in
set_option maxRecDepth 100000 in
theorem c_J1_charAt_3b067_v0 {l : Launch} {X : ez_X} {B : Nat} {σ : ez_H} {x1 : Int32} {z : Int32} (h : z_J1_charAt_3b067_v0 σ x1 = some z) : ez_M l X B σ yJ1_charAt_3b067 cJ1_charAt_3b067 2 (some .char) 2 [.ref (X.2.2.2 0), .int x1] (some (.int z)) σ := by
  refine ez_startip (z := z) (by decide) (Nat.le_of_ble_eq_true rfl) (fun p e R s m args below meth c Q hC hret hS ls hl => ?_)
  have hC : ez_C p R s m args c X B RJ1 cJ1_charAt_3b067 2 2 := hC
  have hx := hC.1.1
  have hb := hC.1.2.1
  have hown := hC.1.2.2.2.1
  have hts := hC.1.2.2.2.2
  have hl : lv_has ls 2 [(0, .ref (X.2.2.2 0)), (1, .int x1)] := hl
  obtain ⟨n0, e0⟩ : ∃ n0 : Nat, n0 = σ.length := ⟨_, rfl⟩
  rw [← e0] at hret hS
  refine lv_iload_n hx hb dJ1_charAt_3b067_0 rfl (lv_at hl 1 rfl) ?_
  refine lv_aload_n hx hb dJ1_charAt_3b067_1 rfl (lv_at hl 0 rfl) ?_
  refine va_tlen hx hb (hC.2.2.2.2.1.1 0 (by decide)).2.2.2 hS.2.2 (v := 120) (by decide) dJ1_charAt_3b067_2 ?_
  refine ez_cSpv (As := [.int x1, .int 120]) (rest := []) h (fun _ q => c_J0_checkIndex_df160 q) hC k_J0_checkIndex_df160 ql_RJ1_9 rfl (by decide) hS hl.1 rfl (Nat.le_of_ble_eq_true rfl) ⟨Nat.zero_le _, Nat.zero_le _⟩ dJ1_charAt_3b067_3 (fun _ H locs hS h => ?_)
  refine lv_aload_n hx hb dJ1_charAt_3b067_6 rfl (lv_at hl 0 rfl) ?_
  refine lv_iload_n hx hb dJ1_charAt_3b067_7 rfl (lv_at hl 1 rfl) ?_
  refine ez_tb (t := 0) (by decide) hC hS h dJ1_charAt_3b067_8 (fun t_8 h => ?_)
  refine lv_sipush (v := 255) hx hb dJ1_charAt_3b067_9 (by decide) ?_
  refine lv_iand hx hb dJ1_charAt_3b067_12 ?_
  refine ez_top h (fun t_12 h => ?_)
  refine lv_i2c hx hb dJ1_charAt_3b067_13 rfl ?_
  refine ez_top h (fun t_13 h => ?_)
  obtain ⟨hn, h⟩ := ez_nr_sp rfl h
  exact hret _ _ _ _ _ (Option.some.inj h) hn hS dJ1_charAt_3b067_14
set_option maxHeartbeats 4000000 in
set_option maxRecDepth 100000 in
theorem c_J0_charAt_5068e_s0 {l : Launch} {X : ez_X} {B : Nat} {σ : ez_H} {x1 : Int32} {z : Int32} (h : z_J0_charAt_5068e_s0 σ x1 = some z) : ez_M l X B σ yJ0_charAt_5068e cJ0_charAt_5068e 2 (some .char) 3 [.ref (X.2.2.1 0), .int x1] (some (.int z)) σ := by
  refine ez_startip (z := z) (by decide) (Nat.le_of_ble_eq_true rfl) (fun p e R s m args below meth c Q hC hret hS ls hl => ?_)
  have hC : ez_C p R s m args c X B RJ0 cJ0_charAt_5068e 2 3 := hC
  have hx := hC.1.1
  have hb := hC.1.2.1
  have hown := hC.1.2.2.2.1
  have hts := hC.1.2.2.2.2
  have hl : lv_has ls 2 [(0, .ref (X.2.2.1 0)), (1, .int x1)] := hl
  obtain ⟨n0, e0⟩ : ∃ n0 : Nat, n0 = σ.length := ⟨_, rfl⟩
  rw [← e0] at hret hS
  refine lv_aload_n hx hb dJ0_charAt_5068e_0 rfl (lv_at hl 0 rfl) ?_
  refine ez_cUpi (As := []) (rest := []) h (fun _ q => c_J0_isLatin1_aae02_s0 q) hC k_J0_isLatin1_aae02 ql_RJ0_492 rfl (by decide) hS (vk_recv hC.2.2.2.2.1 (i := 0) (by decide) hS.2.2) hl.1 rfl (Nat.le_of_ble_eq_true rfl) ⟨Nat.zero_le _, Nat.zero_le _⟩ dJ0_charAt_5068e_1 (fun t_1 H locs hS h => ?_)
  refine lv_if_eq (tgt := 16) hx hb dJ0_charAt_5068e_4 (by decide) (fun c_4 => ?_) (fun c_4 => ?_)
  · replace h := ez_ifp h c_4
    cases h
  · replace h := ez_ifn h c_4
    refine lv_aload_n hx hb dJ0_charAt_5068e_7 rfl (lv_at hl 0 rfl) ?_
    refine vk_getf hx hb (hC.2.2.2.2.1.1 0 (by decide)).2.2.1 hS.2.2 hown (hts _ qs_RJ0_9) (fun _ h9 => h9) dJ0_charAt_5068e_8 ?_
    refine lv_iload_n hx hb dJ0_charAt_5068e_11 rfl (lv_at hl 1 rfl) ?_
    refine ez_cSpi (As := [.ref (X.2.2.2 0), .int x1]) (rest := []) h (fun _ q => c_J1_charAt_3b067_v0 q) hC k_J1_charAt_3b067 ql_RJ0_495 rfl (by decide) hS hl.1 rfl (Nat.le_of_ble_eq_true rfl) ⟨Nat.zero_le _, Nat.zero_le _⟩ dJ0_charAt_5068e_12 (fun t_12 H locs hS h => ?_)
    obtain ⟨hn, h⟩ := ez_nr_sp rfl h
    exact hret _ _ _ _ _ (Option.some.inj h) hn hS dJ0_charAt_5068e_15
set_option maxHeartbeats 4000000 in
set_option maxRecDepth 100000 in
theorem c_X9_withLetter {l : Launch} {X : ez_X} {B : Nat} {σ : ez_H} {x0 : Int64} {x2 : Int32} {z : Int64} (h : z_X9_withLetter σ x0 x2 = some z) : ez_M l X B σ yX9_withLetter cX9_withLetter 3 (some .long) 0 [.long x0, .int x2] (some (.long z)) σ := by
  refine ez_startlp (z := z) (by decide) (Nat.le_of_ble_eq_true rfl) (fun p e R s m args below meth c Q hC hret hS ls hl => ?_)
  have hC : ez_C p R s m args c X B RX9 cX9_withLetter 3 0 := hC
  have hx := hC.1.1
  have hb := hC.1.2.1
  have hown := hC.1.2.2.2.1
  have hts := hC.1.2.2.2.2
  have hl : lv_has ls 3 [(0, .long x0), (2, .int x2)] := hl
  obtain ⟨n0, e0⟩ : ∃ n0 : Nat, n0 = σ.length := ⟨_, rfl⟩
  rw [← e0] at hret hS
  refine lv_lload_n hx hb dX9_withLetter_0 rfl (lv_at hl 0 rfl) ?_
  refine lv_ldc2 hx hb hown (hts _ qc_RX9_50) dX9_withLetter_1 ?_
  refine lv_lmul hx hb dX9_withLetter_4 ?_
  refine ez_topl h (fun t_4 h => ?_)
  refine lv_iload_n hx hb dX9_withLetter_5 rfl (lv_at hl 1 rfl) ?_
  refine lv_bipush (v := 97) hx hb dX9_withLetter_6 (by decide) ?_
  refine lv_isub hx hb dX9_withLetter_8 ?_
  refine ez_top h (fun t_8 h => ?_)
  refine lv_iconst (v := 1) hx hb dX9_withLetter_9 (by decide) ?_
  refine lv_iadd hx hb dX9_withLetter_10 ?_
  refine ez_top h (fun t_10 h => ?_)
  refine lv_i2l hx hb dX9_withLetter_11 rfl ?_
  refine ez_topl h (fun t_11 h => ?_)
  refine lv_ladd hx hb dX9_withLetter_12 ?_
  refine ez_topl h (fun t_12 h => ?_)
  exact hret _ _ _ _ _ (Option.some.inj h) hS dX9_withLetter_13
set_option maxHeartbeats 4000000 in
set_option maxRecDepth 100000 in
theorem c_X9_init {l : Launch} {X : ez_X} {B : Nat} {σ : ez_H} {h0 : Nat} {h1 : Nat} {z : Unit × ez_H} (h : z_X9_init σ h0 h1 = some z) : ez_Mn l X B σ yX9_init cX9_init 7 4 1 23 [.ref (B + h0), .ref (B + h1)] z.2 := by
  refine ez_startn (z := z) (by decide) rfl (Nat.le_of_ble_eq_true rfl) (fun p e R s m args below meth c Q hC hin hR hsz hret hS ls hl => ?_)
  have hC : ez_C p R s m args c X B RX9 cX9_init 7 4 := hC
  have hx := hC.1.1
  have hb := hC.1.2.1
  have hown := hC.1.2.2.2.1
  have hts := hC.1.2.2.2.2
  have hl : lv_has ls 7 [(0, .ref (B + h0)), (1, .ref (B + h1))] := hl
  have hB : B ≤ s.heap.size := by omega
  obtain ⟨σ0, eσ⟩ : ∃ σ0 : ez_H, σ0 = σ := ⟨_, rfl⟩
  rw [← eσ] at hret
  have hS : ez_S X B s.heap σ0.length σ s.heap [] := eσ ▸ hS
  have hsz : s.heap.size + 0 = B + σ0.length := eσ ▸ hsz
  obtain ⟨-, h⟩ := ez_in h
  have K_78 : ∀ (k_24 : ez_H → Nat → Int32 → Int64 → Int32 → Option (Unit × ez_H)) (hk_24 : ∀ (σ : ez_H) (h0 : Nat) (x2 : Int32) (x3 : Int64) (x5 : Int32) (H : Heap) (locs : List Loc) (ls : Array Slot), ez_S X B s.heap (σ0.length + 1) σ H locs → k_24 σ h0 x2 x3 x5 = some z → lv_has ls 7 [(0, .ref (B + h0)), (2, .int x2), (3, .long x3), (5, .int x5)] → W p l e R s m args below meth c H locs 1 23 Q (F0 m 24 ls [])), ∀ (σ : ez_H) (h0 : Nat) (x2 : Int32) (x3 : Int64) (x5 : Int32) (H : Heap) (locs : List Loc) (ls : Array Slot), ez_S X B s.heap (σ0.length + 1) σ H locs → z_X9_init_78 k_24 σ h0 x2 x3 x5 = some z → lv_has ls 7 [(0, .ref (B + h0)), (2, .int x2), (3, .long x3), (5, .int x5)] → W p l e R s m args below meth c H locs 1 23 Q (F0 m 78 ls []) := by
    intro k_24 hk_24 σ h0 x2 x3 x5 H locs ls hS h hl
    obtain ⟨t_78, e_78, h⟩ := ez_let_sp h
    refine lv_iinc (v := t_78) (lv' := [(5, .int t_78), (0, .ref (B + h0)), (2, .int x2), (3, .long x3)]) hx hb dX9_init_78 hl (k := 3) rfl (by rw [e_78]; rfl) (by decide) rfl (fun ls hl => ?_)
    refine lv_goto (tgt := 24) hx hb dX9_init_81 (by decide) ?_
    exact hk_24 σ h0 x2 x3 t_78 _ _ _ hS h (lv_sub hl [1, 2, 3, 0] rfl)
  have K_24 : ∀ (k_24 : ez_H → Nat → Int32 → Int64 → Int32 → Option (Unit × ez_H)) (hk_24 : ∀ (σ : ez_H) (h0 : Nat) (x2 : Int32) (x3 : Int64) (x5 : Int32) (H : Heap) (locs : List Loc) (ls : Array Slot), ez_S X B s.heap (σ0.length + 1) σ H locs → k_24 σ h0 x2 x3 x5 = some z → lv_has ls 7 [(0, .ref (B + h0)), (2, .int x2), (3, .long x3), (5, .int x5)] → W p l e R s m args below meth c H locs 1 23 Q (F0 m 24 ls [])), ∀ (σ : ez_H) (h0 : Nat) (x2 : Int32) (x3 : Int64) (x5 : Int32) (H : Heap) (locs : List Loc) (ls : Array Slot), ez_S X B s.heap (σ0.length + 1) σ H locs → z_X9_init_24 k_24 σ h0 x2 x3 x5 = some z → lv_has ls 7 [(0, .ref (B + h0)), (2, .int x2), (3, .long x3), (5, .int x5)] → W p l e R s m args below meth c H locs 1 23 Q (F0 m 24 ls []) := by
    intro k_24 hk_24 σ h0 x2 x3 x5 H locs ls hS h hl
    refine lv_iload hx hb dX9_init_24 (lv_at hl 3 rfl) ?_
    refine va_ldcS hx hb hown hC.2.2.2.2.2.1 dX9_init_26 ?_
    refine ez_cUpi (As := []) (rest := [.int x5]) h (fun _ q => c_J0_length_8abf5_s0 q) hC k_J0_length_8abf5 ql_RX9_21 rfl (by decide) hS (vk_recv hC.2.2.2.2.1 (i := 0) (by decide) hS.2.2) hl.1 rfl (Nat.le_of_ble_eq_true rfl) ⟨Nat.le_trans (by decide) hR.1, Nat.le_trans (by decide) hR.2⟩ dX9_init_28 (fun t_28 H locs hS h => ?_)
    refine lv_icmp_ge (tgt := 84) hx hb dX9_init_31 (by decide) (fun c_31 => ?_) (fun c_31 => ?_)
    · replace h := ez_ifp h c_31
      exact hret _ _ _ _ _ _ (Option.some.inj h) hS dX9_init_84
    · replace h := ez_ifn h c_31
      refine va_ldcS hx hb hown hC.2.2.2.2.2.1 dX9_init_34 ?_
      refine lv_iload hx hb dX9_init_36 (lv_at hl 3 rfl) ?_
      refine ez_cUpi (As := [.int x5]) (rest := []) h (fun _ q => c_J0_charAt_5068e_s0 q) hC k_J0_charAt_5068e ql_RX9_27 rfl (by decide) hS (vk_recv hC.2.2.2.2.1 (i := 0) (by decide) hS.2.2) hl.1 rfl (Nat.le_of_ble_eq_true rfl) ⟨Nat.le_trans (by decide) hR.1, Nat.le_trans (by decide) hR.2⟩ dX9_init_38 (fun t_38 H locs hS h => ?_)
      refine lv_istore (lv' := [(6, .int t_38), (0, .ref (B + h0)), (2, .int x2), (3, .long x3), (5, .int x5)]) hx hb dX9_init_41 hl (by decide) rfl (fun ls hl => ?_)
      refine lv_iload hx hb dX9_init_43 (lv_at hl 0 rfl) ?_
      refine lv_bipush (v := 32) hx hb dX9_init_45 (by decide) ?_
      refine lv_icmp_eq (tgt := 60) hx hb dX9_init_47 (by decide) (fun c_47 => ?_) (fun c_47 => ?_)
      · replace h := ez_ifp h c_47
        refine lv_iload_n hx hb dX9_init_60 rfl (lv_at hl 2 rfl) ?_
        refine lv_bipush (v := 23) hx hb dX9_init_61 (by decide) ?_
        refine lv_icmp_ge (tgt := 78) hx hb dX9_init_63 (by decide) (fun c_63 => ?_) (fun c_63 => ?_)
        · replace h := ez_ifp h c_63
          exact K_78 k_24 hk_24 σ h0 x2 x3 x5 _ _ _ hS h (lv_sub hl [1, 2, 3, 4] rfl)
        · replace h := ez_ifn h c_63
          refine lv_aload_n hx hb dX9_init_66 rfl (lv_at hl 1 rfl) ?_
          refine eg_RX9_15 hC hS h dX9_init_67 (fun t_67 h => ?_)
          refine lv_iload_n hx hb dX9_init_70 rfl (lv_at hl 2 rfl) ?_
          refine lv_lload_n hx hb dX9_init_71 rfl (lv_at hl 3 rfl) ?_
          refine ez_las hC hS h dX9_init_72 (fun σ H locs hS h => ?_)
          obtain ⟨t_73, e_73, h⟩ := ez_let_sp h
          refine lv_iinc (v := t_73) (lv' := [(2, .int t_73), (6, .int t_38), (0, .ref (B + h0)), (3, .long x3), (5, .int x5)]) hx hb dX9_init_73 hl (k := 2) rfl (by rw [e_73]; rfl) (by decide) rfl (fun ls hl => ?_)
          refine lv_lconst (v := 0) hx hb dX9_init_76 (by decide) ?_
          refine lv_lstore_n (lv' := [(3, .long 0), (2, .int t_73), (6, .int t_38), (0, .ref (B + h0)), (5, .int x5)]) hx hb dX9_init_77 rfl hl (by decide) rfl (fun ls hl => ?_)
          exact K_78 k_24 hk_24 σ h0 t_73 (0 : Int64) x5 _ _ _ hS h (lv_sub hl [3, 1, 0, 4] rfl)
      · replace h := ez_ifn h c_47
        refine lv_lload_n hx hb dX9_init_50 rfl (lv_at hl 3 rfl) ?_
        refine lv_iload hx hb dX9_init_51 (lv_at hl 0 rfl) ?_
        refine ez_cSpl (As := [.long x3, .int t_38]) (rest := []) h (fun _ q => c_X9_withLetter q) hC k_X9_withLetter ql_RX9_31 rfl (by decide) hS hl.1 rfl (Nat.le_of_ble_eq_true rfl) ⟨Nat.le_trans (by decide) hR.1, Nat.le_trans (by decide) hR.2⟩ dX9_init_53 (fun t_53 H locs hS h => ?_)
        refine lv_lstore_n (lv' := [(3, .long t_53), (6, .int t_38), (0, .ref (B + h0)), (2, .int x2), (5, .int x5)]) hx hb dX9_init_56 rfl hl (by decide) rfl (fun ls hl => ?_)
        refine lv_goto (tgt := 78) hx hb dX9_init_57 (by decide) ?_
        exact K_78 k_24 hk_24 σ h0 x2 t_53 x5 _ _ _ hS h (lv_sub hl [2, 3, 0, 4] rfl)
  have E_24 : ∀ (σ : ez_H) (h0 : Nat) (x2 : Int32) (x3 : Int64) (x5 : Int32) (H : Heap) (locs : List Loc) (ls : Array Slot), ez_S X B s.heap (σ0.length + 1) σ H locs → (ez_fix (fun _ _ _ _ _ => none) (z_X9_init_24) ez_N) σ h0 x2 x3 x5 = some z → lv_has ls 7 [(0, .ref (B + h0)), (2, .int x2), (3, .long x3), (5, .int x5)] → W p l e R s m args below meth c H locs 1 23 Q (F0 m 24 ls []) := ez_fix_ind (fun k_24 : ez_H → Nat → Int32 → Int64 → Int32 → Option (Unit × ez_H) => ∀ (σ : ez_H) (h0 : Nat) (x2 : Int32) (x3 : Int64) (x5 : Int32) (H : Heap) (locs : List Loc) (ls : Array Slot), ez_S X B s.heap (σ0.length + 1) σ H locs → k_24 σ h0 x2 x3 x5 = some z → lv_has ls 7 [(0, .ref (B + h0)), (2, .int x2), (3, .long x3), (5, .int x5)] → W p l e R s m args below meth c H locs 1 23 Q (F0 m 24 ls [])) (fun _ _ _ _ _ _ _ _ _ h _ => by cases h) (fun k_24 hk_24 => K_24 k_24 hk_24) ez_N
  refine lv_aload_n hx hb dX9_init_0 rfl (lv_at hl 0 rfl) ?_
  refine ez_obj hC ql_RX9_3 hl.1 rfl (by decide) dX9_init_1 ?_
  refine lv_aload_n hx hb dX9_init_4 rfl (lv_at hl 0 rfl) ?_
  refine lv_aload_n hx hb dX9_init_5 rfl (lv_at hl 1 rfl) ?_
  refine eF_RX9_9 hin hC hS h dX9_init_6 (fun σ H locs hS h => ?_)
  refine lv_aload_n hx hb dX9_init_9 rfl (lv_at hl 0 rfl) ?_
  refine lv_bipush (v := 23) hx hb dX9_init_10 (by decide) ?_
  refine ez_newl (N := 23) (c1 := 1) (s1 := 23) (n1 := σ0.length + 1) hC hB hS hsz qw_long (by decide) (by decide) (by decide) rfl rfl rfl (Nat.le_trans (by decide) hR.1) (Nat.le_trans (by decide) hR.2) h dX9_init_12 (fun t_12 σ H hS hsz h => ?_)
  refine eF_RX9_15 hin hC hS h dX9_init_14 (fun σ H locs hS h => ?_)
  refine lv_iconst (v := 0) hx hb dX9_init_17 (by decide) ?_
  refine lv_istore_n (lv' := [(2, .int 0), (0, .ref (B + h0)), (1, .ref (B + h1))]) hx hb dX9_init_18 rfl hl (by decide) rfl (fun ls hl => ?_)
  refine lv_lconst (v := 0) hx hb dX9_init_19 (by decide) ?_
  refine lv_lstore_n (lv' := [(3, .long 0), (2, .int 0), (0, .ref (B + h0)), (1, .ref (B + h1))]) hx hb dX9_init_20 rfl hl (by decide) rfl (fun ls hl => ?_)
  refine lv_iconst (v := 0) hx hb dX9_init_21 (by decide) ?_
  refine lv_istore (lv' := [(5, .int 0), (3, .long 0), (2, .int 0), (0, .ref (B + h0)), (1, .ref (B + h1))]) hx hb dX9_init_22 hl (by decide) rfl (fun ls hl => ?_)
  exact E_24  σ h0 (0 : Int32) (0 : Int64) (0 : Int32) _ _ _ hS h (lv_sub hl [3, 2, 1, 0] rfl)
set_option maxHeartbeats 4000000 in
set_option maxRecDepth 100000 in
theorem c_X4_init {l : Launch} {X : ez_X} {B : Nat} {σ : ez_H} {h0 : Nat} {h1 : Nat} {z : Unit × ez_H} (h : z_X4_init σ h0 h1 = some z) : ez_Mn l X B σ yX4_init cX4_init 2 5 22 771 [.ref (B + h0), .ref (B + h1)] z.2 := by
  refine ez_startn (z := z) (by decide) rfl (Nat.le_of_ble_eq_true rfl) (fun p e R s m args below meth c Q hC hin hR hsz hret hS ls hl => ?_)
  have hC : ez_C p R s m args c X B RX4 cX4_init 2 5 := hC
  have hx := hC.1.1
  have hb := hC.1.2.1
  have hown := hC.1.2.2.2.1
  have hts := hC.1.2.2.2.2
  have hl : lv_has ls 2 [(0, .ref (B + h0)), (1, .ref (B + h1))] := hl
  have hB : B ≤ s.heap.size := by omega
  obtain ⟨σ0, eσ⟩ : ∃ σ0 : ez_H, σ0 = σ := ⟨_, rfl⟩
  rw [← eσ] at hret
  have hS : ez_S X B s.heap σ0.length σ s.heap [] := eσ ▸ hS
  have hsz : s.heap.size + 0 = B + σ0.length := eσ ▸ hsz
  obtain ⟨-, h⟩ := ez_in h
  refine lv_aload_n hx hb dX4_init_0 rfl (lv_at hl 0 rfl) ?_
  refine ez_obj hC ql_RX4_3 hl.1 rfl (by decide) dX4_init_1 ?_
  refine lv_aload_n hx hb dX4_init_4 rfl (lv_at hl 0 rfl) ?_
  refine ez_new (ci := 3) (fs := [.inr (.inr none), .inr (.inr none), .inr (.inr none), .inl 0, .inl 0, .inl 0, .inl 0, .inl 0, .inr (.inr none), .inr (.inr none), .inr (.inr none), .inr (.inr none), .inr (.inr none)]) (c1 := 1) (s1 := 13) (n1 := σ0.length + 1) tyX3 hC hB hS hsz rfl inq_3 tyX3_ok qk_RX4_9 qn_3 qi_3 (fun j hj => by rcases (show j = 0 ∨ j = 1 ∨ j = 2 ∨ j = 3 ∨ j = 4 ∨ j = 5 ∨ j = 6 ∨ j = 7 ∨ j = 8 ∨ j = 9 ∨ j = 10 ∨ j = 11 ∨ j = 12 by omega) with rfl | rfl | rfl | rfl | rfl | rfl | rfl | rfl | rfl | rfl | rfl | rfl | rfl <;> rfl) rfl rfl rfl (Nat.le_trans (by decide) hR.1) (Nat.le_trans (by decide) hR.2) h dX4_init_5 (fun t_5 σ H hS hsz h => ?_)
  refine lv_dup hx hb dX4_init_8 rfl ?_
  refine ez_cI (As := []) (rest := [.ref (B + t_5), .ref (B + h0)]) (n' := 0) (c1 := 14) (s1 := 695) (n1 := σ0.length + 14) h (fun _ q => c_X3_init q) hC ki_X3_init rfl (by decide +kernel) ql_RX4_11 rfl (by decide) hS (Nat.succ_pos _) hsz hl.1 rfl (Nat.le_of_ble_eq_true rfl) rfl rfl rfl ⟨Nat.le_trans (by decide) hR.1, Nat.le_trans (by decide) hR.2⟩ dX4_init_9 (fun σ H locs hS hsz h => ?_)
  refine eF_RX4_12 hin hC hS h dX4_init_12 (fun σ H locs hS h => ?_)
  refine lv_aload_n hx hb dX4_init_15 rfl (lv_at hl 0 rfl) ?_
  refine lv_iconst (v := 0) hx hb dX4_init_16 (by decide) ?_
  refine ep_RX4_18 hC hS h dX4_init_17 (fun σ H locs hS h => ?_)
  refine lv_aload_n hx hb dX4_init_20 rfl (lv_at hl 0 rfl) ?_
  refine lv_iconst (v := -1) hx hb dX4_init_21 (by decide) ?_
  refine ep_RX4_22 hC hS h dX4_init_22 (fun σ H locs hS h => ?_)
  refine lv_aload_n hx hb dX4_init_25 rfl (lv_at hl 0 rfl) ?_
  refine ez_new (ci := 9) (fs := [.inr (.inr none), .inr (.inr none), .inl 0, .inl 0, .inl 0, .inl 0, .inl 0, .inr (.inl 0)]) (c1 := 15) (s1 := 703) (n1 := σ0.length + 15) tyX9 hC hB hS hsz rfl inq_9 tyX9_ok qk_RX4_25 qn_9 qi_9 (fun j hj => by rcases (show j = 0 ∨ j = 1 ∨ j = 2 ∨ j = 3 ∨ j = 4 ∨ j = 5 ∨ j = 6 ∨ j = 7 by omega) with rfl | rfl | rfl | rfl | rfl | rfl | rfl | rfl <;> rfl) rfl rfl rfl (Nat.le_trans (by decide) hR.1) (Nat.le_trans (by decide) hR.2) h dX4_init_26 (fun t_26 σ H hS hsz h => ?_)
  refine lv_dup hx hb dX4_init_29 rfl ?_
  refine lv_aload_n hx hb dX4_init_30 rfl (lv_at hl 1 rfl) ?_
  refine ez_cI (As := [.ref (B + h1)]) (rest := [.ref (B + t_26), .ref (B + h0)]) (n' := 1) (c1 := 16) (s1 := 726) (n1 := σ0.length + 16) h (fun _ q => c_X9_init q) hC ki_X9_init rfl (by decide +kernel) ql_RX4_27 rfl (by decide) hS (Nat.succ_pos _) hsz hl.1 rfl (Nat.le_of_ble_eq_true rfl) rfl rfl rfl ⟨Nat.le_trans (by decide) hR.1, Nat.le_trans (by decide) hR.2⟩ dX4_init_31 (fun σ H locs hS hsz h => ?_)
  refine eF_RX4_30 hin hC hS h dX4_init_34 (fun σ H locs hS h => ?_)
  refine lv_aload_n hx hb dX4_init_37 rfl (lv_at hl 0 rfl) ?_
  refine lv_iconst (v := 5) hx hb dX4_init_38 (by decide) ?_
  refine lv_bipush (v := 8) hx hb dX4_init_39 (by decide) ?_
  refine ez_mna (N1 := 5) (N2 := 8) (c1 := 22) (s1 := 771) (n1 := σ0.length + 22) hC hS (Nat.succ_pos _) hsz qk_RX4_34 (by decide) (by decide) (by decide) (by decide) (by decide) (by decide) rfl rfl rfl (Nat.le_trans (by decide) hR.1) (Nat.le_trans (by decide) hR.2) h dX4_init_41 (fun t_41 σ H locs hS hsz h => ?_)
  refine eF_RX4_36 hin hC hS h dX4_init_45 (fun σ H locs hS h => ?_)
  exact hret _ _ _ _ _ _ (Option.some.inj h) hS dX4_init_48
set_option maxHeartbeats 4000000 in
set_option maxRecDepth 100000 in
theorem c_X1_init {l : Launch} {X : ez_X} {B : Nat} {σ : ez_H} {h0 : Nat} {z : Unit × ez_H} (h : z_X1_init σ h0 = some z) : ez_Mn l X B σ yX1_init cX1_init 2 2 83 1517 [.ref (B + h0)] z.2 := by
  refine ez_startn (z := z) (by decide) rfl (Nat.le_of_ble_eq_true rfl) (fun p e R s m args below meth c Q hC hin hR hsz hret hS ls hl => ?_)
  have hC : ez_C p R s m args c X B RX1 cX1_init 2 2 := hC
  have hx := hC.1.1
  have hb := hC.1.2.1
  have hown := hC.1.2.2.2.1
  have hts := hC.1.2.2.2.2
  have hl : lv_has ls 2 [(0, .ref (B + h0))] := hl
  have hB : B ≤ s.heap.size := by omega
  obtain ⟨σ0, eσ⟩ : ∃ σ0 : ez_H, σ0 = σ := ⟨_, rfl⟩
  rw [← eσ] at hret
  have hS : ez_S X B s.heap σ0.length σ s.heap [] := eσ ▸ hS
  have hsz : s.heap.size + 0 = B + σ0.length := eσ ▸ hsz
  obtain ⟨-, h⟩ := ez_in h
  refine lv_aload_n hx hb dX1_init_0 rfl (lv_at hl 0 rfl) ?_
  refine ez_obj hC ql_RX1_3 hl.1 rfl (by decide) dX1_init_1 ?_
  refine lv_aload_n hx hb dX1_init_4 rfl (lv_at hl 0 rfl) ?_
  refine lv_bipush (v := 41) hx hb dX1_init_5 (by decide) ?_
  refine ez_newq (N := 41) (c1 := 1) (s1 := 41) (n1 := σ0.length + 1) hC hB hS hsz qk_RX1_9 (by decide) (by decide) (by decide) rfl rfl rfl (Nat.le_trans (by decide) hR.1) (Nat.le_trans (by decide) hR.2) h dX1_init_7 (fun t_7_425 σ H hS hsz h => ?_)
  refine eF_RX1_11 hin hC hS h dX1_init_10 (fun σ H locs hS h => ?_)
  refine lv_iconst (v := 0) hx hb dX1_init_13 (by decide) ?_
  refine lv_istore_n (lv' := [(1, .int 0), (0, .ref (B + h0))]) hx hb dX1_init_14 rfl hl (by decide) rfl (fun ls hl => ?_)
  refine lv_iload_n hx hb dX1_init_15 rfl (lv_at hl 0 rfl) ?_
  refine lv_bipush (v := 41) hx hb dX1_init_16 (by decide) ?_
  refine lv_icmp_ge (tgt := 40) hx hb dX1_init_18 (by decide) (fun c_18 => ?_) (fun c_18 => ?_)
  · exact absurd c_18 (by decide)
  · skip
    refine lv_aload_n hx hb dX1_init_21 rfl (lv_at hl 1 rfl) ?_
    refine eg_RX1_11 hC hS h dX1_init_22 (fun t_22_432 h => ?_)
    refine lv_iload_n hx hb dX1_init_25 rfl (lv_at hl 0 rfl) ?_
    refine ez_new (ci := 7) (fs := [.inr (.inr none)]) (c1 := 2) (s1 := 42) (n1 := σ0.length + 2) tyX7 hC hB hS hsz rfl inq_7 tyX7_ok qk_RX1_9 qn_7 qi_7 (fun j hj => by rcases (show j = 0 by omega) with rfl <;> rfl) rfl rfl rfl (Nat.le_trans (by decide) hR.1) (Nat.le_trans (by decide) hR.2) h dX1_init_26 (fun t_26_434 σ H hS hsz h => ?_)
    refine lv_dup hx hb dX1_init_29 rfl ?_
    refine ez_cI (As := []) (rest := [.ref (B + t_26_434), .int 0, .ref (B + t_22_432)]) (n' := 0) (c1 := 3) (s1 := 77) (n1 := σ0.length + 3) h (fun _ q => c_X7_init q) hC ki_X7_init rfl (by decide +kernel) ql_RX1_15 rfl (by decide) hS (Nat.succ_pos _) hsz hl.1 rfl (Nat.le_of_ble_eq_true rfl) rfl rfl rfl ⟨Nat.le_trans (by decide) hR.1, Nat.le_trans (by decide) hR.2⟩ dX1_init_30 (fun σ H locs hS hsz h => ?_)
    refine ez_aas hC hS h dX1_init_33 (fun σ H locs hS h => ?_)
    refine lv_iinc (v := 1) (lv' := [(1, .int 1), (0, .ref (B + h0))]) hx hb dX1_init_34 hl (k := 0) rfl (by decide) (by decide) rfl (fun ls hl => ?_)
    refine lv_goto (tgt := 15) hx hb dX1_init_37 (by decide) ?_
    refine lv_iload_n hx hb dX1_init_15 rfl (lv_at hl 0 rfl) ?_
    refine lv_bipush (v := 41) hx hb dX1_init_16 (by decide) ?_
    refine lv_icmp_ge (tgt := 40) hx hb dX1_init_18 (by decide) (fun c_18 => ?_) (fun c_18 => ?_)
    · exact absurd c_18 (by decide)
    · skip
      refine lv_aload_n hx hb dX1_init_21 rfl (lv_at hl 1 rfl) ?_
      refine eg_RX1_11 hC hS h dX1_init_22 (fun t_22_442 h => ?_)
      refine lv_iload_n hx hb dX1_init_25 rfl (lv_at hl 0 rfl) ?_
      refine ez_new (ci := 7) (fs := [.inr (.inr none)]) (c1 := 4) (s1 := 78) (n1 := σ0.length + 4) tyX7 hC hB hS hsz rfl inq_7 tyX7_ok qk_RX1_9 qn_7 qi_7 (fun j hj => by rcases (show j = 0 by omega) with rfl <;> rfl) rfl rfl rfl (Nat.le_trans (by decide) hR.1) (Nat.le_trans (by decide) hR.2) h dX1_init_26 (fun t_26_444 σ H hS hsz h => ?_)
      refine lv_dup hx hb dX1_init_29 rfl ?_
      refine ez_cI (As := []) (rest := [.ref (B + t_26_444), .int 1, .ref (B + t_22_442)]) (n' := 0) (c1 := 5) (s1 := 113) (n1 := σ0.length + 5) h (fun _ q => c_X7_init q) hC ki_X7_init rfl (by decide +kernel) ql_RX1_15 rfl (by decide) hS (Nat.succ_pos _) hsz hl.1 rfl (Nat.le_of_ble_eq_true rfl) rfl rfl rfl ⟨Nat.le_trans (by decide) hR.1, Nat.le_trans (by decide) hR.2⟩ dX1_init_30 (fun σ H locs hS hsz h => ?_)
      refine ez_aas hC hS h dX1_init_33 (fun σ H locs hS h => ?_)
      refine lv_iinc (v := 2) (lv' := [(1, .int 2), (0, .ref (B + h0))]) hx hb dX1_init_34 hl (k := 0) rfl (by decide) (by decide) rfl (fun ls hl => ?_)
      refine lv_goto (tgt := 15) hx hb dX1_init_37 (by decide) ?_
      refine lv_iload_n hx hb dX1_init_15 rfl (lv_at hl 0 rfl) ?_
      refine lv_bipush (v := 41) hx hb dX1_init_16 (by decide) ?_
      refine lv_icmp_ge (tgt := 40) hx hb dX1_init_18 (by decide) (fun c_18 => ?_) (fun c_18 => ?_)
      · exact absurd c_18 (by decide)
      · skip
        refine lv_aload_n hx hb dX1_init_21 rfl (lv_at hl 1 rfl) ?_
        refine eg_RX1_11 hC hS h dX1_init_22 (fun t_22_452 h => ?_)
        refine lv_iload_n hx hb dX1_init_25 rfl (lv_at hl 0 rfl) ?_
        refine ez_new (ci := 7) (fs := [.inr (.inr none)]) (c1 := 6) (s1 := 114) (n1 := σ0.length + 6) tyX7 hC hB hS hsz rfl inq_7 tyX7_ok qk_RX1_9 qn_7 qi_7 (fun j hj => by rcases (show j = 0 by omega) with rfl <;> rfl) rfl rfl rfl (Nat.le_trans (by decide) hR.1) (Nat.le_trans (by decide) hR.2) h dX1_init_26 (fun t_26_454 σ H hS hsz h => ?_)
        refine lv_dup hx hb dX1_init_29 rfl ?_
        refine ez_cI (As := []) (rest := [.ref (B + t_26_454), .int 2, .ref (B + t_22_452)]) (n' := 0) (c1 := 7) (s1 := 149) (n1 := σ0.length + 7) h (fun _ q => c_X7_init q) hC ki_X7_init rfl (by decide +kernel) ql_RX1_15 rfl (by decide) hS (Nat.succ_pos _) hsz hl.1 rfl (Nat.le_of_ble_eq_true rfl) rfl rfl rfl ⟨Nat.le_trans (by decide) hR.1, Nat.le_trans (by decide) hR.2⟩ dX1_init_30 (fun σ H locs hS hsz h => ?_)
        refine ez_aas hC hS h dX1_init_33 (fun σ H locs hS h => ?_)
        refine lv_iinc (v := 3) (lv' := [(1, .int 3), (0, .ref (B + h0))]) hx hb dX1_init_34 hl (k := 0) rfl (by decide) (by decide) rfl (fun ls hl => ?_)
        refine lv_goto (tgt := 15) hx hb dX1_init_37 (by decide) ?_
        refine lv_iload_n hx hb dX1_init_15 rfl (lv_at hl 0 rfl) ?_
        refine lv_bipush (v := 41) hx hb dX1_init_16 (by decide) ?_
        refine lv_icmp_ge (tgt := 40) hx hb dX1_init_18 (by decide) (fun c_18 => ?_) (fun c_18 => ?_)
        · exact absurd c_18 (by decide)
        · skip
          refine lv_aload_n hx hb dX1_init_21 rfl (lv_at hl 1 rfl) ?_
          refine eg_RX1_11 hC hS h dX1_init_22 (fun t_22_462 h => ?_)
          refine lv_iload_n hx hb dX1_init_25 rfl (lv_at hl 0 rfl) ?_
          refine ez_new (ci := 7) (fs := [.inr (.inr none)]) (c1 := 8) (s1 := 150) (n1 := σ0.length + 8) tyX7 hC hB hS hsz rfl inq_7 tyX7_ok qk_RX1_9 qn_7 qi_7 (fun j hj => by rcases (show j = 0 by omega) with rfl <;> rfl) rfl rfl rfl (Nat.le_trans (by decide) hR.1) (Nat.le_trans (by decide) hR.2) h dX1_init_26 (fun t_26_464 σ H hS hsz h => ?_)
          refine lv_dup hx hb dX1_init_29 rfl ?_
          refine ez_cI (As := []) (rest := [.ref (B + t_26_464), .int 3, .ref (B + t_22_462)]) (n' := 0) (c1 := 9) (s1 := 185) (n1 := σ0.length + 9) h (fun _ q => c_X7_init q) hC ki_X7_init rfl (by decide +kernel) ql_RX1_15 rfl (by decide) hS (Nat.succ_pos _) hsz hl.1 rfl (Nat.le_of_ble_eq_true rfl) rfl rfl rfl ⟨Nat.le_trans (by decide) hR.1, Nat.le_trans (by decide) hR.2⟩ dX1_init_30 (fun σ H locs hS hsz h => ?_)
          refine ez_aas hC hS h dX1_init_33 (fun σ H locs hS h => ?_)
          refine lv_iinc (v := 4) (lv' := [(1, .int 4), (0, .ref (B + h0))]) hx hb dX1_init_34 hl (k := 0) rfl (by decide) (by decide) rfl (fun ls hl => ?_)
          refine lv_goto (tgt := 15) hx hb dX1_init_37 (by decide) ?_
          refine lv_iload_n hx hb dX1_init_15 rfl (lv_at hl 0 rfl) ?_
          refine lv_bipush (v := 41) hx hb dX1_init_16 (by decide) ?_
          refine lv_icmp_ge (tgt := 40) hx hb dX1_init_18 (by decide) (fun c_18 => ?_) (fun c_18 => ?_)
          · exact absurd c_18 (by decide)
          · skip
            refine lv_aload_n hx hb dX1_init_21 rfl (lv_at hl 1 rfl) ?_
            refine eg_RX1_11 hC hS h dX1_init_22 (fun t_22_472 h => ?_)
            refine lv_iload_n hx hb dX1_init_25 rfl (lv_at hl 0 rfl) ?_
            refine ez_new (ci := 7) (fs := [.inr (.inr none)]) (c1 := 10) (s1 := 186) (n1 := σ0.length + 10) tyX7 hC hB hS hsz rfl inq_7 tyX7_ok qk_RX1_9 qn_7 qi_7 (fun j hj => by rcases (show j = 0 by omega) with rfl <;> rfl) rfl rfl rfl (Nat.le_trans (by decide) hR.1) (Nat.le_trans (by decide) hR.2) h dX1_init_26 (fun t_26_474 σ H hS hsz h => ?_)
            refine lv_dup hx hb dX1_init_29 rfl ?_
            refine ez_cI (As := []) (rest := [.ref (B + t_26_474), .int 4, .ref (B + t_22_472)]) (n' := 0) (c1 := 11) (s1 := 221) (n1 := σ0.length + 11) h (fun _ q => c_X7_init q) hC ki_X7_init rfl (by decide +kernel) ql_RX1_15 rfl (by decide) hS (Nat.succ_pos _) hsz hl.1 rfl (Nat.le_of_ble_eq_true rfl) rfl rfl rfl ⟨Nat.le_trans (by decide) hR.1, Nat.le_trans (by decide) hR.2⟩ dX1_init_30 (fun σ H locs hS hsz h => ?_)
            refine ez_aas hC hS h dX1_init_33 (fun σ H locs hS h => ?_)
            refine lv_iinc (v := 5) (lv' := [(1, .int 5), (0, .ref (B + h0))]) hx hb dX1_init_34 hl (k := 0) rfl (by decide) (by decide) rfl (fun ls hl => ?_)
            refine lv_goto (tgt := 15) hx hb dX1_init_37 (by decide) ?_
            refine lv_iload_n hx hb dX1_init_15 rfl (lv_at hl 0 rfl) ?_
            refine lv_bipush (v := 41) hx hb dX1_init_16 (by decide) ?_
            refine lv_icmp_ge (tgt := 40) hx hb dX1_init_18 (by decide) (fun c_18 => ?_) (fun c_18 => ?_)
            · exact absurd c_18 (by decide)
            · skip
              refine lv_aload_n hx hb dX1_init_21 rfl (lv_at hl 1 rfl) ?_
              refine eg_RX1_11 hC hS h dX1_init_22 (fun t_22_482 h => ?_)
              refine lv_iload_n hx hb dX1_init_25 rfl (lv_at hl 0 rfl) ?_
              refine ez_new (ci := 7) (fs := [.inr (.inr none)]) (c1 := 12) (s1 := 222) (n1 := σ0.length + 12) tyX7 hC hB hS hsz rfl inq_7 tyX7_ok qk_RX1_9 qn_7 qi_7 (fun j hj => by rcases (show j = 0 by omega) with rfl <;> rfl) rfl rfl rfl (Nat.le_trans (by decide) hR.1) (Nat.le_trans (by decide) hR.2) h dX1_init_26 (fun t_26_484 σ H hS hsz h => ?_)
              refine lv_dup hx hb dX1_init_29 rfl ?_
              refine ez_cI (As := []) (rest := [.ref (B + t_26_484), .int 5, .ref (B + t_22_482)]) (n' := 0) (c1 := 13) (s1 := 257) (n1 := σ0.length + 13) h (fun _ q => c_X7_init q) hC ki_X7_init rfl (by decide +kernel) ql_RX1_15 rfl (by decide) hS (Nat.succ_pos _) hsz hl.1 rfl (Nat.le_of_ble_eq_true rfl) rfl rfl rfl ⟨Nat.le_trans (by decide) hR.1, Nat.le_trans (by decide) hR.2⟩ dX1_init_30 (fun σ H locs hS hsz h => ?_)
              refine ez_aas hC hS h dX1_init_33 (fun σ H locs hS h => ?_)
              refine lv_iinc (v := 6) (lv' := [(1, .int 6), (0, .ref (B + h0))]) hx hb dX1_init_34 hl (k := 0) rfl (by decide) (by decide) rfl (fun ls hl => ?_)
              refine lv_goto (tgt := 15) hx hb dX1_init_37 (by decide) ?_
              refine lv_iload_n hx hb dX1_init_15 rfl (lv_at hl 0 rfl) ?_
              refine lv_bipush (v := 41) hx hb dX1_init_16 (by decide) ?_
              refine lv_icmp_ge (tgt := 40) hx hb dX1_init_18 (by decide) (fun c_18 => ?_) (fun c_18 => ?_)
              · exact absurd c_18 (by decide)
              · skip
                refine lv_aload_n hx hb dX1_init_21 rfl (lv_at hl 1 rfl) ?_
                refine eg_RX1_11 hC hS h dX1_init_22 (fun t_22_492 h => ?_)
                refine lv_iload_n hx hb dX1_init_25 rfl (lv_at hl 0 rfl) ?_
                refine ez_new (ci := 7) (fs := [.inr (.inr none)]) (c1 := 14) (s1 := 258) (n1 := σ0.length + 14) tyX7 hC hB hS hsz rfl inq_7 tyX7_ok qk_RX1_9 qn_7 qi_7 (fun j hj => by rcases (show j = 0 by omega) with rfl <;> rfl) rfl rfl rfl (Nat.le_trans (by decide) hR.1) (Nat.le_trans (by decide) hR.2) h dX1_init_26 (fun t_26_494 σ H hS hsz h => ?_)
                refine lv_dup hx hb dX1_init_29 rfl ?_
                refine ez_cI (As := []) (rest := [.ref (B + t_26_494), .int 6, .ref (B + t_22_492)]) (n' := 0) (c1 := 15) (s1 := 293) (n1 := σ0.length + 15) h (fun _ q => c_X7_init q) hC ki_X7_init rfl (by decide +kernel) ql_RX1_15 rfl (by decide) hS (Nat.succ_pos _) hsz hl.1 rfl (Nat.le_of_ble_eq_true rfl) rfl rfl rfl ⟨Nat.le_trans (by decide) hR.1, Nat.le_trans (by decide) hR.2⟩ dX1_init_30 (fun σ H locs hS hsz h => ?_)
                refine ez_aas hC hS h dX1_init_33 (fun σ H locs hS h => ?_)
                refine lv_iinc (v := 7) (lv' := [(1, .int 7), (0, .ref (B + h0))]) hx hb dX1_init_34 hl (k := 0) rfl (by decide) (by decide) rfl (fun ls hl => ?_)
                refine lv_goto (tgt := 15) hx hb dX1_init_37 (by decide) ?_
                refine lv_iload_n hx hb dX1_init_15 rfl (lv_at hl 0 rfl) ?_
                refine lv_bipush (v := 41) hx hb dX1_init_16 (by decide) ?_
                refine lv_icmp_ge (tgt := 40) hx hb dX1_init_18 (by decide) (fun c_18 => ?_) (fun c_18 => ?_)
                · exact absurd c_18 (by decide)
                · skip
                  refine lv_aload_n hx hb dX1_init_21 rfl (lv_at hl 1 rfl) ?_
                  refine eg_RX1_11 hC hS h dX1_init_22 (fun t_22_502 h => ?_)
                  refine lv_iload_n hx hb dX1_init_25 rfl (lv_at hl 0 rfl) ?_
                  refine ez_new (ci := 7) (fs := [.inr (.inr none)]) (c1 := 16) (s1 := 294) (n1 := σ0.length + 16) tyX7 hC hB hS hsz rfl inq_7 tyX7_ok qk_RX1_9 qn_7 qi_7 (fun j hj => by rcases (show j = 0 by omega) with rfl <;> rfl) rfl rfl rfl (Nat.le_trans (by decide) hR.1) (Nat.le_trans (by decide) hR.2) h dX1_init_26 (fun t_26_504 σ H hS hsz h => ?_)
                  refine lv_dup hx hb dX1_init_29 rfl ?_
                  refine ez_cI (As := []) (rest := [.ref (B + t_26_504), .int 7, .ref (B + t_22_502)]) (n' := 0) (c1 := 17) (s1 := 329) (n1 := σ0.length + 17) h (fun _ q => c_X7_init q) hC ki_X7_init rfl (by decide +kernel) ql_RX1_15 rfl (by decide) hS (Nat.succ_pos _) hsz hl.1 rfl (Nat.le_of_ble_eq_true rfl) rfl rfl rfl ⟨Nat.le_trans (by decide) hR.1, Nat.le_trans (by decide) hR.2⟩ dX1_init_30 (fun σ H locs hS hsz h => ?_)
                  refine ez_aas hC hS h dX1_init_33 (fun σ H locs hS h => ?_)
                  refine lv_iinc (v := 8) (lv' := [(1, .int 8), (0, .ref (B + h0))]) hx hb dX1_init_34 hl (k := 0) rfl (by decide) (by decide) rfl (fun ls hl => ?_)
                  refine lv_goto (tgt := 15) hx hb dX1_init_37 (by decide) ?_
                  refine lv_iload_n hx hb dX1_init_15 rfl (lv_at hl 0 rfl) ?_
                  refine lv_bipush (v := 41) hx hb dX1_init_16 (by decide) ?_
                  refine lv_icmp_ge (tgt := 40) hx hb dX1_init_18 (by decide) (fun c_18 => ?_) (fun c_18 => ?_)
                  · exact absurd c_18 (by decide)
                  · skip
                    refine lv_aload_n hx hb dX1_init_21 rfl (lv_at hl 1 rfl) ?_
                    refine eg_RX1_11 hC hS h dX1_init_22 (fun t_22_512 h => ?_)
                    refine lv_iload_n hx hb dX1_init_25 rfl (lv_at hl 0 rfl) ?_
                    refine ez_new (ci := 7) (fs := [.inr (.inr none)]) (c1 := 18) (s1 := 330) (n1 := σ0.length + 18) tyX7 hC hB hS hsz rfl inq_7 tyX7_ok qk_RX1_9 qn_7 qi_7 (fun j hj => by rcases (show j = 0 by omega) with rfl <;> rfl) rfl rfl rfl (Nat.le_trans (by decide) hR.1) (Nat.le_trans (by decide) hR.2) h dX1_init_26 (fun t_26_514 σ H hS hsz h => ?_)
                    refine lv_dup hx hb dX1_init_29 rfl ?_
                    refine ez_cI (As := []) (rest := [.ref (B + t_26_514), .int 8, .ref (B + t_22_512)]) (n' := 0) (c1 := 19) (s1 := 365) (n1 := σ0.length + 19) h (fun _ q => c_X7_init q) hC ki_X7_init rfl (by decide +kernel) ql_RX1_15 rfl (by decide) hS (Nat.succ_pos _) hsz hl.1 rfl (Nat.le_of_ble_eq_true rfl) rfl rfl rfl ⟨Nat.le_trans (by decide) hR.1, Nat.le_trans (by decide) hR.2⟩ dX1_init_30 (fun σ H locs hS hsz h => ?_)
                    refine ez_aas hC hS h dX1_init_33 (fun σ H locs hS h => ?_)
                    refine lv_iinc (v := 9) (lv' := [(1, .int 9), (0, .ref (B + h0))]) hx hb dX1_init_34 hl (k := 0) rfl (by decide) (by decide) rfl (fun ls hl => ?_)
                    refine lv_goto (tgt := 15) hx hb dX1_init_37 (by decide) ?_
                    refine lv_iload_n hx hb dX1_init_15 rfl (lv_at hl 0 rfl) ?_
                    refine lv_bipush (v := 41) hx hb dX1_init_16 (by decide) ?_
                    refine lv_icmp_ge (tgt := 40) hx hb dX1_init_18 (by decide) (fun c_18 => ?_) (fun c_18 => ?_)
                    · exact absurd c_18 (by decide)
                    · skip
                      refine lv_aload_n hx hb dX1_init_21 rfl (lv_at hl 1 rfl) ?_
                      refine eg_RX1_11 hC hS h dX1_init_22 (fun t_22_522 h => ?_)
                      refine lv_iload_n hx hb dX1_init_25 rfl (lv_at hl 0 rfl) ?_
                      refine ez_new (ci := 7) (fs := [.inr (.inr none)]) (c1 := 20) (s1 := 366) (n1 := σ0.length + 20) tyX7 hC hB hS hsz rfl inq_7 tyX7_ok qk_RX1_9 qn_7 qi_7 (fun j hj => by rcases (show j = 0 by omega) with rfl <;> rfl) rfl rfl rfl (Nat.le_trans (by decide) hR.1) (Nat.le_trans (by decide) hR.2) h dX1_init_26 (fun t_26_524 σ H hS hsz h => ?_)
                      refine lv_dup hx hb dX1_init_29 rfl ?_
                      refine ez_cI (As := []) (rest := [.ref (B + t_26_524), .int 9, .ref (B + t_22_522)]) (n' := 0) (c1 := 21) (s1 := 401) (n1 := σ0.length + 21) h (fun _ q => c_X7_init q) hC ki_X7_init rfl (by decide +kernel) ql_RX1_15 rfl (by decide) hS (Nat.succ_pos _) hsz hl.1 rfl (Nat.le_of_ble_eq_true rfl) rfl rfl rfl ⟨Nat.le_trans (by decide) hR.1, Nat.le_trans (by decide) hR.2⟩ dX1_init_30 (fun σ H locs hS hsz h => ?_)
                      refine ez_aas hC hS h dX1_init_33 (fun σ H locs hS h => ?_)
                      refine lv_iinc (v := 10) (lv' := [(1, .int 10), (0, .ref (B + h0))]) hx hb dX1_init_34 hl (k := 0) rfl (by decide) (by decide) rfl (fun ls hl => ?_)
                      refine lv_goto (tgt := 15) hx hb dX1_init_37 (by decide) ?_
                      refine lv_iload_n hx hb dX1_init_15 rfl (lv_at hl 0 rfl) ?_
                      refine lv_bipush (v := 41) hx hb dX1_init_16 (by decide) ?_
                      refine lv_icmp_ge (tgt := 40) hx hb dX1_init_18 (by decide) (fun c_18 => ?_) (fun c_18 => ?_)
                      · exact absurd c_18 (by decide)
                      · skip
                        refine lv_aload_n hx hb dX1_init_21 rfl (lv_at hl 1 rfl) ?_
                        refine eg_RX1_11 hC hS h dX1_init_22 (fun t_22_532 h => ?_)
                        refine lv_iload_n hx hb dX1_init_25 rfl (lv_at hl 0 rfl) ?_
                        refine ez_new (ci := 7) (fs := [.inr (.inr none)]) (c1 := 22) (s1 := 402) (n1 := σ0.length + 22) tyX7 hC hB hS hsz rfl inq_7 tyX7_ok qk_RX1_9 qn_7 qi_7 (fun j hj => by rcases (show j = 0 by omega) with rfl <;> rfl) rfl rfl rfl (Nat.le_trans (by decide) hR.1) (Nat.le_trans (by decide) hR.2) h dX1_init_26 (fun t_26_534 σ H hS hsz h => ?_)
                        refine lv_dup hx hb dX1_init_29 rfl ?_
                        refine ez_cI (As := []) (rest := [.ref (B + t_26_534), .int 10, .ref (B + t_22_532)]) (n' := 0) (c1 := 23) (s1 := 437) (n1 := σ0.length + 23) h (fun _ q => c_X7_init q) hC ki_X7_init rfl (by decide +kernel) ql_RX1_15 rfl (by decide) hS (Nat.succ_pos _) hsz hl.1 rfl (Nat.le_of_ble_eq_true rfl) rfl rfl rfl ⟨Nat.le_trans (by decide) hR.1, Nat.le_trans (by decide) hR.2⟩ dX1_init_30 (fun σ H locs hS hsz h => ?_)
                        refine ez_aas hC hS h dX1_init_33 (fun σ H locs hS h => ?_)
                        refine lv_iinc (v := 11) (lv' := [(1, .int 11), (0, .ref (B + h0))]) hx hb dX1_init_34 hl (k := 0) rfl (by decide) (by decide) rfl (fun ls hl => ?_)
                        refine lv_goto (tgt := 15) hx hb dX1_init_37 (by decide) ?_
                        refine lv_iload_n hx hb dX1_init_15 rfl (lv_at hl 0 rfl) ?_
                        refine lv_bipush (v := 41) hx hb dX1_init_16 (by decide) ?_
                        refine lv_icmp_ge (tgt := 40) hx hb dX1_init_18 (by decide) (fun c_18 => ?_) (fun c_18 => ?_)
                        · exact absurd c_18 (by decide)
                        · skip
                          refine lv_aload_n hx hb dX1_init_21 rfl (lv_at hl 1 rfl) ?_
                          refine eg_RX1_11 hC hS h dX1_init_22 (fun t_22_542 h => ?_)
                          refine lv_iload_n hx hb dX1_init_25 rfl (lv_at hl 0 rfl) ?_
                          refine ez_new (ci := 7) (fs := [.inr (.inr none)]) (c1 := 24) (s1 := 438) (n1 := σ0.length + 24) tyX7 hC hB hS hsz rfl inq_7 tyX7_ok qk_RX1_9 qn_7 qi_7 (fun j hj => by rcases (show j = 0 by omega) with rfl <;> rfl) rfl rfl rfl (Nat.le_trans (by decide) hR.1) (Nat.le_trans (by decide) hR.2) h dX1_init_26 (fun t_26_544 σ H hS hsz h => ?_)
                          refine lv_dup hx hb dX1_init_29 rfl ?_
                          refine ez_cI (As := []) (rest := [.ref (B + t_26_544), .int 11, .ref (B + t_22_542)]) (n' := 0) (c1 := 25) (s1 := 473) (n1 := σ0.length + 25) h (fun _ q => c_X7_init q) hC ki_X7_init rfl (by decide +kernel) ql_RX1_15 rfl (by decide) hS (Nat.succ_pos _) hsz hl.1 rfl (Nat.le_of_ble_eq_true rfl) rfl rfl rfl ⟨Nat.le_trans (by decide) hR.1, Nat.le_trans (by decide) hR.2⟩ dX1_init_30 (fun σ H locs hS hsz h => ?_)
                          refine ez_aas hC hS h dX1_init_33 (fun σ H locs hS h => ?_)
                          refine lv_iinc (v := 12) (lv' := [(1, .int 12), (0, .ref (B + h0))]) hx hb dX1_init_34 hl (k := 0) rfl (by decide) (by decide) rfl (fun ls hl => ?_)
                          refine lv_goto (tgt := 15) hx hb dX1_init_37 (by decide) ?_
                          refine lv_iload_n hx hb dX1_init_15 rfl (lv_at hl 0 rfl) ?_
                          refine lv_bipush (v := 41) hx hb dX1_init_16 (by decide) ?_
                          refine lv_icmp_ge (tgt := 40) hx hb dX1_init_18 (by decide) (fun c_18 => ?_) (fun c_18 => ?_)
                          · exact absurd c_18 (by decide)
                          · skip
                            refine lv_aload_n hx hb dX1_init_21 rfl (lv_at hl 1 rfl) ?_
                            refine eg_RX1_11 hC hS h dX1_init_22 (fun t_22_552 h => ?_)
                            refine lv_iload_n hx hb dX1_init_25 rfl (lv_at hl 0 rfl) ?_
                            refine ez_new (ci := 7) (fs := [.inr (.inr none)]) (c1 := 26) (s1 := 474) (n1 := σ0.length + 26) tyX7 hC hB hS hsz rfl inq_7 tyX7_ok qk_RX1_9 qn_7 qi_7 (fun j hj => by rcases (show j = 0 by omega) with rfl <;> rfl) rfl rfl rfl (Nat.le_trans (by decide) hR.1) (Nat.le_trans (by decide) hR.2) h dX1_init_26 (fun t_26_554 σ H hS hsz h => ?_)
                            refine lv_dup hx hb dX1_init_29 rfl ?_
                            refine ez_cI (As := []) (rest := [.ref (B + t_26_554), .int 12, .ref (B + t_22_552)]) (n' := 0) (c1 := 27) (s1 := 509) (n1 := σ0.length + 27) h (fun _ q => c_X7_init q) hC ki_X7_init rfl (by decide +kernel) ql_RX1_15 rfl (by decide) hS (Nat.succ_pos _) hsz hl.1 rfl (Nat.le_of_ble_eq_true rfl) rfl rfl rfl ⟨Nat.le_trans (by decide) hR.1, Nat.le_trans (by decide) hR.2⟩ dX1_init_30 (fun σ H locs hS hsz h => ?_)
                            refine ez_aas hC hS h dX1_init_33 (fun σ H locs hS h => ?_)
                            refine lv_iinc (v := 13) (lv' := [(1, .int 13), (0, .ref (B + h0))]) hx hb dX1_init_34 hl (k := 0) rfl (by decide) (by decide) rfl (fun ls hl => ?_)
                            refine lv_goto (tgt := 15) hx hb dX1_init_37 (by decide) ?_
                            refine lv_iload_n hx hb dX1_init_15 rfl (lv_at hl 0 rfl) ?_
                            refine lv_bipush (v := 41) hx hb dX1_init_16 (by decide) ?_
                            refine lv_icmp_ge (tgt := 40) hx hb dX1_init_18 (by decide) (fun c_18 => ?_) (fun c_18 => ?_)
                            · exact absurd c_18 (by decide)
                            · skip
                              refine lv_aload_n hx hb dX1_init_21 rfl (lv_at hl 1 rfl) ?_
                              refine eg_RX1_11 hC hS h dX1_init_22 (fun t_22_562 h => ?_)
                              refine lv_iload_n hx hb dX1_init_25 rfl (lv_at hl 0 rfl) ?_
                              refine ez_new (ci := 7) (fs := [.inr (.inr none)]) (c1 := 28) (s1 := 510) (n1 := σ0.length + 28) tyX7 hC hB hS hsz rfl inq_7 tyX7_ok qk_RX1_9 qn_7 qi_7 (fun j hj => by rcases (show j = 0 by omega) with rfl <;> rfl) rfl rfl rfl (Nat.le_trans (by decide) hR.1) (Nat.le_trans (by decide) hR.2) h dX1_init_26 (fun t_26_564 σ H hS hsz h => ?_)
                              refine lv_dup hx hb dX1_init_29 rfl ?_
                              refine ez_cI (As := []) (rest := [.ref (B + t_26_564), .int 13, .ref (B + t_22_562)]) (n' := 0) (c1 := 29) (s1 := 545) (n1 := σ0.length + 29) h (fun _ q => c_X7_init q) hC ki_X7_init rfl (by decide +kernel) ql_RX1_15 rfl (by decide) hS (Nat.succ_pos _) hsz hl.1 rfl (Nat.le_of_ble_eq_true rfl) rfl rfl rfl ⟨Nat.le_trans (by decide) hR.1, Nat.le_trans (by decide) hR.2⟩ dX1_init_30 (fun σ H locs hS hsz h => ?_)
                              refine ez_aas hC hS h dX1_init_33 (fun σ H locs hS h => ?_)
                              refine lv_iinc (v := 14) (lv' := [(1, .int 14), (0, .ref (B + h0))]) hx hb dX1_init_34 hl (k := 0) rfl (by decide) (by decide) rfl (fun ls hl => ?_)
                              refine lv_goto (tgt := 15) hx hb dX1_init_37 (by decide) ?_
                              refine lv_iload_n hx hb dX1_init_15 rfl (lv_at hl 0 rfl) ?_
                              refine lv_bipush (v := 41) hx hb dX1_init_16 (by decide) ?_
                              refine lv_icmp_ge (tgt := 40) hx hb dX1_init_18 (by decide) (fun c_18 => ?_) (fun c_18 => ?_)
                              · exact absurd c_18 (by decide)
                              · skip
                                refine lv_aload_n hx hb dX1_init_21 rfl (lv_at hl 1 rfl) ?_
                                refine eg_RX1_11 hC hS h dX1_init_22 (fun t_22_572 h => ?_)
                                refine lv_iload_n hx hb dX1_init_25 rfl (lv_at hl 0 rfl) ?_
                                refine ez_new (ci := 7) (fs := [.inr (.inr none)]) (c1 := 30) (s1 := 546) (n1 := σ0.length + 30) tyX7 hC hB hS hsz rfl inq_7 tyX7_ok qk_RX1_9 qn_7 qi_7 (fun j hj => by rcases (show j = 0 by omega) with rfl <;> rfl) rfl rfl rfl (Nat.le_trans (by decide) hR.1) (Nat.le_trans (by decide) hR.2) h dX1_init_26 (fun t_26_574 σ H hS hsz h => ?_)
                                refine lv_dup hx hb dX1_init_29 rfl ?_
                                refine ez_cI (As := []) (rest := [.ref (B + t_26_574), .int 14, .ref (B + t_22_572)]) (n' := 0) (c1 := 31) (s1 := 581) (n1 := σ0.length + 31) h (fun _ q => c_X7_init q) hC ki_X7_init rfl (by decide +kernel) ql_RX1_15 rfl (by decide) hS (Nat.succ_pos _) hsz hl.1 rfl (Nat.le_of_ble_eq_true rfl) rfl rfl rfl ⟨Nat.le_trans (by decide) hR.1, Nat.le_trans (by decide) hR.2⟩ dX1_init_30 (fun σ H locs hS hsz h => ?_)
                                refine ez_aas hC hS h dX1_init_33 (fun σ H locs hS h => ?_)
                                refine lv_iinc (v := 15) (lv' := [(1, .int 15), (0, .ref (B + h0))]) hx hb dX1_init_34 hl (k := 0) rfl (by decide) (by decide) rfl (fun ls hl => ?_)
                                refine lv_goto (tgt := 15) hx hb dX1_init_37 (by decide) ?_
                                refine lv_iload_n hx hb dX1_init_15 rfl (lv_at hl 0 rfl) ?_
                                refine lv_bipush (v := 41) hx hb dX1_init_16 (by decide) ?_
                                refine lv_icmp_ge (tgt := 40) hx hb dX1_init_18 (by decide) (fun c_18 => ?_) (fun c_18 => ?_)
                                · exact absurd c_18 (by decide)
                                · skip
                                  refine lv_aload_n hx hb dX1_init_21 rfl (lv_at hl 1 rfl) ?_
                                  refine eg_RX1_11 hC hS h dX1_init_22 (fun t_22_582 h => ?_)
                                  refine lv_iload_n hx hb dX1_init_25 rfl (lv_at hl 0 rfl) ?_
                                  refine ez_new (ci := 7) (fs := [.inr (.inr none)]) (c1 := 32) (s1 := 582) (n1 := σ0.length + 32) tyX7 hC hB hS hsz rfl inq_7 tyX7_ok qk_RX1_9 qn_7 qi_7 (fun j hj => by rcases (show j = 0 by omega) with rfl <;> rfl) rfl rfl rfl (Nat.le_trans (by decide) hR.1) (Nat.le_trans (by decide) hR.2) h dX1_init_26 (fun t_26_584 σ H hS hsz h => ?_)
                                  refine lv_dup hx hb dX1_init_29 rfl ?_
                                  refine ez_cI (As := []) (rest := [.ref (B + t_26_584), .int 15, .ref (B + t_22_582)]) (n' := 0) (c1 := 33) (s1 := 617) (n1 := σ0.length + 33) h (fun _ q => c_X7_init q) hC ki_X7_init rfl (by decide +kernel) ql_RX1_15 rfl (by decide) hS (Nat.succ_pos _) hsz hl.1 rfl (Nat.le_of_ble_eq_true rfl) rfl rfl rfl ⟨Nat.le_trans (by decide) hR.1, Nat.le_trans (by decide) hR.2⟩ dX1_init_30 (fun σ H locs hS hsz h => ?_)
                                  refine ez_aas hC hS h dX1_init_33 (fun σ H locs hS h => ?_)
                                  refine lv_iinc (v := 16) (lv' := [(1, .int 16), (0, .ref (B + h0))]) hx hb dX1_init_34 hl (k := 0) rfl (by decide) (by decide) rfl (fun ls hl => ?_)
                                  refine lv_goto (tgt := 15) hx hb dX1_init_37 (by decide) ?_
                                  refine lv_iload_n hx hb dX1_init_15 rfl (lv_at hl 0 rfl) ?_
                                  refine lv_bipush (v := 41) hx hb dX1_init_16 (by decide) ?_
                                  refine lv_icmp_ge (tgt := 40) hx hb dX1_init_18 (by decide) (fun c_18 => ?_) (fun c_18 => ?_)
                                  · exact absurd c_18 (by decide)
                                  · skip
                                    refine lv_aload_n hx hb dX1_init_21 rfl (lv_at hl 1 rfl) ?_
                                    refine eg_RX1_11 hC hS h dX1_init_22 (fun t_22_592 h => ?_)
                                    refine lv_iload_n hx hb dX1_init_25 rfl (lv_at hl 0 rfl) ?_
                                    refine ez_new (ci := 7) (fs := [.inr (.inr none)]) (c1 := 34) (s1 := 618) (n1 := σ0.length + 34) tyX7 hC hB hS hsz rfl inq_7 tyX7_ok qk_RX1_9 qn_7 qi_7 (fun j hj => by rcases (show j = 0 by omega) with rfl <;> rfl) rfl rfl rfl (Nat.le_trans (by decide) hR.1) (Nat.le_trans (by decide) hR.2) h dX1_init_26 (fun t_26_594 σ H hS hsz h => ?_)
                                    refine lv_dup hx hb dX1_init_29 rfl ?_
                                    refine ez_cI (As := []) (rest := [.ref (B + t_26_594), .int 16, .ref (B + t_22_592)]) (n' := 0) (c1 := 35) (s1 := 653) (n1 := σ0.length + 35) h (fun _ q => c_X7_init q) hC ki_X7_init rfl (by decide +kernel) ql_RX1_15 rfl (by decide) hS (Nat.succ_pos _) hsz hl.1 rfl (Nat.le_of_ble_eq_true rfl) rfl rfl rfl ⟨Nat.le_trans (by decide) hR.1, Nat.le_trans (by decide) hR.2⟩ dX1_init_30 (fun σ H locs hS hsz h => ?_)
                                    refine ez_aas hC hS h dX1_init_33 (fun σ H locs hS h => ?_)
                                    refine lv_iinc (v := 17) (lv' := [(1, .int 17), (0, .ref (B + h0))]) hx hb dX1_init_34 hl (k := 0) rfl (by decide) (by decide) rfl (fun ls hl => ?_)
                                    refine lv_goto (tgt := 15) hx hb dX1_init_37 (by decide) ?_
                                    refine lv_iload_n hx hb dX1_init_15 rfl (lv_at hl 0 rfl) ?_
                                    refine lv_bipush (v := 41) hx hb dX1_init_16 (by decide) ?_
                                    refine lv_icmp_ge (tgt := 40) hx hb dX1_init_18 (by decide) (fun c_18 => ?_) (fun c_18 => ?_)
                                    · exact absurd c_18 (by decide)
                                    · skip
                                      refine lv_aload_n hx hb dX1_init_21 rfl (lv_at hl 1 rfl) ?_
                                      refine eg_RX1_11 hC hS h dX1_init_22 (fun t_22_602 h => ?_)
                                      refine lv_iload_n hx hb dX1_init_25 rfl (lv_at hl 0 rfl) ?_
                                      refine ez_new (ci := 7) (fs := [.inr (.inr none)]) (c1 := 36) (s1 := 654) (n1 := σ0.length + 36) tyX7 hC hB hS hsz rfl inq_7 tyX7_ok qk_RX1_9 qn_7 qi_7 (fun j hj => by rcases (show j = 0 by omega) with rfl <;> rfl) rfl rfl rfl (Nat.le_trans (by decide) hR.1) (Nat.le_trans (by decide) hR.2) h dX1_init_26 (fun t_26_604 σ H hS hsz h => ?_)
                                      refine lv_dup hx hb dX1_init_29 rfl ?_
                                      refine ez_cI (As := []) (rest := [.ref (B + t_26_604), .int 17, .ref (B + t_22_602)]) (n' := 0) (c1 := 37) (s1 := 689) (n1 := σ0.length + 37) h (fun _ q => c_X7_init q) hC ki_X7_init rfl (by decide +kernel) ql_RX1_15 rfl (by decide) hS (Nat.succ_pos _) hsz hl.1 rfl (Nat.le_of_ble_eq_true rfl) rfl rfl rfl ⟨Nat.le_trans (by decide) hR.1, Nat.le_trans (by decide) hR.2⟩ dX1_init_30 (fun σ H locs hS hsz h => ?_)
                                      refine ez_aas hC hS h dX1_init_33 (fun σ H locs hS h => ?_)
                                      refine lv_iinc (v := 18) (lv' := [(1, .int 18), (0, .ref (B + h0))]) hx hb dX1_init_34 hl (k := 0) rfl (by decide) (by decide) rfl (fun ls hl => ?_)
                                      refine lv_goto (tgt := 15) hx hb dX1_init_37 (by decide) ?_
                                      refine lv_iload_n hx hb dX1_init_15 rfl (lv_at hl 0 rfl) ?_
                                      refine lv_bipush (v := 41) hx hb dX1_init_16 (by decide) ?_
                                      refine lv_icmp_ge (tgt := 40) hx hb dX1_init_18 (by decide) (fun c_18 => ?_) (fun c_18 => ?_)
                                      · exact absurd c_18 (by decide)
                                      · skip
                                        refine lv_aload_n hx hb dX1_init_21 rfl (lv_at hl 1 rfl) ?_
                                        refine eg_RX1_11 hC hS h dX1_init_22 (fun t_22_612 h => ?_)
                                        refine lv_iload_n hx hb dX1_init_25 rfl (lv_at hl 0 rfl) ?_
                                        refine ez_new (ci := 7) (fs := [.inr (.inr none)]) (c1 := 38) (s1 := 690) (n1 := σ0.length + 38) tyX7 hC hB hS hsz rfl inq_7 tyX7_ok qk_RX1_9 qn_7 qi_7 (fun j hj => by rcases (show j = 0 by omega) with rfl <;> rfl) rfl rfl rfl (Nat.le_trans (by decide) hR.1) (Nat.le_trans (by decide) hR.2) h dX1_init_26 (fun t_26_614 σ H hS hsz h => ?_)
                                        refine lv_dup hx hb dX1_init_29 rfl ?_
                                        refine ez_cI (As := []) (rest := [.ref (B + t_26_614), .int 18, .ref (B + t_22_612)]) (n' := 0) (c1 := 39) (s1 := 725) (n1 := σ0.length + 39) h (fun _ q => c_X7_init q) hC ki_X7_init rfl (by decide +kernel) ql_RX1_15 rfl (by decide) hS (Nat.succ_pos _) hsz hl.1 rfl (Nat.le_of_ble_eq_true rfl) rfl rfl rfl ⟨Nat.le_trans (by decide) hR.1, Nat.le_trans (by decide) hR.2⟩ dX1_init_30 (fun σ H locs hS hsz h => ?_)
                                        refine ez_aas hC hS h dX1_init_33 (fun σ H locs hS h => ?_)
                                        refine lv_iinc (v := 19) (lv' := [(1, .int 19), (0, .ref (B + h0))]) hx hb dX1_init_34 hl (k := 0) rfl (by decide) (by decide) rfl (fun ls hl => ?_)
                                        refine lv_goto (tgt := 15) hx hb dX1_init_37 (by decide) ?_
                                        refine lv_iload_n hx hb dX1_init_15 rfl (lv_at hl 0 rfl) ?_
                                        refine lv_bipush (v := 41) hx hb dX1_init_16 (by decide) ?_
                                        refine lv_icmp_ge (tgt := 40) hx hb dX1_init_18 (by decide) (fun c_18 => ?_) (fun c_18 => ?_)
                                        · exact absurd c_18 (by decide)
                                        · skip
                                          refine lv_aload_n hx hb dX1_init_21 rfl (lv_at hl 1 rfl) ?_
                                          refine eg_RX1_11 hC hS h dX1_init_22 (fun t_22_622 h => ?_)
                                          refine lv_iload_n hx hb dX1_init_25 rfl (lv_at hl 0 rfl) ?_
                                          refine ez_new (ci := 7) (fs := [.inr (.inr none)]) (c1 := 40) (s1 := 726) (n1 := σ0.length + 40) tyX7 hC hB hS hsz rfl inq_7 tyX7_ok qk_RX1_9 qn_7 qi_7 (fun j hj => by rcases (show j = 0 by omega) with rfl <;> rfl) rfl rfl rfl (Nat.le_trans (by decide) hR.1) (Nat.le_trans (by decide) hR.2) h dX1_init_26 (fun t_26_624 σ H hS hsz h => ?_)
                                          refine lv_dup hx hb dX1_init_29 rfl ?_
                                          refine ez_cI (As := []) (rest := [.ref (B + t_26_624), .int 19, .ref (B + t_22_622)]) (n' := 0) (c1 := 41) (s1 := 761) (n1 := σ0.length + 41) h (fun _ q => c_X7_init q) hC ki_X7_init rfl (by decide +kernel) ql_RX1_15 rfl (by decide) hS (Nat.succ_pos _) hsz hl.1 rfl (Nat.le_of_ble_eq_true rfl) rfl rfl rfl ⟨Nat.le_trans (by decide) hR.1, Nat.le_trans (by decide) hR.2⟩ dX1_init_30 (fun σ H locs hS hsz h => ?_)
                                          refine ez_aas hC hS h dX1_init_33 (fun σ H locs hS h => ?_)
                                          refine lv_iinc (v := 20) (lv' := [(1, .int 20), (0, .ref (B + h0))]) hx hb dX1_init_34 hl (k := 0) rfl (by decide) (by decide) rfl (fun ls hl => ?_)
                                          refine lv_goto (tgt := 15) hx hb dX1_init_37 (by decide) ?_
                                          refine lv_iload_n hx hb dX1_init_15 rfl (lv_at hl 0 rfl) ?_
                                          refine lv_bipush (v := 41) hx hb dX1_init_16 (by decide) ?_
                                          refine lv_icmp_ge (tgt := 40) hx hb dX1_init_18 (by decide) (fun c_18 => ?_) (fun c_18 => ?_)
                                          · exact absurd c_18 (by decide)
                                          · skip
                                            refine lv_aload_n hx hb dX1_init_21 rfl (lv_at hl 1 rfl) ?_
                                            refine eg_RX1_11 hC hS h dX1_init_22 (fun t_22_632 h => ?_)
                                            refine lv_iload_n hx hb dX1_init_25 rfl (lv_at hl 0 rfl) ?_
                                            refine ez_new (ci := 7) (fs := [.inr (.inr none)]) (c1 := 42) (s1 := 762) (n1 := σ0.length + 42) tyX7 hC hB hS hsz rfl inq_7 tyX7_ok qk_RX1_9 qn_7 qi_7 (fun j hj => by rcases (show j = 0 by omega) with rfl <;> rfl) rfl rfl rfl (Nat.le_trans (by decide) hR.1) (Nat.le_trans (by decide) hR.2) h dX1_init_26 (fun t_26_634 σ H hS hsz h => ?_)
                                            refine lv_dup hx hb dX1_init_29 rfl ?_
                                            refine ez_cI (As := []) (rest := [.ref (B + t_26_634), .int 20, .ref (B + t_22_632)]) (n' := 0) (c1 := 43) (s1 := 797) (n1 := σ0.length + 43) h (fun _ q => c_X7_init q) hC ki_X7_init rfl (by decide +kernel) ql_RX1_15 rfl (by decide) hS (Nat.succ_pos _) hsz hl.1 rfl (Nat.le_of_ble_eq_true rfl) rfl rfl rfl ⟨Nat.le_trans (by decide) hR.1, Nat.le_trans (by decide) hR.2⟩ dX1_init_30 (fun σ H locs hS hsz h => ?_)
                                            refine ez_aas hC hS h dX1_init_33 (fun σ H locs hS h => ?_)
                                            refine lv_iinc (v := 21) (lv' := [(1, .int 21), (0, .ref (B + h0))]) hx hb dX1_init_34 hl (k := 0) rfl (by decide) (by decide) rfl (fun ls hl => ?_)
                                            refine lv_goto (tgt := 15) hx hb dX1_init_37 (by decide) ?_
                                            refine lv_iload_n hx hb dX1_init_15 rfl (lv_at hl 0 rfl) ?_
                                            refine lv_bipush (v := 41) hx hb dX1_init_16 (by decide) ?_
                                            refine lv_icmp_ge (tgt := 40) hx hb dX1_init_18 (by decide) (fun c_18 => ?_) (fun c_18 => ?_)
                                            · exact absurd c_18 (by decide)
                                            · skip
                                              refine lv_aload_n hx hb dX1_init_21 rfl (lv_at hl 1 rfl) ?_
                                              refine eg_RX1_11 hC hS h dX1_init_22 (fun t_22_642 h => ?_)
                                              refine lv_iload_n hx hb dX1_init_25 rfl (lv_at hl 0 rfl) ?_
                                              refine ez_new (ci := 7) (fs := [.inr (.inr none)]) (c1 := 44) (s1 := 798) (n1 := σ0.length + 44) tyX7 hC hB hS hsz rfl inq_7 tyX7_ok qk_RX1_9 qn_7 qi_7 (fun j hj => by rcases (show j = 0 by omega) with rfl <;> rfl) rfl rfl rfl (Nat.le_trans (by decide) hR.1) (Nat.le_trans (by decide) hR.2) h dX1_init_26 (fun t_26_644 σ H hS hsz h => ?_)
                                              refine lv_dup hx hb dX1_init_29 rfl ?_
                                              refine ez_cI (As := []) (rest := [.ref (B + t_26_644), .int 21, .ref (B + t_22_642)]) (n' := 0) (c1 := 45) (s1 := 833) (n1 := σ0.length + 45) h (fun _ q => c_X7_init q) hC ki_X7_init rfl (by decide +kernel) ql_RX1_15 rfl (by decide) hS (Nat.succ_pos _) hsz hl.1 rfl (Nat.le_of_ble_eq_true rfl) rfl rfl rfl ⟨Nat.le_trans (by decide) hR.1, Nat.le_trans (by decide) hR.2⟩ dX1_init_30 (fun σ H locs hS hsz h => ?_)
                                              refine ez_aas hC hS h dX1_init_33 (fun σ H locs hS h => ?_)
                                              refine lv_iinc (v := 22) (lv' := [(1, .int 22), (0, .ref (B + h0))]) hx hb dX1_init_34 hl (k := 0) rfl (by decide) (by decide) rfl (fun ls hl => ?_)
                                              refine lv_goto (tgt := 15) hx hb dX1_init_37 (by decide) ?_
                                              refine lv_iload_n hx hb dX1_init_15 rfl (lv_at hl 0 rfl) ?_
                                              refine lv_bipush (v := 41) hx hb dX1_init_16 (by decide) ?_
                                              refine lv_icmp_ge (tgt := 40) hx hb dX1_init_18 (by decide) (fun c_18 => ?_) (fun c_18 => ?_)
                                              · exact absurd c_18 (by decide)
                                              · skip
                                                refine lv_aload_n hx hb dX1_init_21 rfl (lv_at hl 1 rfl) ?_
                                                refine eg_RX1_11 hC hS h dX1_init_22 (fun t_22_652 h => ?_)
                                                refine lv_iload_n hx hb dX1_init_25 rfl (lv_at hl 0 rfl) ?_
                                                refine ez_new (ci := 7) (fs := [.inr (.inr none)]) (c1 := 46) (s1 := 834) (n1 := σ0.length + 46) tyX7 hC hB hS hsz rfl inq_7 tyX7_ok qk_RX1_9 qn_7 qi_7 (fun j hj => by rcases (show j = 0 by omega) with rfl <;> rfl) rfl rfl rfl (Nat.le_trans (by decide) hR.1) (Nat.le_trans (by decide) hR.2) h dX1_init_26 (fun t_26_654 σ H hS hsz h => ?_)
                                                refine lv_dup hx hb dX1_init_29 rfl ?_
                                                refine ez_cI (As := []) (rest := [.ref (B + t_26_654), .int 22, .ref (B + t_22_652)]) (n' := 0) (c1 := 47) (s1 := 869) (n1 := σ0.length + 47) h (fun _ q => c_X7_init q) hC ki_X7_init rfl (by decide +kernel) ql_RX1_15 rfl (by decide) hS (Nat.succ_pos _) hsz hl.1 rfl (Nat.le_of_ble_eq_true rfl) rfl rfl rfl ⟨Nat.le_trans (by decide) hR.1, Nat.le_trans (by decide) hR.2⟩ dX1_init_30 (fun σ H locs hS hsz h => ?_)
                                                refine ez_aas hC hS h dX1_init_33 (fun σ H locs hS h => ?_)
                                                refine lv_iinc (v := 23) (lv' := [(1, .int 23), (0, .ref (B + h0))]) hx hb dX1_init_34 hl (k := 0) rfl (by decide) (by decide) rfl (fun ls hl => ?_)
                                                refine lv_goto (tgt := 15) hx hb dX1_init_37 (by decide) ?_
                                                refine lv_iload_n hx hb dX1_init_15 rfl (lv_at hl 0 rfl) ?_
                                                refine lv_bipush (v := 41) hx hb dX1_init_16 (by decide) ?_
                                                refine lv_icmp_ge (tgt := 40) hx hb dX1_init_18 (by decide) (fun c_18 => ?_) (fun c_18 => ?_)
                                                · exact absurd c_18 (by decide)
                                                · skip
                                                  refine lv_aload_n hx hb dX1_init_21 rfl (lv_at hl 1 rfl) ?_
                                                  refine eg_RX1_11 hC hS h dX1_init_22 (fun t_22_662 h => ?_)
                                                  refine lv_iload_n hx hb dX1_init_25 rfl (lv_at hl 0 rfl) ?_
                                                  refine ez_new (ci := 7) (fs := [.inr (.inr none)]) (c1 := 48) (s1 := 870) (n1 := σ0.length + 48) tyX7 hC hB hS hsz rfl inq_7 tyX7_ok qk_RX1_9 qn_7 qi_7 (fun j hj => by rcases (show j = 0 by omega) with rfl <;> rfl) rfl rfl rfl (Nat.le_trans (by decide) hR.1) (Nat.le_trans (by decide) hR.2) h dX1_init_26 (fun t_26_664 σ H hS hsz h => ?_)
                                                  refine lv_dup hx hb dX1_init_29 rfl ?_
                                                  refine ez_cI (As := []) (rest := [.ref (B + t_26_664), .int 23, .ref (B + t_22_662)]) (n' := 0) (c1 := 49) (s1 := 905) (n1 := σ0.length + 49) h (fun _ q => c_X7_init q) hC ki_X7_init rfl (by decide +kernel) ql_RX1_15 rfl (by decide) hS (Nat.succ_pos _) hsz hl.1 rfl (Nat.le_of_ble_eq_true rfl) rfl rfl rfl ⟨Nat.le_trans (by decide) hR.1, Nat.le_trans (by decide) hR.2⟩ dX1_init_30 (fun σ H locs hS hsz h => ?_)
                                                  refine ez_aas hC hS h dX1_init_33 (fun σ H locs hS h => ?_)
                                                  refine lv_iinc (v := 24) (lv' := [(1, .int 24), (0, .ref (B + h0))]) hx hb dX1_init_34 hl (k := 0) rfl (by decide) (by decide) rfl (fun ls hl => ?_)
                                                  refine lv_goto (tgt := 15) hx hb dX1_init_37 (by decide) ?_
                                                  refine lv_iload_n hx hb dX1_init_15 rfl (lv_at hl 0 rfl) ?_
                                                  refine lv_bipush (v := 41) hx hb dX1_init_16 (by decide) ?_
                                                  refine lv_icmp_ge (tgt := 40) hx hb dX1_init_18 (by decide) (fun c_18 => ?_) (fun c_18 => ?_)
                                                  · exact absurd c_18 (by decide)
                                                  · skip
                                                    refine lv_aload_n hx hb dX1_init_21 rfl (lv_at hl 1 rfl) ?_
                                                    refine eg_RX1_11 hC hS h dX1_init_22 (fun t_22_672 h => ?_)
                                                    refine lv_iload_n hx hb dX1_init_25 rfl (lv_at hl 0 rfl) ?_
                                                    refine ez_new (ci := 7) (fs := [.inr (.inr none)]) (c1 := 50) (s1 := 906) (n1 := σ0.length + 50) tyX7 hC hB hS hsz rfl inq_7 tyX7_ok qk_RX1_9 qn_7 qi_7 (fun j hj => by rcases (show j = 0 by omega) with rfl <;> rfl) rfl rfl rfl (Nat.le_trans (by decide) hR.1) (Nat.le_trans (by decide) hR.2) h dX1_init_26 (fun t_26_674 σ H hS hsz h => ?_)
                                                    refine lv_dup hx hb dX1_init_29 rfl ?_
                                                    refine ez_cI (As := []) (rest := [.ref (B + t_26_674), .int 24, .ref (B + t_22_672)]) (n' := 0) (c1 := 51) (s1 := 941) (n1 := σ0.length + 51) h (fun _ q => c_X7_init q) hC ki_X7_init rfl (by decide +kernel) ql_RX1_15 rfl (by decide) hS (Nat.succ_pos _) hsz hl.1 rfl (Nat.le_of_ble_eq_true rfl) rfl rfl rfl ⟨Nat.le_trans (by decide) hR.1, Nat.le_trans (by decide) hR.2⟩ dX1_init_30 (fun σ H locs hS hsz h => ?_)
                                                    refine ez_aas hC hS h dX1_init_33 (fun σ H locs hS h => ?_)
                                                    refine lv_iinc (v := 25) (lv' := [(1, .int 25), (0, .ref (B + h0))]) hx hb dX1_init_34 hl (k := 0) rfl (by decide) (by decide) rfl (fun ls hl => ?_)
                                                    refine lv_goto (tgt := 15) hx hb dX1_init_37 (by decide) ?_
                                                    refine lv_iload_n hx hb dX1_init_15 rfl (lv_at hl 0 rfl) ?_
                                                    refine lv_bipush (v := 41) hx hb dX1_init_16 (by decide) ?_
                                                    refine lv_icmp_ge (tgt := 40) hx hb dX1_init_18 (by decide) (fun c_18 => ?_) (fun c_18 => ?_)
                                                    · exact absurd c_18 (by decide)
                                                    · skip
                                                      refine lv_aload_n hx hb dX1_init_21 rfl (lv_at hl 1 rfl) ?_
                                                      refine eg_RX1_11 hC hS h dX1_init_22 (fun t_22_682 h => ?_)
                                                      refine lv_iload_n hx hb dX1_init_25 rfl (lv_at hl 0 rfl) ?_
                                                      refine ez_new (ci := 7) (fs := [.inr (.inr none)]) (c1 := 52) (s1 := 942) (n1 := σ0.length + 52) tyX7 hC hB hS hsz rfl inq_7 tyX7_ok qk_RX1_9 qn_7 qi_7 (fun j hj => by rcases (show j = 0 by omega) with rfl <;> rfl) rfl rfl rfl (Nat.le_trans (by decide) hR.1) (Nat.le_trans (by decide) hR.2) h dX1_init_26 (fun t_26_684 σ H hS hsz h => ?_)
                                                      refine lv_dup hx hb dX1_init_29 rfl ?_
                                                      refine ez_cI (As := []) (rest := [.ref (B + t_26_684), .int 25, .ref (B + t_22_682)]) (n' := 0) (c1 := 53) (s1 := 977) (n1 := σ0.length + 53) h (fun _ q => c_X7_init q) hC ki_X7_init rfl (by decide +kernel) ql_RX1_15 rfl (by decide) hS (Nat.succ_pos _) hsz hl.1 rfl (Nat.le_of_ble_eq_true rfl) rfl rfl rfl ⟨Nat.le_trans (by decide) hR.1, Nat.le_trans (by decide) hR.2⟩ dX1_init_30 (fun σ H locs hS hsz h => ?_)
                                                      refine ez_aas hC hS h dX1_init_33 (fun σ H locs hS h => ?_)
                                                      refine lv_iinc (v := 26) (lv' := [(1, .int 26), (0, .ref (B + h0))]) hx hb dX1_init_34 hl (k := 0) rfl (by decide) (by decide) rfl (fun ls hl => ?_)
                                                      refine lv_goto (tgt := 15) hx hb dX1_init_37 (by decide) ?_
                                                      refine lv_iload_n hx hb dX1_init_15 rfl (lv_at hl 0 rfl) ?_
                                                      refine lv_bipush (v := 41) hx hb dX1_init_16 (by decide) ?_
                                                      refine lv_icmp_ge (tgt := 40) hx hb dX1_init_18 (by decide) (fun c_18 => ?_) (fun c_18 => ?_)
                                                      · exact absurd c_18 (by decide)
                                                      · skip
                                                        refine lv_aload_n hx hb dX1_init_21 rfl (lv_at hl 1 rfl) ?_
                                                        refine eg_RX1_11 hC hS h dX1_init_22 (fun t_22_692 h => ?_)
                                                        refine lv_iload_n hx hb dX1_init_25 rfl (lv_at hl 0 rfl) ?_
                                                        refine ez_new (ci := 7) (fs := [.inr (.inr none)]) (c1 := 54) (s1 := 978) (n1 := σ0.length + 54) tyX7 hC hB hS hsz rfl inq_7 tyX7_ok qk_RX1_9 qn_7 qi_7 (fun j hj => by rcases (show j = 0 by omega) with rfl <;> rfl) rfl rfl rfl (Nat.le_trans (by decide) hR.1) (Nat.le_trans (by decide) hR.2) h dX1_init_26 (fun t_26_694 σ H hS hsz h => ?_)
                                                        refine lv_dup hx hb dX1_init_29 rfl ?_
                                                        refine ez_cI (As := []) (rest := [.ref (B + t_26_694), .int 26, .ref (B + t_22_692)]) (n' := 0) (c1 := 55) (s1 := 1013) (n1 := σ0.length + 55) h (fun _ q => c_X7_init q) hC ki_X7_init rfl (by decide +kernel) ql_RX1_15 rfl (by decide) hS (Nat.succ_pos _) hsz hl.1 rfl (Nat.le_of_ble_eq_true rfl) rfl rfl rfl ⟨Nat.le_trans (by decide) hR.1, Nat.le_trans (by decide) hR.2⟩ dX1_init_30 (fun σ H locs hS hsz h => ?_)
                                                        refine ez_aas hC hS h dX1_init_33 (fun σ H locs hS h => ?_)
                                                        refine lv_iinc (v := 27) (lv' := [(1, .int 27), (0, .ref (B + h0))]) hx hb dX1_init_34 hl (k := 0) rfl (by decide) (by decide) rfl (fun ls hl => ?_)
                                                        refine lv_goto (tgt := 15) hx hb dX1_init_37 (by decide) ?_
                                                        refine lv_iload_n hx hb dX1_init_15 rfl (lv_at hl 0 rfl) ?_
                                                        refine lv_bipush (v := 41) hx hb dX1_init_16 (by decide) ?_
                                                        refine lv_icmp_ge (tgt := 40) hx hb dX1_init_18 (by decide) (fun c_18 => ?_) (fun c_18 => ?_)
                                                        · exact absurd c_18 (by decide)
                                                        · skip
                                                          refine lv_aload_n hx hb dX1_init_21 rfl (lv_at hl 1 rfl) ?_
                                                          refine eg_RX1_11 hC hS h dX1_init_22 (fun t_22_702 h => ?_)
                                                          refine lv_iload_n hx hb dX1_init_25 rfl (lv_at hl 0 rfl) ?_
                                                          refine ez_new (ci := 7) (fs := [.inr (.inr none)]) (c1 := 56) (s1 := 1014) (n1 := σ0.length + 56) tyX7 hC hB hS hsz rfl inq_7 tyX7_ok qk_RX1_9 qn_7 qi_7 (fun j hj => by rcases (show j = 0 by omega) with rfl <;> rfl) rfl rfl rfl (Nat.le_trans (by decide) hR.1) (Nat.le_trans (by decide) hR.2) h dX1_init_26 (fun t_26_704 σ H hS hsz h => ?_)
                                                          refine lv_dup hx hb dX1_init_29 rfl ?_
                                                          refine ez_cI (As := []) (rest := [.ref (B + t_26_704), .int 27, .ref (B + t_22_702)]) (n' := 0) (c1 := 57) (s1 := 1049) (n1 := σ0.length + 57) h (fun _ q => c_X7_init q) hC ki_X7_init rfl (by decide +kernel) ql_RX1_15 rfl (by decide) hS (Nat.succ_pos _) hsz hl.1 rfl (Nat.le_of_ble_eq_true rfl) rfl rfl rfl ⟨Nat.le_trans (by decide) hR.1, Nat.le_trans (by decide) hR.2⟩ dX1_init_30 (fun σ H locs hS hsz h => ?_)
                                                          refine ez_aas hC hS h dX1_init_33 (fun σ H locs hS h => ?_)
                                                          refine lv_iinc (v := 28) (lv' := [(1, .int 28), (0, .ref (B + h0))]) hx hb dX1_init_34 hl (k := 0) rfl (by decide) (by decide) rfl (fun ls hl => ?_)
                                                          refine lv_goto (tgt := 15) hx hb dX1_init_37 (by decide) ?_
                                                          refine lv_iload_n hx hb dX1_init_15 rfl (lv_at hl 0 rfl) ?_
                                                          refine lv_bipush (v := 41) hx hb dX1_init_16 (by decide) ?_
                                                          refine lv_icmp_ge (tgt := 40) hx hb dX1_init_18 (by decide) (fun c_18 => ?_) (fun c_18 => ?_)
                                                          · exact absurd c_18 (by decide)
                                                          · skip
                                                            refine lv_aload_n hx hb dX1_init_21 rfl (lv_at hl 1 rfl) ?_
                                                            refine eg_RX1_11 hC hS h dX1_init_22 (fun t_22_712 h => ?_)
                                                            refine lv_iload_n hx hb dX1_init_25 rfl (lv_at hl 0 rfl) ?_
                                                            refine ez_new (ci := 7) (fs := [.inr (.inr none)]) (c1 := 58) (s1 := 1050) (n1 := σ0.length + 58) tyX7 hC hB hS hsz rfl inq_7 tyX7_ok qk_RX1_9 qn_7 qi_7 (fun j hj => by rcases (show j = 0 by omega) with rfl <;> rfl) rfl rfl rfl (Nat.le_trans (by decide) hR.1) (Nat.le_trans (by decide) hR.2) h dX1_init_26 (fun t_26_714 σ H hS hsz h => ?_)
                                                            refine lv_dup hx hb dX1_init_29 rfl ?_
                                                            refine ez_cI (As := []) (rest := [.ref (B + t_26_714), .int 28, .ref (B + t_22_712)]) (n' := 0) (c1 := 59) (s1 := 1085) (n1 := σ0.length + 59) h (fun _ q => c_X7_init q) hC ki_X7_init rfl (by decide +kernel) ql_RX1_15 rfl (by decide) hS (Nat.succ_pos _) hsz hl.1 rfl (Nat.le_of_ble_eq_true rfl) rfl rfl rfl ⟨Nat.le_trans (by decide) hR.1, Nat.le_trans (by decide) hR.2⟩ dX1_init_30 (fun σ H locs hS hsz h => ?_)
                                                            refine ez_aas hC hS h dX1_init_33 (fun σ H locs hS h => ?_)
                                                            refine lv_iinc (v := 29) (lv' := [(1, .int 29), (0, .ref (B + h0))]) hx hb dX1_init_34 hl (k := 0) rfl (by decide) (by decide) rfl (fun ls hl => ?_)
                                                            refine lv_goto (tgt := 15) hx hb dX1_init_37 (by decide) ?_
                                                            refine lv_iload_n hx hb dX1_init_15 rfl (lv_at hl 0 rfl) ?_
                                                            refine lv_bipush (v := 41) hx hb dX1_init_16 (by decide) ?_
                                                            refine lv_icmp_ge (tgt := 40) hx hb dX1_init_18 (by decide) (fun c_18 => ?_) (fun c_18 => ?_)
                                                            · exact absurd c_18 (by decide)
                                                            · skip
                                                              refine lv_aload_n hx hb dX1_init_21 rfl (lv_at hl 1 rfl) ?_
                                                              refine eg_RX1_11 hC hS h dX1_init_22 (fun t_22_722 h => ?_)
                                                              refine lv_iload_n hx hb dX1_init_25 rfl (lv_at hl 0 rfl) ?_
                                                              refine ez_new (ci := 7) (fs := [.inr (.inr none)]) (c1 := 60) (s1 := 1086) (n1 := σ0.length + 60) tyX7 hC hB hS hsz rfl inq_7 tyX7_ok qk_RX1_9 qn_7 qi_7 (fun j hj => by rcases (show j = 0 by omega) with rfl <;> rfl) rfl rfl rfl (Nat.le_trans (by decide) hR.1) (Nat.le_trans (by decide) hR.2) h dX1_init_26 (fun t_26_724 σ H hS hsz h => ?_)
                                                              refine lv_dup hx hb dX1_init_29 rfl ?_
                                                              refine ez_cI (As := []) (rest := [.ref (B + t_26_724), .int 29, .ref (B + t_22_722)]) (n' := 0) (c1 := 61) (s1 := 1121) (n1 := σ0.length + 61) h (fun _ q => c_X7_init q) hC ki_X7_init rfl (by decide +kernel) ql_RX1_15 rfl (by decide) hS (Nat.succ_pos _) hsz hl.1 rfl (Nat.le_of_ble_eq_true rfl) rfl rfl rfl ⟨Nat.le_trans (by decide) hR.1, Nat.le_trans (by decide) hR.2⟩ dX1_init_30 (fun σ H locs hS hsz h => ?_)
                                                              refine ez_aas hC hS h dX1_init_33 (fun σ H locs hS h => ?_)
                                                              refine lv_iinc (v := 30) (lv' := [(1, .int 30), (0, .ref (B + h0))]) hx hb dX1_init_34 hl (k := 0) rfl (by decide) (by decide) rfl (fun ls hl => ?_)
                                                              refine lv_goto (tgt := 15) hx hb dX1_init_37 (by decide) ?_
                                                              refine lv_iload_n hx hb dX1_init_15 rfl (lv_at hl 0 rfl) ?_
                                                              refine lv_bipush (v := 41) hx hb dX1_init_16 (by decide) ?_
                                                              refine lv_icmp_ge (tgt := 40) hx hb dX1_init_18 (by decide) (fun c_18 => ?_) (fun c_18 => ?_)
                                                              · exact absurd c_18 (by decide)
                                                              · skip
                                                                refine lv_aload_n hx hb dX1_init_21 rfl (lv_at hl 1 rfl) ?_
                                                                refine eg_RX1_11 hC hS h dX1_init_22 (fun t_22_732 h => ?_)
                                                                refine lv_iload_n hx hb dX1_init_25 rfl (lv_at hl 0 rfl) ?_
                                                                refine ez_new (ci := 7) (fs := [.inr (.inr none)]) (c1 := 62) (s1 := 1122) (n1 := σ0.length + 62) tyX7 hC hB hS hsz rfl inq_7 tyX7_ok qk_RX1_9 qn_7 qi_7 (fun j hj => by rcases (show j = 0 by omega) with rfl <;> rfl) rfl rfl rfl (Nat.le_trans (by decide) hR.1) (Nat.le_trans (by decide) hR.2) h dX1_init_26 (fun t_26_734 σ H hS hsz h => ?_)
                                                                refine lv_dup hx hb dX1_init_29 rfl ?_
                                                                refine ez_cI (As := []) (rest := [.ref (B + t_26_734), .int 30, .ref (B + t_22_732)]) (n' := 0) (c1 := 63) (s1 := 1157) (n1 := σ0.length + 63) h (fun _ q => c_X7_init q) hC ki_X7_init rfl (by decide +kernel) ql_RX1_15 rfl (by decide) hS (Nat.succ_pos _) hsz hl.1 rfl (Nat.le_of_ble_eq_true rfl) rfl rfl rfl ⟨Nat.le_trans (by decide) hR.1, Nat.le_trans (by decide) hR.2⟩ dX1_init_30 (fun σ H locs hS hsz h => ?_)
                                                                refine ez_aas hC hS h dX1_init_33 (fun σ H locs hS h => ?_)
                                                                refine lv_iinc (v := 31) (lv' := [(1, .int 31), (0, .ref (B + h0))]) hx hb dX1_init_34 hl (k := 0) rfl (by decide) (by decide) rfl (fun ls hl => ?_)
                                                                refine lv_goto (tgt := 15) hx hb dX1_init_37 (by decide) ?_
                                                                refine lv_iload_n hx hb dX1_init_15 rfl (lv_at hl 0 rfl) ?_
                                                                refine lv_bipush (v := 41) hx hb dX1_init_16 (by decide) ?_
                                                                refine lv_icmp_ge (tgt := 40) hx hb dX1_init_18 (by decide) (fun c_18 => ?_) (fun c_18 => ?_)
                                                                · exact absurd c_18 (by decide)
                                                                · skip
                                                                  refine lv_aload_n hx hb dX1_init_21 rfl (lv_at hl 1 rfl) ?_
                                                                  refine eg_RX1_11 hC hS h dX1_init_22 (fun t_22_742 h => ?_)
                                                                  refine lv_iload_n hx hb dX1_init_25 rfl (lv_at hl 0 rfl) ?_
                                                                  refine ez_new (ci := 7) (fs := [.inr (.inr none)]) (c1 := 64) (s1 := 1158) (n1 := σ0.length + 64) tyX7 hC hB hS hsz rfl inq_7 tyX7_ok qk_RX1_9 qn_7 qi_7 (fun j hj => by rcases (show j = 0 by omega) with rfl <;> rfl) rfl rfl rfl (Nat.le_trans (by decide) hR.1) (Nat.le_trans (by decide) hR.2) h dX1_init_26 (fun t_26_744 σ H hS hsz h => ?_)
                                                                  refine lv_dup hx hb dX1_init_29 rfl ?_
                                                                  refine ez_cI (As := []) (rest := [.ref (B + t_26_744), .int 31, .ref (B + t_22_742)]) (n' := 0) (c1 := 65) (s1 := 1193) (n1 := σ0.length + 65) h (fun _ q => c_X7_init q) hC ki_X7_init rfl (by decide +kernel) ql_RX1_15 rfl (by decide) hS (Nat.succ_pos _) hsz hl.1 rfl (Nat.le_of_ble_eq_true rfl) rfl rfl rfl ⟨Nat.le_trans (by decide) hR.1, Nat.le_trans (by decide) hR.2⟩ dX1_init_30 (fun σ H locs hS hsz h => ?_)
                                                                  refine ez_aas hC hS h dX1_init_33 (fun σ H locs hS h => ?_)
                                                                  refine lv_iinc (v := 32) (lv' := [(1, .int 32), (0, .ref (B + h0))]) hx hb dX1_init_34 hl (k := 0) rfl (by decide) (by decide) rfl (fun ls hl => ?_)
                                                                  refine lv_goto (tgt := 15) hx hb dX1_init_37 (by decide) ?_
                                                                  refine lv_iload_n hx hb dX1_init_15 rfl (lv_at hl 0 rfl) ?_
                                                                  refine lv_bipush (v := 41) hx hb dX1_init_16 (by decide) ?_
                                                                  refine lv_icmp_ge (tgt := 40) hx hb dX1_init_18 (by decide) (fun c_18 => ?_) (fun c_18 => ?_)
                                                                  · exact absurd c_18 (by decide)
                                                                  · skip
                                                                    refine lv_aload_n hx hb dX1_init_21 rfl (lv_at hl 1 rfl) ?_
                                                                    refine eg_RX1_11 hC hS h dX1_init_22 (fun t_22_752 h => ?_)
                                                                    refine lv_iload_n hx hb dX1_init_25 rfl (lv_at hl 0 rfl) ?_
                                                                    refine ez_new (ci := 7) (fs := [.inr (.inr none)]) (c1 := 66) (s1 := 1194) (n1 := σ0.length + 66) tyX7 hC hB hS hsz rfl inq_7 tyX7_ok qk_RX1_9 qn_7 qi_7 (fun j hj => by rcases (show j = 0 by omega) with rfl <;> rfl) rfl rfl rfl (Nat.le_trans (by decide) hR.1) (Nat.le_trans (by decide) hR.2) h dX1_init_26 (fun t_26_754 σ H hS hsz h => ?_)
                                                                    refine lv_dup hx hb dX1_init_29 rfl ?_
                                                                    refine ez_cI (As := []) (rest := [.ref (B + t_26_754), .int 32, .ref (B + t_22_752)]) (n' := 0) (c1 := 67) (s1 := 1229) (n1 := σ0.length + 67) h (fun _ q => c_X7_init q) hC ki_X7_init rfl (by decide +kernel) ql_RX1_15 rfl (by decide) hS (Nat.succ_pos _) hsz hl.1 rfl (Nat.le_of_ble_eq_true rfl) rfl rfl rfl ⟨Nat.le_trans (by decide) hR.1, Nat.le_trans (by decide) hR.2⟩ dX1_init_30 (fun σ H locs hS hsz h => ?_)
                                                                    refine ez_aas hC hS h dX1_init_33 (fun σ H locs hS h => ?_)
                                                                    refine lv_iinc (v := 33) (lv' := [(1, .int 33), (0, .ref (B + h0))]) hx hb dX1_init_34 hl (k := 0) rfl (by decide) (by decide) rfl (fun ls hl => ?_)
                                                                    refine lv_goto (tgt := 15) hx hb dX1_init_37 (by decide) ?_
                                                                    refine lv_iload_n hx hb dX1_init_15 rfl (lv_at hl 0 rfl) ?_
                                                                    refine lv_bipush (v := 41) hx hb dX1_init_16 (by decide) ?_
                                                                    refine lv_icmp_ge (tgt := 40) hx hb dX1_init_18 (by decide) (fun c_18 => ?_) (fun c_18 => ?_)
                                                                    · exact absurd c_18 (by decide)
                                                                    · skip
                                                                      refine lv_aload_n hx hb dX1_init_21 rfl (lv_at hl 1 rfl) ?_
                                                                      refine eg_RX1_11 hC hS h dX1_init_22 (fun t_22_762 h => ?_)
                                                                      refine lv_iload_n hx hb dX1_init_25 rfl (lv_at hl 0 rfl) ?_
                                                                      refine ez_new (ci := 7) (fs := [.inr (.inr none)]) (c1 := 68) (s1 := 1230) (n1 := σ0.length + 68) tyX7 hC hB hS hsz rfl inq_7 tyX7_ok qk_RX1_9 qn_7 qi_7 (fun j hj => by rcases (show j = 0 by omega) with rfl <;> rfl) rfl rfl rfl (Nat.le_trans (by decide) hR.1) (Nat.le_trans (by decide) hR.2) h dX1_init_26 (fun t_26_764 σ H hS hsz h => ?_)
                                                                      refine lv_dup hx hb dX1_init_29 rfl ?_
                                                                      refine ez_cI (As := []) (rest := [.ref (B + t_26_764), .int 33, .ref (B + t_22_762)]) (n' := 0) (c1 := 69) (s1 := 1265) (n1 := σ0.length + 69) h (fun _ q => c_X7_init q) hC ki_X7_init rfl (by decide +kernel) ql_RX1_15 rfl (by decide) hS (Nat.succ_pos _) hsz hl.1 rfl (Nat.le_of_ble_eq_true rfl) rfl rfl rfl ⟨Nat.le_trans (by decide) hR.1, Nat.le_trans (by decide) hR.2⟩ dX1_init_30 (fun σ H locs hS hsz h => ?_)
                                                                      refine ez_aas hC hS h dX1_init_33 (fun σ H locs hS h => ?_)
                                                                      refine lv_iinc (v := 34) (lv' := [(1, .int 34), (0, .ref (B + h0))]) hx hb dX1_init_34 hl (k := 0) rfl (by decide) (by decide) rfl (fun ls hl => ?_)
                                                                      refine lv_goto (tgt := 15) hx hb dX1_init_37 (by decide) ?_
                                                                      refine lv_iload_n hx hb dX1_init_15 rfl (lv_at hl 0 rfl) ?_
                                                                      refine lv_bipush (v := 41) hx hb dX1_init_16 (by decide) ?_
                                                                      refine lv_icmp_ge (tgt := 40) hx hb dX1_init_18 (by decide) (fun c_18 => ?_) (fun c_18 => ?_)
                                                                      · exact absurd c_18 (by decide)
                                                                      · skip
                                                                        refine lv_aload_n hx hb dX1_init_21 rfl (lv_at hl 1 rfl) ?_
                                                                        refine eg_RX1_11 hC hS h dX1_init_22 (fun t_22_772 h => ?_)
                                                                        refine lv_iload_n hx hb dX1_init_25 rfl (lv_at hl 0 rfl) ?_
                                                                        refine ez_new (ci := 7) (fs := [.inr (.inr none)]) (c1 := 70) (s1 := 1266) (n1 := σ0.length + 70) tyX7 hC hB hS hsz rfl inq_7 tyX7_ok qk_RX1_9 qn_7 qi_7 (fun j hj => by rcases (show j = 0 by omega) with rfl <;> rfl) rfl rfl rfl (Nat.le_trans (by decide) hR.1) (Nat.le_trans (by decide) hR.2) h dX1_init_26 (fun t_26_774 σ H hS hsz h => ?_)
                                                                        refine lv_dup hx hb dX1_init_29 rfl ?_
                                                                        refine ez_cI (As := []) (rest := [.ref (B + t_26_774), .int 34, .ref (B + t_22_772)]) (n' := 0) (c1 := 71) (s1 := 1301) (n1 := σ0.length + 71) h (fun _ q => c_X7_init q) hC ki_X7_init rfl (by decide +kernel) ql_RX1_15 rfl (by decide) hS (Nat.succ_pos _) hsz hl.1 rfl (Nat.le_of_ble_eq_true rfl) rfl rfl rfl ⟨Nat.le_trans (by decide) hR.1, Nat.le_trans (by decide) hR.2⟩ dX1_init_30 (fun σ H locs hS hsz h => ?_)
                                                                        refine ez_aas hC hS h dX1_init_33 (fun σ H locs hS h => ?_)
                                                                        refine lv_iinc (v := 35) (lv' := [(1, .int 35), (0, .ref (B + h0))]) hx hb dX1_init_34 hl (k := 0) rfl (by decide) (by decide) rfl (fun ls hl => ?_)
                                                                        refine lv_goto (tgt := 15) hx hb dX1_init_37 (by decide) ?_
                                                                        refine lv_iload_n hx hb dX1_init_15 rfl (lv_at hl 0 rfl) ?_
                                                                        refine lv_bipush (v := 41) hx hb dX1_init_16 (by decide) ?_
                                                                        refine lv_icmp_ge (tgt := 40) hx hb dX1_init_18 (by decide) (fun c_18 => ?_) (fun c_18 => ?_)
                                                                        · exact absurd c_18 (by decide)
                                                                        · skip
                                                                          refine lv_aload_n hx hb dX1_init_21 rfl (lv_at hl 1 rfl) ?_
                                                                          refine eg_RX1_11 hC hS h dX1_init_22 (fun t_22_782 h => ?_)
                                                                          refine lv_iload_n hx hb dX1_init_25 rfl (lv_at hl 0 rfl) ?_
                                                                          refine ez_new (ci := 7) (fs := [.inr (.inr none)]) (c1 := 72) (s1 := 1302) (n1 := σ0.length + 72) tyX7 hC hB hS hsz rfl inq_7 tyX7_ok qk_RX1_9 qn_7 qi_7 (fun j hj => by rcases (show j = 0 by omega) with rfl <;> rfl) rfl rfl rfl (Nat.le_trans (by decide) hR.1) (Nat.le_trans (by decide) hR.2) h dX1_init_26 (fun t_26_784 σ H hS hsz h => ?_)
                                                                          refine lv_dup hx hb dX1_init_29 rfl ?_
                                                                          refine ez_cI (As := []) (rest := [.ref (B + t_26_784), .int 35, .ref (B + t_22_782)]) (n' := 0) (c1 := 73) (s1 := 1337) (n1 := σ0.length + 73) h (fun _ q => c_X7_init q) hC ki_X7_init rfl (by decide +kernel) ql_RX1_15 rfl (by decide) hS (Nat.succ_pos _) hsz hl.1 rfl (Nat.le_of_ble_eq_true rfl) rfl rfl rfl ⟨Nat.le_trans (by decide) hR.1, Nat.le_trans (by decide) hR.2⟩ dX1_init_30 (fun σ H locs hS hsz h => ?_)
                                                                          refine ez_aas hC hS h dX1_init_33 (fun σ H locs hS h => ?_)
                                                                          refine lv_iinc (v := 36) (lv' := [(1, .int 36), (0, .ref (B + h0))]) hx hb dX1_init_34 hl (k := 0) rfl (by decide) (by decide) rfl (fun ls hl => ?_)
                                                                          refine lv_goto (tgt := 15) hx hb dX1_init_37 (by decide) ?_
                                                                          refine lv_iload_n hx hb dX1_init_15 rfl (lv_at hl 0 rfl) ?_
                                                                          refine lv_bipush (v := 41) hx hb dX1_init_16 (by decide) ?_
                                                                          refine lv_icmp_ge (tgt := 40) hx hb dX1_init_18 (by decide) (fun c_18 => ?_) (fun c_18 => ?_)
                                                                          · exact absurd c_18 (by decide)
                                                                          · skip
                                                                            refine lv_aload_n hx hb dX1_init_21 rfl (lv_at hl 1 rfl) ?_
                                                                            refine eg_RX1_11 hC hS h dX1_init_22 (fun t_22_792 h => ?_)
                                                                            refine lv_iload_n hx hb dX1_init_25 rfl (lv_at hl 0 rfl) ?_
                                                                            refine ez_new (ci := 7) (fs := [.inr (.inr none)]) (c1 := 74) (s1 := 1338) (n1 := σ0.length + 74) tyX7 hC hB hS hsz rfl inq_7 tyX7_ok qk_RX1_9 qn_7 qi_7 (fun j hj => by rcases (show j = 0 by omega) with rfl <;> rfl) rfl rfl rfl (Nat.le_trans (by decide) hR.1) (Nat.le_trans (by decide) hR.2) h dX1_init_26 (fun t_26_794 σ H hS hsz h => ?_)
                                                                            refine lv_dup hx hb dX1_init_29 rfl ?_
                                                                            refine ez_cI (As := []) (rest := [.ref (B + t_26_794), .int 36, .ref (B + t_22_792)]) (n' := 0) (c1 := 75) (s1 := 1373) (n1 := σ0.length + 75) h (fun _ q => c_X7_init q) hC ki_X7_init rfl (by decide +kernel) ql_RX1_15 rfl (by decide) hS (Nat.succ_pos _) hsz hl.1 rfl (Nat.le_of_ble_eq_true rfl) rfl rfl rfl ⟨Nat.le_trans (by decide) hR.1, Nat.le_trans (by decide) hR.2⟩ dX1_init_30 (fun σ H locs hS hsz h => ?_)
                                                                            refine ez_aas hC hS h dX1_init_33 (fun σ H locs hS h => ?_)
                                                                            refine lv_iinc (v := 37) (lv' := [(1, .int 37), (0, .ref (B + h0))]) hx hb dX1_init_34 hl (k := 0) rfl (by decide) (by decide) rfl (fun ls hl => ?_)
                                                                            refine lv_goto (tgt := 15) hx hb dX1_init_37 (by decide) ?_
                                                                            refine lv_iload_n hx hb dX1_init_15 rfl (lv_at hl 0 rfl) ?_
                                                                            refine lv_bipush (v := 41) hx hb dX1_init_16 (by decide) ?_
                                                                            refine lv_icmp_ge (tgt := 40) hx hb dX1_init_18 (by decide) (fun c_18 => ?_) (fun c_18 => ?_)
                                                                            · exact absurd c_18 (by decide)
                                                                            · skip
                                                                              refine lv_aload_n hx hb dX1_init_21 rfl (lv_at hl 1 rfl) ?_
                                                                              refine eg_RX1_11 hC hS h dX1_init_22 (fun t_22_802 h => ?_)
                                                                              refine lv_iload_n hx hb dX1_init_25 rfl (lv_at hl 0 rfl) ?_
                                                                              refine ez_new (ci := 7) (fs := [.inr (.inr none)]) (c1 := 76) (s1 := 1374) (n1 := σ0.length + 76) tyX7 hC hB hS hsz rfl inq_7 tyX7_ok qk_RX1_9 qn_7 qi_7 (fun j hj => by rcases (show j = 0 by omega) with rfl <;> rfl) rfl rfl rfl (Nat.le_trans (by decide) hR.1) (Nat.le_trans (by decide) hR.2) h dX1_init_26 (fun t_26_804 σ H hS hsz h => ?_)
                                                                              refine lv_dup hx hb dX1_init_29 rfl ?_
                                                                              refine ez_cI (As := []) (rest := [.ref (B + t_26_804), .int 37, .ref (B + t_22_802)]) (n' := 0) (c1 := 77) (s1 := 1409) (n1 := σ0.length + 77) h (fun _ q => c_X7_init q) hC ki_X7_init rfl (by decide +kernel) ql_RX1_15 rfl (by decide) hS (Nat.succ_pos _) hsz hl.1 rfl (Nat.le_of_ble_eq_true rfl) rfl rfl rfl ⟨Nat.le_trans (by decide) hR.1, Nat.le_trans (by decide) hR.2⟩ dX1_init_30 (fun σ H locs hS hsz h => ?_)
                                                                              refine ez_aas hC hS h dX1_init_33 (fun σ H locs hS h => ?_)
                                                                              refine lv_iinc (v := 38) (lv' := [(1, .int 38), (0, .ref (B + h0))]) hx hb dX1_init_34 hl (k := 0) rfl (by decide) (by decide) rfl (fun ls hl => ?_)
                                                                              refine lv_goto (tgt := 15) hx hb dX1_init_37 (by decide) ?_
                                                                              refine lv_iload_n hx hb dX1_init_15 rfl (lv_at hl 0 rfl) ?_
                                                                              refine lv_bipush (v := 41) hx hb dX1_init_16 (by decide) ?_
                                                                              refine lv_icmp_ge (tgt := 40) hx hb dX1_init_18 (by decide) (fun c_18 => ?_) (fun c_18 => ?_)
                                                                              · exact absurd c_18 (by decide)
                                                                              · skip
                                                                                refine lv_aload_n hx hb dX1_init_21 rfl (lv_at hl 1 rfl) ?_
                                                                                refine eg_RX1_11 hC hS h dX1_init_22 (fun t_22_812 h => ?_)
                                                                                refine lv_iload_n hx hb dX1_init_25 rfl (lv_at hl 0 rfl) ?_
                                                                                refine ez_new (ci := 7) (fs := [.inr (.inr none)]) (c1 := 78) (s1 := 1410) (n1 := σ0.length + 78) tyX7 hC hB hS hsz rfl inq_7 tyX7_ok qk_RX1_9 qn_7 qi_7 (fun j hj => by rcases (show j = 0 by omega) with rfl <;> rfl) rfl rfl rfl (Nat.le_trans (by decide) hR.1) (Nat.le_trans (by decide) hR.2) h dX1_init_26 (fun t_26_814 σ H hS hsz h => ?_)
                                                                                refine lv_dup hx hb dX1_init_29 rfl ?_
                                                                                refine ez_cI (As := []) (rest := [.ref (B + t_26_814), .int 38, .ref (B + t_22_812)]) (n' := 0) (c1 := 79) (s1 := 1445) (n1 := σ0.length + 79) h (fun _ q => c_X7_init q) hC ki_X7_init rfl (by decide +kernel) ql_RX1_15 rfl (by decide) hS (Nat.succ_pos _) hsz hl.1 rfl (Nat.le_of_ble_eq_true rfl) rfl rfl rfl ⟨Nat.le_trans (by decide) hR.1, Nat.le_trans (by decide) hR.2⟩ dX1_init_30 (fun σ H locs hS hsz h => ?_)
                                                                                refine ez_aas hC hS h dX1_init_33 (fun σ H locs hS h => ?_)
                                                                                refine lv_iinc (v := 39) (lv' := [(1, .int 39), (0, .ref (B + h0))]) hx hb dX1_init_34 hl (k := 0) rfl (by decide) (by decide) rfl (fun ls hl => ?_)
                                                                                refine lv_goto (tgt := 15) hx hb dX1_init_37 (by decide) ?_
                                                                                refine lv_iload_n hx hb dX1_init_15 rfl (lv_at hl 0 rfl) ?_
                                                                                refine lv_bipush (v := 41) hx hb dX1_init_16 (by decide) ?_
                                                                                refine lv_icmp_ge (tgt := 40) hx hb dX1_init_18 (by decide) (fun c_18 => ?_) (fun c_18 => ?_)
                                                                                · exact absurd c_18 (by decide)
                                                                                · skip
                                                                                  refine lv_aload_n hx hb dX1_init_21 rfl (lv_at hl 1 rfl) ?_
                                                                                  refine eg_RX1_11 hC hS h dX1_init_22 (fun t_22_822 h => ?_)
                                                                                  refine lv_iload_n hx hb dX1_init_25 rfl (lv_at hl 0 rfl) ?_
                                                                                  refine ez_new (ci := 7) (fs := [.inr (.inr none)]) (c1 := 80) (s1 := 1446) (n1 := σ0.length + 80) tyX7 hC hB hS hsz rfl inq_7 tyX7_ok qk_RX1_9 qn_7 qi_7 (fun j hj => by rcases (show j = 0 by omega) with rfl <;> rfl) rfl rfl rfl (Nat.le_trans (by decide) hR.1) (Nat.le_trans (by decide) hR.2) h dX1_init_26 (fun t_26_824 σ H hS hsz h => ?_)
                                                                                  refine lv_dup hx hb dX1_init_29 rfl ?_
                                                                                  refine ez_cI (As := []) (rest := [.ref (B + t_26_824), .int 39, .ref (B + t_22_822)]) (n' := 0) (c1 := 81) (s1 := 1481) (n1 := σ0.length + 81) h (fun _ q => c_X7_init q) hC ki_X7_init rfl (by decide +kernel) ql_RX1_15 rfl (by decide) hS (Nat.succ_pos _) hsz hl.1 rfl (Nat.le_of_ble_eq_true rfl) rfl rfl rfl ⟨Nat.le_trans (by decide) hR.1, Nat.le_trans (by decide) hR.2⟩ dX1_init_30 (fun σ H locs hS hsz h => ?_)
                                                                                  refine ez_aas hC hS h dX1_init_33 (fun σ H locs hS h => ?_)
                                                                                  refine lv_iinc (v := 40) (lv' := [(1, .int 40), (0, .ref (B + h0))]) hx hb dX1_init_34 hl (k := 0) rfl (by decide) (by decide) rfl (fun ls hl => ?_)
                                                                                  refine lv_goto (tgt := 15) hx hb dX1_init_37 (by decide) ?_
                                                                                  refine lv_iload_n hx hb dX1_init_15 rfl (lv_at hl 0 rfl) ?_
                                                                                  refine lv_bipush (v := 41) hx hb dX1_init_16 (by decide) ?_
                                                                                  refine lv_icmp_ge (tgt := 40) hx hb dX1_init_18 (by decide) (fun c_18 => ?_) (fun c_18 => ?_)
                                                                                  · exact absurd c_18 (by decide)
                                                                                  · skip
                                                                                    refine lv_aload_n hx hb dX1_init_21 rfl (lv_at hl 1 rfl) ?_
                                                                                    refine eg_RX1_11 hC hS h dX1_init_22 (fun t_22_832 h => ?_)
                                                                                    refine lv_iload_n hx hb dX1_init_25 rfl (lv_at hl 0 rfl) ?_
                                                                                    refine ez_new (ci := 7) (fs := [.inr (.inr none)]) (c1 := 82) (s1 := 1482) (n1 := σ0.length + 82) tyX7 hC hB hS hsz rfl inq_7 tyX7_ok qk_RX1_9 qn_7 qi_7 (fun j hj => by rcases (show j = 0 by omega) with rfl <;> rfl) rfl rfl rfl (Nat.le_trans (by decide) hR.1) (Nat.le_trans (by decide) hR.2) h dX1_init_26 (fun t_26_834 σ H hS hsz h => ?_)
                                                                                    refine lv_dup hx hb dX1_init_29 rfl ?_
                                                                                    refine ez_cI (As := []) (rest := [.ref (B + t_26_834), .int 40, .ref (B + t_22_832)]) (n' := 0) (c1 := 83) (s1 := 1517) (n1 := σ0.length + 83) h (fun _ q => c_X7_init q) hC ki_X7_init rfl (by decide +kernel) ql_RX1_15 rfl (by decide) hS (Nat.succ_pos _) hsz hl.1 rfl (Nat.le_of_ble_eq_true rfl) rfl rfl rfl ⟨Nat.le_trans (by decide) hR.1, Nat.le_trans (by decide) hR.2⟩ dX1_init_30 (fun σ H locs hS hsz h => ?_)
                                                                                    refine ez_aas hC hS h dX1_init_33 (fun σ H locs hS h => ?_)
                                                                                    refine lv_iinc (v := 41) (lv' := [(1, .int 41), (0, .ref (B + h0))]) hx hb dX1_init_34 hl (k := 0) rfl (by decide) (by decide) rfl (fun ls hl => ?_)
                                                                                    refine lv_goto (tgt := 15) hx hb dX1_init_37 (by decide) ?_
                                                                                    refine lv_iload_n hx hb dX1_init_15 rfl (lv_at hl 0 rfl) ?_
                                                                                    refine lv_bipush (v := 41) hx hb dX1_init_16 (by decide) ?_
                                                                                    refine lv_icmp_ge (tgt := 40) hx hb dX1_init_18 (by decide) (fun c_18 => ?_) (fun c_18 => ?_)
                                                                                    · skip
                                                                                      exact hret _ _ _ _ _ _ (Option.some.inj h) hS dX1_init_40
                                                                                    · exact absurd c_18 (by decide)
