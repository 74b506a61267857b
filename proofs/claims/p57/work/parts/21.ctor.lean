set_option maxHeartbeats 4000000 in
set_option maxRecDepth 100000 in
theorem c_X7_init (l : Launch) (X : tq_X) (Z : tq_Z) (f : Nat → va_E) (h0 sz : Nat)  : tq_Mn l X Z f [] h0 sz yX7_init cX7_init 1 1 1 35 7 [.null] [] (fun _ _ => True) := by
  refine tq_startn (by decide) rfl (Nat.le_of_ble_eq_true rfl) (fun p e R s m args below meth c Q hC hR hV hret hN ls hl => ?_)
  have hC : tq_Cn p R s m args meth c X (tq_An Z h0 sz) RX7 cX7_init 1 1 := hC
  have hx := hC.1.1
  have hb := hC.1.2.1
  have hl : lv_has ls 1 [(0, .ref h0)] := hl
  have hle0 : tq_le Z Z := tq_le.rf
  have hkp0 : tq_k Z [] f f := tq_k.rf
  refine lv_aload_n hx hb dX7_init_0 rfl (lv_at hl 0 rfl) ?_
  refine nq_obj hC ql_RX7_5 hl.1 rfl (by decide) dX7_init_1 ?_
  refine lv_aload_n hx hb dX7_init_4 rfl (lv_at hl 0 rfl) ?_
  refine lv_bipush (v := 35) hx hb dX7_init_5 (by decide) ?_
  refine nq_newa (k := 1) (n := 35) (t0 := 1) (ty := .int) (atype := .int) hC hN rfl rfl (fun _ _ h9 => h9) rfl qw_int trivial (by decide) (by decide) (by decide) (Nat.le_trans (by decide) hR.1) (Nat.le_trans (by decide) hR.2) dX7_init_7 (fun Z_1 f_1 q_7 H hle_1 hkp_1 hin_1 hA_1 hz_1 hN => ?_)
  have hle1 := hle0.tr hle_1
  have hkp1 : tq_k Z [] f f_1 := hkp0.trn hle0 (tq_k.eqv (wr := []) hkp_1) (by decide)
  refine nq_putF 0 tyX7 hC hN rfl rfl inq_7 tyX7_ok nmX7 0 (by decide) qf_RX7_11 rfl rfl rfl rfl (Nat.le_of_ble_eq_true rfl) (Ys := [(h0, .inr (7, [.ref q_7]))]) rfl dX7_init_9 (fun H locs hN => ?_)
  obtain ⟨hq9, hle9, hz9, hN⟩ := nq_type hN (fun hle9 k t ht => by
    match k, ht with
    | 0, ht => cases ht; exact ⟨_, rfl, ⟨_, rfl, hle9 _ _ hz_1⟩⟩
    | k + 1, ht => exact absurd ht (by simp [tq_F, tq_L]))
  have hkt0 : tq_k Z [] f (va_up f_1 h0 (.inr (7, [.ref q_7]))) := hkp1.trn hle1 (tq_k.eqv (wr := []) (tq_upk hq9)) (by decide)
  exact hret _ _ _ _ _ _ _ _ (by decide) (by decide) (hle1.tr hle9) hkt0 hz9 hN trivial dX7_init_12
set_option maxHeartbeats 4000000 in
set_option maxRecDepth 100000 in
theorem c_X0_init (l : Launch) (X : tq_X) (Z : tq_Z) (f : Nat → va_E) (h0 sz : Nat)  : tq_Mn l X Z f [] h0 sz yX0_init cX0_init 1 1 3 571 0 [.int 0, .int 0, .null, .null, .null] [] (fun _ _ => True) := by
  refine tq_startn (by decide) rfl (Nat.le_of_ble_eq_true rfl) (fun p e R s m args below meth c Q hC hR hV hret hN ls hl => ?_)
  have hC : tq_Cn p R s m args meth c X (tq_An Z h0 sz) RX0 cX0_init 1 1 := hC
  have hx := hC.1.1
  have hb := hC.1.2.1
  have hl : lv_has ls 1 [(0, .ref h0)] := hl
  have hle0 : tq_le Z Z := tq_le.rf
  have hkp0 : tq_k Z [] f f := tq_k.rf
  refine lv_aload_n hx hb dX0_init_0 rfl (lv_at hl 0 rfl) ?_
  refine nq_obj hC ql_RX0_3 hl.1 rfl (by decide) dX0_init_1 ?_
  refine lv_aload_n hx hb dX0_init_4 rfl (lv_at hl 0 rfl) ?_
  refine lv_iconst (v := 0) hx hb dX0_init_5 (by decide) ?_
  refine nq_put 0 tyX0 hC hN rfl rfl inq_0 tyX0_ok nmX0 0 (by decide) qf_RX0_9 rfl rfl rfl (Nat.le_of_ble_eq_true rfl) (Ys := [(h0, .inr (0, [.int 0, .int 0, .null, .null, .null]))]) rfl dX0_init_6 (fun H locs hN => ?_)
  refine lv_aload_n hx hb dX0_init_9 rfl (lv_at hl 0 rfl) ?_
  refine lv_iconst (v := 0) hx hb dX0_init_10 (by decide) ?_
  refine nq_put 0 tyX0 hC hN rfl rfl inq_0 tyX0_ok nmX0 1 (by decide) qf_RX0_13 rfl rfl rfl (Nat.le_of_ble_eq_true rfl) (Ys := [(h0, .inr (0, [.int 0, .int 0, .null, .null, .null]))]) rfl dX0_init_11 (fun H locs hN => ?_)
  refine lv_aload_n hx hb dX0_init_14 rfl (lv_at hl 0 rfl) ?_
  refine lv_sipush (v := 270) hx hb dX0_init_15 (by decide) ?_
  refine nq_newa (k := 1) (n := 270) (t0 := 1) (ty := .int) (atype := .int) hC hN rfl rfl (fun _ _ h9 => h9) rfl qw_int trivial (by decide) (by decide) (by decide) (Nat.le_trans (by decide) hR.1) (Nat.le_trans (by decide) hR.2) dX0_init_18 (fun Z_1 f_1 q_18 H hle_1 hkp_1 hin_1 hA_1 hz_1 hN => ?_)
  have hle1 := hle0.tr hle_1
  have hkp1 : tq_k Z [] f f_1 := hkp0.trn hle0 (tq_k.eqv (wr := []) hkp_1) (by decide)
  refine nq_putF 0 tyX0 hC hN rfl rfl inq_0 tyX0_ok nmX0 2 (by decide) qf_RX0_16 rfl rfl rfl rfl (Nat.le_of_ble_eq_true rfl) (Ys := [(h0, .inr (0, [.int 0, .int 0, .ref q_18, .null, .null]))]) rfl dX0_init_20 (fun H locs hN => ?_)
  refine lv_aload_n hx hb dX0_init_23 rfl (lv_at hl 0 rfl) ?_
  refine lv_sipush (v := 270) hx hb dX0_init_24 (by decide) ?_
  refine nq_newa (k := 1) (n := 270) (t0 := 1) (ty := .int) (atype := .int) hC hN rfl rfl (fun _ _ h9 => h9) rfl qw_int trivial (by decide) (by decide) (by decide) (Nat.le_trans (by decide) hR.1) (Nat.le_trans (by decide) hR.2) dX0_init_27 (fun Z_2 f_2 q_27 H hle_2 hkp_2 hin_2 hA_2 hz_2 hN => ?_)
  have hle2 := hle1.tr hle_2
  have hkp2 : tq_k Z [] f f_2 := hkp1.trn hle1 (tq_k.eqv (wr := []) hkp_2) (by decide)
  have hz_1__Z_2 := hle_2 _ _ hz_1
  refine nq_putF 0 tyX0 hC hN rfl rfl inq_0 tyX0_ok nmX0 3 (by decide) qf_RX0_20 rfl rfl rfl rfl (Nat.le_of_ble_eq_true rfl) (Ys := [(h0, .inr (0, [.int 0, .int 0, .ref q_18, .ref q_27, .null]))]) rfl dX0_init_29 (fun H locs hN => ?_)
  refine lv_aload_n hx hb dX0_init_32 rfl (lv_at hl 0 rfl) ?_
  refine lv_bipush (v := 31) hx hb dX0_init_33 (by decide) ?_
  refine nq_newa (k := 1) (n := 31) (t0 := 1) (ty := .int) (atype := .int) hC hN rfl rfl (fun _ _ h9 => h9) rfl qw_int trivial (by decide) (by decide) (by decide) (Nat.le_trans (by decide) hR.1) (Nat.le_trans (by decide) hR.2) dX0_init_35 (fun Z_3 f_3 q_35 H hle_3 hkp_3 hin_3 hA_3 hz_3 hN => ?_)
  have hle3 := hle2.tr hle_3
  have hkp3 : tq_k Z [] f f_3 := hkp2.trn hle2 (tq_k.eqv (wr := []) hkp_3) (by decide)
  have hz_1__Z_3 := hle_3 _ _ hz_1__Z_2
  have hz_2__Z_3 := hle_3 _ _ hz_2
  refine nq_putF 0 tyX0 hC hN rfl rfl inq_0 tyX0_ok nmX0 4 (by decide) qf_RX0_23 rfl rfl rfl rfl (Nat.le_of_ble_eq_true rfl) (Ys := [(h0, .inr (0, [.int 0, .int 0, .ref q_18, .ref q_27, .ref q_35]))]) rfl dX0_init_37 (fun H locs hN => ?_)
  obtain ⟨hq9, hle9, hz9, hN⟩ := nq_type hN (fun hle9 k t ht => by
    match k, ht with
    | 0, ht => cases ht; exact ⟨_, rfl, ⟨_, rfl, trivial⟩⟩
    | 1, ht => cases ht; exact ⟨_, rfl, ⟨_, rfl, trivial⟩⟩
    | 2, ht => cases ht; exact ⟨_, rfl, ⟨_, rfl, hle9 _ _ hz_1__Z_3⟩⟩
    | 3, ht => cases ht; exact ⟨_, rfl, ⟨_, rfl, hle9 _ _ hz_2__Z_3⟩⟩
    | 4, ht => cases ht; exact ⟨_, rfl, ⟨_, rfl, hle9 _ _ hz_3⟩⟩
    | k + 5, ht => exact absurd ht (by simp [tq_F, tq_L]))
  have hkt0 : tq_k Z [] f (va_up f_3 h0 (.inr (0, [.int 0, .int 0, .ref q_18, .ref q_27, .ref q_35]))) := hkp3.trn hle3 (tq_k.eqv (wr := []) (tq_upk hq9)) (by decide)
  exact hret _ _ _ _ _ _ _ _ (by decide) (by decide) (hle3.tr hle9) hkt0 hz9 hN trivial dX0_init_40
set_option maxHeartbeats 4000000 in
set_option maxRecDepth 100000 in
theorem c_X10_init (l : Launch) (X : tq_X) (Z : tq_Z) (f : Nat → va_E) (h0 sz : Nat)  : tq_Mn l X Z f [] h0 sz yX10_init cX10_init 1 1 4 120 10 [.null, .null, .null, .null, .int 0, .int 0] [] (fun _ f1 => tq_f f1 h0 5 (.int 0)) := by
  refine tq_startn (by decide) rfl (Nat.le_of_ble_eq_true rfl) (fun p e R s m args below meth c Q hC hR hV hret hN ls hl => ?_)
  have hC : tq_Cn p R s m args meth c X (tq_An Z h0 sz) RX10 cX10_init 1 1 := hC
  have hx := hC.1.1
  have hb := hC.1.2.1
  have hl : lv_has ls 1 [(0, .ref h0)] := hl
  have hle0 : tq_le Z Z := tq_le.rf
  have hkp0 : tq_k Z [] f f := tq_k.rf
  refine lv_aload_n hx hb dX10_init_0 rfl (lv_at hl 0 rfl) ?_
  refine nq_obj hC ql_RX10_3 hl.1 rfl (by decide) dX10_init_1 ?_
  refine lv_aload_n hx hb dX10_init_4 rfl (lv_at hl 0 rfl) ?_
  refine lv_bipush (v := 30) hx hb dX10_init_5 (by decide) ?_
  refine nq_newa (k := 1) (n := 30) (t0 := 1) (ty := .int) (atype := .int) hC hN rfl rfl (fun _ _ h9 => h9) rfl qw_int trivial (by decide) (by decide) (by decide) (Nat.le_trans (by decide) hR.1) (Nat.le_trans (by decide) hR.2) dX10_init_7 (fun Z_1 f_1 q_7 H hle_1 hkp_1 hin_1 hA_1 hz_1 hN => ?_)
  have hle1 := hle0.tr hle_1
  have hkp1 : tq_k Z [] f f_1 := hkp0.trn hle0 (tq_k.eqv (wr := []) hkp_1) (by decide)
  refine nq_putF 0 tyX10 hC hN rfl rfl inq_10 tyX10_ok nmX10 0 (by decide) qf_RX10_11 rfl rfl rfl rfl (Nat.le_of_ble_eq_true rfl) (Ys := [(h0, .inr (10, [.ref q_7, .null, .null, .null, .int 0, .int 0]))]) rfl dX10_init_9 (fun H locs hN => ?_)
  refine lv_aload_n hx hb dX10_init_12 rfl (lv_at hl 0 rfl) ?_
  refine lv_bipush (v := 30) hx hb dX10_init_13 (by decide) ?_
  refine nq_newa (k := 2) (n := 30) (t0 := 3) (ty := .boolean) (atype := .boolean) hC hN rfl rfl (fun _ _ h9 => h9) rfl qw_boolean trivial (by decide) (by decide) (by decide) (Nat.le_trans (by decide) hR.1) (Nat.le_trans (by decide) hR.2) dX10_init_15 (fun Z_2 f_2 q_15 H hle_2 hkp_2 hin_2 hA_2 hz_2 hN => ?_)
  have hle2 := hle1.tr hle_2
  have hkp2 : tq_k Z [] f f_2 := hkp1.trn hle1 (tq_k.eqv (wr := []) hkp_2) (by decide)
  have hz_1__Z_2 := hle_2 _ _ hz_1
  refine nq_putF 0 tyX10 hC hN rfl rfl inq_10 tyX10_ok nmX10 1 (by decide) qf_RX10_15 rfl rfl rfl rfl (Nat.le_of_ble_eq_true rfl) (Ys := [(h0, .inr (10, [.ref q_7, .ref q_15, .null, .null, .int 0, .int 0]))]) rfl dX10_init_17 (fun H locs hN => ?_)
  refine lv_aload_n hx hb dX10_init_20 rfl (lv_at hl 0 rfl) ?_
  refine lv_bipush (v := 30) hx hb dX10_init_21 (by decide) ?_
  refine nq_newa (k := 1) (n := 30) (t0 := 1) (ty := .int) (atype := .int) hC hN rfl rfl (fun _ _ h9 => h9) rfl qw_int trivial (by decide) (by decide) (by decide) (Nat.le_trans (by decide) hR.1) (Nat.le_trans (by decide) hR.2) dX10_init_23 (fun Z_3 f_3 q_23 H hle_3 hkp_3 hin_3 hA_3 hz_3 hN => ?_)
  have hle3 := hle2.tr hle_3
  have hkp3 : tq_k Z [] f f_3 := hkp2.trn hle2 (tq_k.eqv (wr := []) hkp_3) (by decide)
  have hz_1__Z_3 := hle_3 _ _ hz_1__Z_2
  have hz_2__Z_3 := hle_3 _ _ hz_2
  refine nq_putF 0 tyX10 hC hN rfl rfl inq_10 tyX10_ok nmX10 2 (by decide) qf_RX10_19 rfl rfl rfl rfl (Nat.le_of_ble_eq_true rfl) (Ys := [(h0, .inr (10, [.ref q_7, .ref q_15, .ref q_23, .null, .int 0, .int 0]))]) rfl dX10_init_25 (fun H locs hN => ?_)
  refine lv_aload_n hx hb dX10_init_28 rfl (lv_at hl 0 rfl) ?_
  refine lv_bipush (v := 30) hx hb dX10_init_29 (by decide) ?_
  refine nq_newa (k := 1) (n := 30) (t0 := 1) (ty := .int) (atype := .int) hC hN rfl rfl (fun _ _ h9 => h9) rfl qw_int trivial (by decide) (by decide) (by decide) (Nat.le_trans (by decide) hR.1) (Nat.le_trans (by decide) hR.2) dX10_init_31 (fun Z_4 f_4 q_31 H hle_4 hkp_4 hin_4 hA_4 hz_4 hN => ?_)
  have hle4 := hle3.tr hle_4
  have hkp4 : tq_k Z [] f f_4 := hkp3.trn hle3 (tq_k.eqv (wr := []) hkp_4) (by decide)
  have hz_1__Z_4 := hle_4 _ _ hz_1__Z_3
  have hz_2__Z_4 := hle_4 _ _ hz_2__Z_3
  have hz_3__Z_4 := hle_4 _ _ hz_3
  refine nq_putF 0 tyX10 hC hN rfl rfl inq_10 tyX10_ok nmX10 3 (by decide) qf_RX10_22 rfl rfl rfl rfl (Nat.le_of_ble_eq_true rfl) (Ys := [(h0, .inr (10, [.ref q_7, .ref q_15, .ref q_23, .ref q_31, .int 0, .int 0]))]) rfl dX10_init_33 (fun H locs hN => ?_)
  refine lv_aload_n hx hb dX10_init_36 rfl (lv_at hl 0 rfl) ?_
  refine lv_iconst (v := 0) hx hb dX10_init_37 (by decide) ?_
  refine nq_put 0 tyX10 hC hN rfl rfl inq_10 tyX10_ok nmX10 4 (by decide) qf_RX10_25 rfl rfl rfl (Nat.le_of_ble_eq_true rfl) (Ys := [(h0, .inr (10, [.ref q_7, .ref q_15, .ref q_23, .ref q_31, .int 0, .int 0]))]) rfl dX10_init_38 (fun H locs hN => ?_)
  refine lv_aload_n hx hb dX10_init_41 rfl (lv_at hl 0 rfl) ?_
  refine lv_iconst (v := 0) hx hb dX10_init_42 (by decide) ?_
  refine nq_put 0 tyX10 hC hN rfl rfl inq_10 tyX10_ok nmX10 5 (by decide) qf_RX10_29 rfl rfl rfl (Nat.le_of_ble_eq_true rfl) (Ys := [(h0, .inr (10, [.ref q_7, .ref q_15, .ref q_23, .ref q_31, .int 0, .int 0]))]) rfl dX10_init_43 (fun H locs hN => ?_)
  obtain ⟨hq9, hle9, hz9, hN⟩ := nq_type hN (fun hle9 k t ht => by
    match k, ht with
    | 0, ht => cases ht; exact ⟨_, rfl, ⟨_, rfl, hle9 _ _ hz_1__Z_4⟩⟩
    | 1, ht => cases ht; exact ⟨_, rfl, ⟨_, rfl, hle9 _ _ hz_2__Z_4⟩⟩
    | 2, ht => cases ht; exact ⟨_, rfl, ⟨_, rfl, hle9 _ _ hz_3__Z_4⟩⟩
    | 3, ht => cases ht; exact ⟨_, rfl, ⟨_, rfl, hle9 _ _ hz_4⟩⟩
    | 4, ht => cases ht; exact ⟨_, rfl, ⟨_, rfl, trivial⟩⟩
    | 5, ht => cases ht; exact ⟨_, rfl, ⟨_, rfl, trivial⟩⟩
    | k + 6, ht => exact absurd ht (by simp [tq_F, tq_L]))
  have hkt0 : tq_k Z [] f (va_up f_4 h0 (.inr (10, [.ref q_7, .ref q_15, .ref q_23, .ref q_31, .int 0, .int 0]))) := hkp4.trn hle4 (tq_k.eqv (wr := []) (tq_upk hq9)) (by decide)
  exact hret _ _ _ _ _ _ _ _ (by decide) (by decide) (hle4.tr hle9) hkt0 hz9 hN ⟨10, _, va_up_self _ _ _, rfl⟩ dX10_init_46
set_option maxHeartbeats 4000000 in
set_option maxRecDepth 100000 in
theorem c_X2_init (l : Launch) (X : tq_X) (Z : tq_Z) (f : Nat → va_E) (h0 sz : Nat) (h1 : Nat) (z_h1 : tq_z Z h1 (.inl 3)) (h2 : Nat) (z_h2 : tq_z Z h2 (.inl 7)) : tq_Mn l X Z f [] h0 sz yX2_init cX2_init 3 1 3 16 2 [.null, .null, .null, .null, .null, .int 0] [.ref h1, .ref h2] (fun _ _ => True) := by
  refine tq_startn (by decide) rfl (Nat.le_of_ble_eq_true rfl) (fun p e R s m args below meth c Q hC hR hV hret hN ls hl => ?_)
  have hC : tq_Cn p R s m args meth c X (tq_An Z h0 sz) RX2 cX2_init 3 1 := hC
  have hx := hC.1.1
  have hb := hC.1.2.1
  have hl : lv_has ls 3 [(0, .ref h0), (1, .ref h1), (2, .ref h2)] := hl
  have hle0 : tq_le Z Z := tq_le.rf
  have hkp0 : tq_k Z [] f f := tq_k.rf
  refine lv_aload_n hx hb dX2_init_0 rfl (lv_at hl 0 rfl) ?_
  refine nq_obj hC ql_RX2_3 hl.1 rfl (by decide) dX2_init_1 ?_
  refine lv_aload_n hx hb dX2_init_4 rfl (lv_at hl 0 rfl) ?_
  refine lv_aload_n hx hb dX2_init_5 rfl (lv_at hl 1 rfl) ?_
  refine nq_putF 0 tyX2 hC hN rfl rfl inq_2 tyX2_ok nmX2 0 (by decide) qf_RX2_9 rfl rfl rfl rfl (Nat.le_of_ble_eq_true rfl) (Ys := [(h0, .inr (2, [.ref h1, .null, .null, .null, .null, .int 0]))]) rfl dX2_init_6 (fun H locs hN => ?_)
  refine lv_aload_n hx hb dX2_init_9 rfl (lv_at hl 0 rfl) ?_
  refine lv_aload_n hx hb dX2_init_10 rfl (lv_at hl 2 rfl) ?_
  refine nq_putF 0 tyX2 hC hN rfl rfl inq_2 tyX2_ok nmX2 1 (by decide) qf_RX2_15 rfl rfl rfl rfl (Nat.le_of_ble_eq_true rfl) (Ys := [(h0, .inr (2, [.ref h1, .ref h2, .null, .null, .null, .int 0]))]) rfl dX2_init_11 (fun H locs hN => ?_)
  refine lv_aload_n hx hb dX2_init_14 rfl (lv_at hl 0 rfl) ?_
  refine lv_bipush (v := 6) hx hb dX2_init_15 (by decide) ?_
  refine nq_newa (k := 1) (n := 6) (t0 := 1) (ty := .int) (atype := .int) hC hN rfl rfl (fun _ _ h9 => h9) rfl qw_int trivial (by decide) (by decide) (by decide) (Nat.le_trans (by decide) hR.1) (Nat.le_trans (by decide) hR.2) dX2_init_17 (fun Z_1 f_1 q_17 H hle_1 hkp_1 hin_1 hA_1 hz_1 hN => ?_)
  have hle1 := hle0.tr hle_1
  have hkp1 : tq_k Z [] f f_1 := hkp0.trn hle0 (tq_k.eqv (wr := []) hkp_1) (by decide)
  have z_h1__Z_1 := hle_1 _ _ z_h1
  have z_h2__Z_1 := hle_1 _ _ z_h2
  refine nq_putF 0 tyX2 hC hN rfl rfl inq_2 tyX2_ok nmX2 2 (by decide) qf_RX2_19 rfl rfl rfl rfl (Nat.le_of_ble_eq_true rfl) (Ys := [(h0, .inr (2, [.ref h1, .ref h2, .ref q_17, .null, .null, .int 0]))]) rfl dX2_init_19 (fun H locs hN => ?_)
  refine lv_aload_n hx hb dX2_init_22 rfl (lv_at hl 0 rfl) ?_
  refine lv_iconst (v := 4) hx hb dX2_init_23 (by decide) ?_
  refine nq_newa (k := 1) (n := 4) (t0 := 1) (ty := .int) (atype := .int) hC hN rfl rfl (fun _ _ h9 => h9) rfl qw_int trivial (by decide) (by decide) (by decide) (Nat.le_trans (by decide) hR.1) (Nat.le_trans (by decide) hR.2) dX2_init_24 (fun Z_2 f_2 q_24 H hle_2 hkp_2 hin_2 hA_2 hz_2 hN => ?_)
  have hle2 := hle1.tr hle_2
  have hkp2 : tq_k Z [] f f_2 := hkp1.trn hle1 (tq_k.eqv (wr := []) hkp_2) (by decide)
  have z_h1__Z_2 := hle_2 _ _ z_h1__Z_1
  have z_h2__Z_2 := hle_2 _ _ z_h2__Z_1
  have hz_1__Z_2 := hle_2 _ _ hz_1
  refine nq_putF 0 tyX2 hC hN rfl rfl inq_2 tyX2_ok nmX2 3 (by decide) qf_RX2_23 rfl rfl rfl rfl (Nat.le_of_ble_eq_true rfl) (Ys := [(h0, .inr (2, [.ref h1, .ref h2, .ref q_17, .ref q_24, .null, .int 0]))]) rfl dX2_init_26 (fun H locs hN => ?_)
  refine lv_aload_n hx hb dX2_init_29 rfl (lv_at hl 0 rfl) ?_
  refine lv_bipush (v := 6) hx hb dX2_init_30 (by decide) ?_
  refine nq_newa (k := 1) (n := 6) (t0 := 1) (ty := .int) (atype := .int) hC hN rfl rfl (fun _ _ h9 => h9) rfl qw_int trivial (by decide) (by decide) (by decide) (Nat.le_trans (by decide) hR.1) (Nat.le_trans (by decide) hR.2) dX2_init_32 (fun Z_3 f_3 q_32 H hle_3 hkp_3 hin_3 hA_3 hz_3 hN => ?_)
  have hle3 := hle2.tr hle_3
  have hkp3 : tq_k Z [] f f_3 := hkp2.trn hle2 (tq_k.eqv (wr := []) hkp_3) (by decide)
  have z_h1__Z_3 := hle_3 _ _ z_h1__Z_2
  have z_h2__Z_3 := hle_3 _ _ z_h2__Z_2
  have hz_1__Z_3 := hle_3 _ _ hz_1__Z_2
  have hz_2__Z_3 := hle_3 _ _ hz_2
  refine nq_putF 0 tyX2 hC hN rfl rfl inq_2 tyX2_ok nmX2 4 (by decide) qf_RX2_26 rfl rfl rfl rfl (Nat.le_of_ble_eq_true rfl) (Ys := [(h0, .inr (2, [.ref h1, .ref h2, .ref q_17, .ref q_24, .ref q_32, .int 0]))]) rfl dX2_init_34 (fun H locs hN => ?_)
  refine lv_aload_n hx hb dX2_init_37 rfl (lv_at hl 0 rfl) ?_
  refine lv_iconst (v := 0) hx hb dX2_init_38 (by decide) ?_
  refine nq_put 0 tyX2 hC hN rfl rfl inq_2 tyX2_ok nmX2 5 (by decide) qf_RX2_29 rfl rfl rfl (Nat.le_of_ble_eq_true rfl) (Ys := [(h0, .inr (2, [.ref h1, .ref h2, .ref q_17, .ref q_24, .ref q_32, .int 0]))]) rfl dX2_init_39 (fun H locs hN => ?_)
  obtain ⟨hq9, hle9, hz9, hN⟩ := nq_type hN (fun hle9 k t ht => by
    match k, ht with
    | 0, ht => cases ht; exact ⟨_, rfl, ⟨_, rfl, hle9 _ _ z_h1__Z_3⟩⟩
    | 1, ht => cases ht; exact ⟨_, rfl, ⟨_, rfl, hle9 _ _ z_h2__Z_3⟩⟩
    | 2, ht => cases ht; exact ⟨_, rfl, ⟨_, rfl, hle9 _ _ hz_1__Z_3⟩⟩
    | 3, ht => cases ht; exact ⟨_, rfl, ⟨_, rfl, hle9 _ _ hz_2__Z_3⟩⟩
    | 4, ht => cases ht; exact ⟨_, rfl, ⟨_, rfl, hle9 _ _ hz_3⟩⟩
    | 5, ht => cases ht; exact ⟨_, rfl, ⟨_, rfl, trivial⟩⟩
    | k + 6, ht => exact absurd ht (by simp [tq_F, tq_L]))
  have hkt0 : tq_k Z [] f (va_up f_3 h0 (.inr (2, [.ref h1, .ref h2, .ref q_17, .ref q_24, .ref q_32, .int 0]))) := hkp3.trn hle3 (tq_k.eqv (wr := []) (tq_upk hq9)) (by decide)
  exact hret _ _ _ _ _ _ _ _ (by decide) (by decide) (hle3.tr hle9) hkt0 hz9 hN trivial dX2_init_42
set_option maxHeartbeats 4000000 in
set_option maxRecDepth 100000 in
theorem c_X6_init (l : Launch) (X : tq_X) (Z : tq_Z) (f : Nat → va_E) (h0 sz : Nat)  : tq_Mn l X Z f [(6, 0), (6, 1), (6, 2)] h0 sz yX6_init cX6_init 1 1 1 30 6 [.int 0, .int 0, .int 0, .null] [] (fun _ _ => True) := by
  refine tq_startn (by decide) rfl (Nat.le_of_ble_eq_true rfl) (fun p e R s m args below meth c Q hC hR hV hret hN ls hl => ?_)
  have hC : tq_Cn p R s m args meth c X (tq_An Z h0 sz) RX6 cX6_init 1 1 := hC
  have hx := hC.1.1
  have hb := hC.1.2.1
  have hl : lv_has ls 1 [(0, .ref h0)] := hl
  have hle0 : tq_le Z Z := tq_le.rf
  have hkp0 : tq_k Z [(6, 0), (6, 1), (6, 2)] f f := tq_k.rf
  refine lv_aload_n hx hb dX6_init_0 rfl (lv_at hl 0 rfl) ?_
  refine nq_obj hC ql_RX6_3 hl.1 rfl (by decide) dX6_init_1 ?_
  refine lv_aload_n hx hb dX6_init_4 rfl (lv_at hl 0 rfl) ?_
  refine lv_bipush (v := 30) hx hb dX6_init_5 (by decide) ?_
  refine nq_newa (k := 1) (n := 30) (t0 := 1) (ty := .int) (atype := .int) hC hN rfl rfl (fun _ _ h9 => h9) rfl qw_int trivial (by decide) (by decide) (by decide) (Nat.le_trans (by decide) hR.1) (Nat.le_trans (by decide) hR.2) dX6_init_7 (fun Z_1 f_1 q_7 H hle_1 hkp_1 hin_1 hA_1 hz_1 hN => ?_)
  have hle1 := hle0.tr hle_1
  have hkp1 : tq_k Z [(6, 0), (6, 1), (6, 2)] f f_1 := hkp0.trn hle0 (tq_k.eqv (wr := []) hkp_1) (by decide)
  refine nq_putF 0 tyX6 hC hN rfl rfl inq_6 tyX6_ok nmX6 3 (by decide) qf_RX6_9 rfl rfl rfl rfl (Nat.le_of_ble_eq_true rfl) (Ys := [(h0, .inr (6, [.int 0, .int 0, .int 0, .ref q_7]))]) rfl dX6_init_9 (fun H locs hN => ?_)
  refine lv_aload_n hx hb dX6_init_12 rfl (lv_at hl 0 rfl) ?_
  obtain ⟨hq9, hle9, hz9, hN⟩ := nq_type hN (fun hle9 k t ht => by
    match k, ht with
    | 0, ht => cases ht; exact ⟨_, rfl, ⟨_, rfl, ⟨by decide, by decide⟩⟩⟩
    | 1, ht => cases ht; exact ⟨_, rfl, ⟨_, rfl, ⟨by decide, by decide⟩⟩⟩
    | 2, ht => cases ht; exact ⟨_, rfl, ⟨_, rfl, ⟨by decide, by decide⟩⟩⟩
    | 3, ht => cases ht; exact ⟨_, rfl, ⟨_, rfl, hle9 _ _ hz_1⟩⟩
    | k + 4, ht => exact absurd ht (by simp [tq_F, tq_L]))
  have hkt0 : tq_k Z [(6, 0), (6, 1), (6, 2)] f (va_up f_1 h0 (.inr (6, [.int 0, .int 0, .int 0, .ref q_7]))) := hkp1.trn hle1 (tq_k.eqv (wr := []) (tq_upk hq9)) (by decide)
  refine nq_callV (As := []) (rest := []) hC hV hN (c_X6_reset l X _ _ h0 hz9) k_X6_reset ql_RX6_15 rfl (by decide) hz9 rfl hl.1 rfl (Nat.le_of_ble_eq_true rfl) ⟨Nat.le_trans (by decide) hR.1, Nat.le_trans (by decide) hR.2⟩ dX6_init_13 (fun f_2 H locs hk_2 hN => ?_)
  have hkt1 : tq_k Z [(6, 0), (6, 1), (6, 2)] f f_2 := hkt0.trn (hle1.tr hle9) hk_2 (by decide)
  exact hret _ _ _ _ _ _ _ _ (by decide) (by decide) (hle1.tr hle9) hkt1 hz9 hN trivial dX6_init_16
set_option maxHeartbeats 4000000 in
set_option maxRecDepth 100000 in
theorem c_X3_init (l : Launch) (X : tq_X) (Z : tq_Z) (f : Nat → va_E) (h0 sz : Nat)  : tq_Mn l X Z f [(6, 0), (6, 1), (6, 2)] h0 sz yX3_init cX3_init 1 2 13 682 3 [.null, .null, .null, .int 0, .int 0, .int 0, .int 0, .int 0, .null, .null, .null, .null, .null] [] (fun _ _ => True) := by
  refine tq_startn (by decide) rfl (Nat.le_of_ble_eq_true rfl) (fun p e R s m args below meth c Q hC hR hV hret hN ls hl => ?_)
  have hC : tq_Cn p R s m args meth c X (tq_An Z h0 sz) RX3 cX3_init 1 2 := hC
  have hx := hC.1.1
  have hb := hC.1.2.1
  have hl : lv_has ls 1 [(0, .ref h0)] := hl
  have hle0 : tq_le Z Z := tq_le.rf
  have hkp0 : tq_k Z [(6, 0), (6, 1), (6, 2)] f f := tq_k.rf
  refine lv_aload_n hx hb dX3_init_0 rfl (lv_at hl 0 rfl) ?_
  refine nq_obj hC ql_RX3_3 hl.1 rfl (by decide) dX3_init_1 ?_
  refine lv_aload_n hx hb dX3_init_4 rfl (lv_at hl 0 rfl) ?_
  refine nq_new (ci := 6) (fs := [.int 0, .int 0, .int 0, .null]) tyX6 hC hN rfl inq_6 tyX6_ok qk_RX3_9 qn_6 qi_6 (fun j hj => by rcases (show j = 0 ∨ j = 1 ∨ j = 2 ∨ j = 3 by omega) with rfl | rfl | rfl | rfl <;> rfl) (Nat.le_trans (by decide) hR.1) (Nat.le_trans (by decide) hR.2) dX3_init_5 (fun q_5 H hN => ?_)
  refine lv_dup hx hb dX3_init_8 rfl ?_
  refine nq_callI (Xs := [(h0, .inr (3, [.null, .null, .null, .int 0, .int 0, .int 0, .int 0, .int 0, .null, .null, .null, .null, .null]))]) (As := []) (rest := [.ref q_5, .ref h0]) hC hV hN (c_X6_init l X Z f q_5 _ ) ki_X6_init rfl (by decide) (by decide +kernel) ql_RX3_11 rfl (by decide) hl.1 rfl (Nat.le_of_ble_eq_true rfl) ⟨Nat.le_trans (by decide) hR.1, Nat.le_trans (by decide) hR.2⟩ dX3_init_9 (fun Z_1 f_1 H locs hle_1 hkp_1 hz_1 hxp_1 hN => ?_)
  have hle1 := hle0.tr hle_1
  have hkp1 : tq_k Z [(6, 0), (6, 1), (6, 2)] f f_1 := hkp0.trn hle0 hkp_1 (by decide)
  refine nq_putF 0 tyX3 hC hN rfl rfl inq_3 tyX3_ok nmX3 0 (by decide) qf_RX3_12 rfl rfl rfl rfl (Nat.le_of_ble_eq_true rfl) (Ys := [(h0, .inr (3, [.ref q_5, .null, .null, .int 0, .int 0, .int 0, .int 0, .int 0, .null, .null, .null, .null, .null]))]) rfl dX3_init_12 (fun H locs hN => ?_)
  refine lv_aload_n hx hb dX3_init_15 rfl (lv_at hl 0 rfl) ?_
  refine nq_new (ci := 0) (fs := [.int 0, .int 0, .null, .null, .null]) tyX0 hC hN rfl inq_0 tyX0_ok qk_RX3_18 qn_0 qi_0 (fun j hj => by rcases (show j = 0 ∨ j = 1 ∨ j = 2 ∨ j = 3 ∨ j = 4 by omega) with rfl | rfl | rfl | rfl | rfl <;> rfl) (Nat.le_trans (by decide) hR.1) (Nat.le_trans (by decide) hR.2) dX3_init_16 (fun q_16 H hN => ?_)
  refine lv_dup hx hb dX3_init_19 rfl ?_
  refine nq_callI (Xs := [(h0, .inr (3, [.ref q_5, .null, .null, .int 0, .int 0, .int 0, .int 0, .int 0, .null, .null, .null, .null, .null]))]) (As := []) (rest := [.ref q_16, .ref h0]) hC hV hN (c_X0_init l X Z_1 f_1 q_16 _ ) ki_X0_init rfl (by decide) (by decide +kernel) ql_RX3_20 rfl (by decide) hl.1 rfl (Nat.le_of_ble_eq_true rfl) ⟨Nat.le_trans (by decide) hR.1, Nat.le_trans (by decide) hR.2⟩ dX3_init_20 (fun Z_2 f_2 H locs hle_2 hkp_2 hz_2 hxp_2 hN => ?_)
  have hle2 := hle1.tr hle_2
  have hkp2 : tq_k Z [(6, 0), (6, 1), (6, 2)] f f_2 := hkp1.trn hle1 hkp_2 (by decide)
  have hz_1__Z_2 := hle_2 _ _ hz_1
  refine nq_putF 0 tyX3 hC hN rfl rfl inq_3 tyX3_ok nmX3 1 (by decide) qf_RX3_21 rfl rfl rfl rfl (Nat.le_of_ble_eq_true rfl) (Ys := [(h0, .inr (3, [.ref q_5, .ref q_16, .null, .int 0, .int 0, .int 0, .int 0, .int 0, .null, .null, .null, .null, .null]))]) rfl dX3_init_23 (fun H locs hN => ?_)
  refine lv_aload_n hx hb dX3_init_26 rfl (lv_at hl 0 rfl) ?_
  refine nq_new (ci := 7) (fs := [.null]) tyX7 hC hN rfl inq_7 tyX7_ok qk_RX3_25 qn_7 qi_7 (fun j hj => by rcases (show j = 0 by omega) with rfl <;> rfl) (Nat.le_trans (by decide) hR.1) (Nat.le_trans (by decide) hR.2) dX3_init_27 (fun q_27 H hN => ?_)
  refine lv_dup hx hb dX3_init_30 rfl ?_
  refine nq_callI (Xs := [(h0, .inr (3, [.ref q_5, .ref q_16, .null, .int 0, .int 0, .int 0, .int 0, .int 0, .null, .null, .null, .null, .null]))]) (As := []) (rest := [.ref q_27, .ref h0]) hC hV hN (c_X7_init l X Z_2 f_2 q_27 _ ) ki_X7_init rfl (by decide) (by decide +kernel) ql_RX3_27 rfl (by decide) hl.1 rfl (Nat.le_of_ble_eq_true rfl) ⟨Nat.le_trans (by decide) hR.1, Nat.le_trans (by decide) hR.2⟩ dX3_init_31 (fun Z_3 f_3 H locs hle_3 hkp_3 hz_3 hxp_3 hN => ?_)
  have hle3 := hle2.tr hle_3
  have hkp3 : tq_k Z [(6, 0), (6, 1), (6, 2)] f f_3 := hkp2.trn hle2 hkp_3 (by decide)
  have hz_1__Z_3 := hle_3 _ _ hz_1__Z_2
  have hz_2__Z_3 := hle_3 _ _ hz_2
  refine nq_putF 0 tyX3 hC hN rfl rfl inq_3 tyX3_ok nmX3 2 (by decide) qf_RX3_28 rfl rfl rfl rfl (Nat.le_of_ble_eq_true rfl) (Ys := [(h0, .inr (3, [.ref q_5, .ref q_16, .ref q_27, .int 0, .int 0, .int 0, .int 0, .int 0, .null, .null, .null, .null, .null]))]) rfl dX3_init_34 (fun H locs hN => ?_)
  refine lv_aload_n hx hb dX3_init_37 rfl (lv_at hl 0 rfl) ?_
  refine lv_bipush (v := 8) hx hb dX3_init_38 (by decide) ?_
  refine nq_newa (k := 1) (n := 8) (t0 := 1) (ty := .int) (atype := .int) hC hN rfl rfl (fun _ _ h9 => h9) rfl qw_int trivial (by decide) (by decide) (by decide) (Nat.le_trans (by decide) hR.1) (Nat.le_trans (by decide) hR.2) dX3_init_40 (fun Z_4 f_4 q_40 H hle_4 hkp_4 hin_4 hA_4 hz_4 hN => ?_)
  have hle4 := hle3.tr hle_4
  have hkp4 : tq_k Z [(6, 0), (6, 1), (6, 2)] f f_4 := hkp3.trn hle3 (tq_k.eqv (wr := []) hkp_4) (by decide)
  have hz_1__Z_4 := hle_4 _ _ hz_1__Z_3
  have hz_2__Z_4 := hle_4 _ _ hz_2__Z_3
  have hz_3__Z_4 := hle_4 _ _ hz_3
  refine nq_putF 0 tyX3 hC hN rfl rfl inq_3 tyX3_ok nmX3 8 (by decide) qf_RX3_32 rfl rfl rfl rfl (Nat.le_of_ble_eq_true rfl) (Ys := [(h0, .inr (3, [.ref q_5, .ref q_16, .ref q_27, .int 0, .int 0, .int 0, .int 0, .int 0, .ref q_40, .null, .null, .null, .null]))]) rfl dX3_init_42 (fun H locs hN => ?_)
  refine lv_aload_n hx hb dX3_init_45 rfl (lv_at hl 0 rfl) ?_
  refine lv_bipush (v := 8) hx hb dX3_init_46 (by decide) ?_
  refine nq_newa (k := 1) (n := 8) (t0 := 1) (ty := .int) (atype := .int) hC hN rfl rfl (fun _ _ h9 => h9) rfl qw_int trivial (by decide) (by decide) (by decide) (Nat.le_trans (by decide) hR.1) (Nat.le_trans (by decide) hR.2) dX3_init_48 (fun Z_5 f_5 q_48 H hle_5 hkp_5 hin_5 hA_5 hz_5 hN => ?_)
  have hle5 := hle4.tr hle_5
  have hkp5 : tq_k Z [(6, 0), (6, 1), (6, 2)] f f_5 := hkp4.trn hle4 (tq_k.eqv (wr := []) hkp_5) (by decide)
  have hz_1__Z_5 := hle_5 _ _ hz_1__Z_4
  have hz_2__Z_5 := hle_5 _ _ hz_2__Z_4
  have hz_3__Z_5 := hle_5 _ _ hz_3__Z_4
  have hz_4__Z_5 := hle_5 _ _ hz_4
  refine nq_putF 0 tyX3 hC hN rfl rfl inq_3 tyX3_ok nmX3 9 (by decide) qf_RX3_36 rfl rfl rfl rfl (Nat.le_of_ble_eq_true rfl) (Ys := [(h0, .inr (3, [.ref q_5, .ref q_16, .ref q_27, .int 0, .int 0, .int 0, .int 0, .int 0, .ref q_40, .ref q_48, .null, .null, .null]))]) rfl dX3_init_50 (fun H locs hN => ?_)
  refine lv_aload_n hx hb dX3_init_53 rfl (lv_at hl 0 rfl) ?_
  refine lv_bipush (v := 8) hx hb dX3_init_54 (by decide) ?_
  refine nq_newa (k := 1) (n := 8) (t0 := 1) (ty := .int) (atype := .int) hC hN rfl rfl (fun _ _ h9 => h9) rfl qw_int trivial (by decide) (by decide) (by decide) (Nat.le_trans (by decide) hR.1) (Nat.le_trans (by decide) hR.2) dX3_init_56 (fun Z_6 f_6 q_56 H hle_6 hkp_6 hin_6 hA_6 hz_6 hN => ?_)
  have hle6 := hle5.tr hle_6
  have hkp6 : tq_k Z [(6, 0), (6, 1), (6, 2)] f f_6 := hkp5.trn hle5 (tq_k.eqv (wr := []) hkp_6) (by decide)
  have hz_1__Z_6 := hle_6 _ _ hz_1__Z_5
  have hz_2__Z_6 := hle_6 _ _ hz_2__Z_5
  have hz_3__Z_6 := hle_6 _ _ hz_3__Z_5
  have hz_4__Z_6 := hle_6 _ _ hz_4__Z_5
  have hz_5__Z_6 := hle_6 _ _ hz_5
  refine nq_putF 0 tyX3 hC hN rfl rfl inq_3 tyX3_ok nmX3 10 (by decide) qf_RX3_39 rfl rfl rfl rfl (Nat.le_of_ble_eq_true rfl) (Ys := [(h0, .inr (3, [.ref q_5, .ref q_16, .ref q_27, .int 0, .int 0, .int 0, .int 0, .int 0, .ref q_40, .ref q_48, .ref q_56, .null, .null]))]) rfl dX3_init_58 (fun H locs hN => ?_)
  refine lv_aload_n hx hb dX3_init_61 rfl (lv_at hl 0 rfl) ?_
  refine lv_bipush (v := 6) hx hb dX3_init_62 (by decide) ?_
  refine nq_newa (k := 1) (n := 6) (t0 := 1) (ty := .int) (atype := .int) hC hN rfl rfl (fun _ _ h9 => h9) rfl qw_int trivial (by decide) (by decide) (by decide) (Nat.le_trans (by decide) hR.1) (Nat.le_trans (by decide) hR.2) dX3_init_64 (fun Z_7 f_7 q_64 H hle_7 hkp_7 hin_7 hA_7 hz_7 hN => ?_)
  have hle7 := hle6.tr hle_7
  have hkp7 : tq_k Z [(6, 0), (6, 1), (6, 2)] f f_7 := hkp6.trn hle6 (tq_k.eqv (wr := []) hkp_7) (by decide)
  have hz_1__Z_7 := hle_7 _ _ hz_1__Z_6
  have hz_2__Z_7 := hle_7 _ _ hz_2__Z_6
  have hz_3__Z_7 := hle_7 _ _ hz_3__Z_6
  have hz_4__Z_7 := hle_7 _ _ hz_4__Z_6
  have hz_5__Z_7 := hle_7 _ _ hz_5__Z_6
  have hz_6__Z_7 := hle_7 _ _ hz_6
  refine nq_putF 0 tyX3 hC hN rfl rfl inq_3 tyX3_ok nmX3 11 (by decide) qf_RX3_42 rfl rfl rfl rfl (Nat.le_of_ble_eq_true rfl) (Ys := [(h0, .inr (3, [.ref q_5, .ref q_16, .ref q_27, .int 0, .int 0, .int 0, .int 0, .int 0, .ref q_40, .ref q_48, .ref q_56, .ref q_64, .null]))]) rfl dX3_init_66 (fun H locs hN => ?_)
  refine lv_aload_n hx hb dX3_init_69 rfl (lv_at hl 0 rfl) ?_
  refine lv_bipush (v := 6) hx hb dX3_init_70 (by decide) ?_
  refine nq_newa (k := 1) (n := 6) (t0 := 1) (ty := .int) (atype := .int) hC hN rfl rfl (fun _ _ h9 => h9) rfl qw_int trivial (by decide) (by decide) (by decide) (Nat.le_trans (by decide) hR.1) (Nat.le_trans (by decide) hR.2) dX3_init_72 (fun Z_8 f_8 q_72 H hle_8 hkp_8 hin_8 hA_8 hz_8 hN => ?_)
  have hle8 := hle7.tr hle_8
  have hkp8 : tq_k Z [(6, 0), (6, 1), (6, 2)] f f_8 := hkp7.trn hle7 (tq_k.eqv (wr := []) hkp_8) (by decide)
  have hz_1__Z_8 := hle_8 _ _ hz_1__Z_7
  have hz_2__Z_8 := hle_8 _ _ hz_2__Z_7
  have hz_3__Z_8 := hle_8 _ _ hz_3__Z_7
  have hz_4__Z_8 := hle_8 _ _ hz_4__Z_7
  have hz_5__Z_8 := hle_8 _ _ hz_5__Z_7
  have hz_6__Z_8 := hle_8 _ _ hz_6__Z_7
  have hz_7__Z_8 := hle_8 _ _ hz_7
  refine nq_putF 0 tyX3 hC hN rfl rfl inq_3 tyX3_ok nmX3 12 (by decide) qf_RX3_45 rfl rfl rfl rfl (Nat.le_of_ble_eq_true rfl) (Ys := [(h0, .inr (3, [.ref q_5, .ref q_16, .ref q_27, .int 0, .int 0, .int 0, .int 0, .int 0, .ref q_40, .ref q_48, .ref q_56, .ref q_64, .ref q_72]))]) rfl dX3_init_74 (fun H locs hN => ?_)
  obtain ⟨hq9, hle9, hz9, hN⟩ := nq_type hN (fun hle9 k t ht => by
    match k, ht with
    | 0, ht => cases ht; exact ⟨_, rfl, ⟨_, rfl, hle9 _ _ hz_1__Z_8⟩⟩
    | 1, ht => cases ht; exact ⟨_, rfl, ⟨_, rfl, hle9 _ _ hz_2__Z_8⟩⟩
    | 2, ht => cases ht; exact ⟨_, rfl, ⟨_, rfl, hle9 _ _ hz_3__Z_8⟩⟩
    | 3, ht => cases ht; exact ⟨_, rfl, ⟨_, rfl, ⟨by decide, by decide⟩⟩⟩
    | 4, ht => cases ht; exact ⟨_, rfl, ⟨_, rfl, trivial⟩⟩
    | 5, ht => cases ht; exact ⟨_, rfl, ⟨_, rfl, trivial⟩⟩
    | 6, ht => cases ht; exact ⟨_, rfl, ⟨_, rfl, trivial⟩⟩
    | 7, ht => cases ht; exact ⟨_, rfl, ⟨_, rfl, trivial⟩⟩
    | 8, ht => cases ht; exact ⟨_, rfl, ⟨_, rfl, hle9 _ _ hz_4__Z_8⟩⟩
    | 9, ht => cases ht; exact ⟨_, rfl, ⟨_, rfl, hle9 _ _ hz_5__Z_8⟩⟩
    | 10, ht => cases ht; exact ⟨_, rfl, ⟨_, rfl, hle9 _ _ hz_6__Z_8⟩⟩
    | 11, ht => cases ht; exact ⟨_, rfl, ⟨_, rfl, hle9 _ _ hz_7__Z_8⟩⟩
    | 12, ht => cases ht; exact ⟨_, rfl, ⟨_, rfl, hle9 _ _ hz_8⟩⟩
    | k + 13, ht => exact absurd ht (by simp [tq_F, tq_L]))
  have hkt0 : tq_k Z [(6, 0), (6, 1), (6, 2)] f (va_up f_8 h0 (.inr (3, [.ref q_5, .ref q_16, .ref q_27, .int 0, .int 0, .int 0, .int 0, .int 0, .ref q_40, .ref q_48, .ref q_56, .ref q_64, .ref q_72]))) := hkp8.trn hle8 (tq_k.eqv (wr := []) (tq_upk hq9)) (by decide)
  exact hret _ _ _ _ _ _ _ _ (by decide) (by decide) (hle8.tr hle9) hkt0 hz9 hN trivial dX3_init_77
set_option maxHeartbeats 4000000 in
set_option maxRecDepth 100000 in
theorem c_X5_init (l : Launch) (X : tq_X) (Z : tq_Z) (f : Nat → va_E) (h0 sz : Nat) (h1 : Nat) (z_h1 : tq_z Z h1 (.inl 3)) (h2 : Nat) (z_h2 : tq_z Z h2 (.inl 7)) : tq_Mn l X Z f [] h0 sz yX5_init cX5_init 3 1 1 48 5 [.null, .null, .null, .null, .int 0] [.ref h1, .ref h2] (fun _ _ => True) := by
  refine tq_startn (by decide) rfl (Nat.le_of_ble_eq_true rfl) (fun p e R s m args below meth c Q hC hR hV hret hN ls hl => ?_)
  have hC : tq_Cn p R s m args meth c X (tq_An Z h0 sz) RX5 cX5_init 3 1 := hC
  have hx := hC.1.1
  have hb := hC.1.2.1
  have hl : lv_has ls 3 [(0, .ref h0), (1, .ref h1), (2, .ref h2)] := hl
  have hle0 : tq_le Z Z := tq_le.rf
  have hkp0 : tq_k Z [] f f := tq_k.rf
  refine lv_aload_n hx hb dX5_init_0 rfl (lv_at hl 0 rfl) ?_
  refine nq_obj hC ql_RX5_3 hl.1 rfl (by decide) dX5_init_1 ?_
  refine lv_aload_n hx hb dX5_init_4 rfl (lv_at hl 0 rfl) ?_
  refine lv_aload_n hx hb dX5_init_5 rfl (lv_at hl 1 rfl) ?_
  refine nq_putF 0 tyX5 hC hN rfl rfl inq_5 tyX5_ok nmX5 0 (by decide) qf_RX5_9 rfl rfl rfl rfl (Nat.le_of_ble_eq_true rfl) (Ys := [(h0, .inr (5, [.ref h1, .null, .null, .null, .int 0]))]) rfl dX5_init_6 (fun H locs hN => ?_)
  refine lv_aload_n hx hb dX5_init_9 rfl (lv_at hl 0 rfl) ?_
  refine lv_aload_n hx hb dX5_init_10 rfl (lv_at hl 2 rfl) ?_
  refine nq_putF 0 tyX5 hC hN rfl rfl inq_5 tyX5_ok nmX5 1 (by decide) qf_RX5_15 rfl rfl rfl rfl (Nat.le_of_ble_eq_true rfl) (Ys := [(h0, .inr (5, [.ref h1, .ref h2, .null, .null, .int 0]))]) rfl dX5_init_11 (fun H locs hN => ?_)
  refine lv_aload_n hx hb dX5_init_14 rfl (lv_at hl 0 rfl) ?_
  refine lv_aload_n hx hb dX5_init_15 rfl (lv_at hl 1 rfl) ?_
  refine nq_getr hC hN z_h1 rfl inq_3 0 (by decide) qf_RX5_19 rfl dX5_init_16 (fun t_16 p_16 q_16 => ?_)
  refine nq_putF 0 tyX5 hC hN rfl rfl inq_5 tyX5_ok nmX5 2 (by decide) qf_RX5_25 rfl rfl rfl rfl (Nat.le_of_ble_eq_true rfl) (Ys := [(h0, .inr (5, [.ref h1, .ref h2, .ref t_16, .null, .int 0]))]) rfl dX5_init_19 (fun H locs hN => ?_)
  refine lv_aload_n hx hb dX5_init_22 rfl (lv_at hl 0 rfl) ?_
  refine lv_bipush (v := 48) hx hb dX5_init_23 (by decide) ?_
  refine nq_newa (k := 1) (n := 48) (t0 := 1) (ty := .int) (atype := .int) hC hN rfl rfl (fun _ _ h9 => h9) rfl qw_int trivial (by decide) (by decide) (by decide) (Nat.le_trans (by decide) hR.1) (Nat.le_trans (by decide) hR.2) dX5_init_25 (fun Z_1 f_1 q_25 H hle_1 hkp_1 hin_1 hA_1 hz_1 hN => ?_)
  have hle1 := hle0.tr hle_1
  have hkp1 : tq_k Z [] f f_1 := hkp0.trn hle0 (tq_k.eqv (wr := []) hkp_1) (by decide)
  have z_h1__Z_1 := hle_1 _ _ z_h1
  have z_h2__Z_1 := hle_1 _ _ z_h2
  have p_16__Z_1 := hle_1 _ _ p_16
  refine nq_putF 0 tyX5 hC hN rfl rfl inq_5 tyX5_ok nmX5 3 (by decide) qf_RX5_26 rfl rfl rfl rfl (Nat.le_of_ble_eq_true rfl) (Ys := [(h0, .inr (5, [.ref h1, .ref h2, .ref t_16, .ref q_25, .int 0]))]) rfl dX5_init_27 (fun H locs hN => ?_)
  refine lv_aload_n hx hb dX5_init_30 rfl (lv_at hl 0 rfl) ?_
  refine lv_iconst (v := 0) hx hb dX5_init_31 (by decide) ?_
  refine nq_put 0 tyX5 hC hN rfl rfl inq_5 tyX5_ok nmX5 4 (by decide) qf_RX5_30 rfl rfl rfl (Nat.le_of_ble_eq_true rfl) (Ys := [(h0, .inr (5, [.ref h1, .ref h2, .ref t_16, .ref q_25, .int 0]))]) rfl dX5_init_32 (fun H locs hN => ?_)
  obtain ⟨hq9, hle9, hz9, hN⟩ := nq_type hN (fun hle9 k t ht => by
    match k, ht with
    | 0, ht => cases ht; exact ⟨_, rfl, ⟨_, rfl, hle9 _ _ z_h1__Z_1⟩⟩
    | 1, ht => cases ht; exact ⟨_, rfl, ⟨_, rfl, hle9 _ _ z_h2__Z_1⟩⟩
    | 2, ht => cases ht; exact ⟨_, rfl, ⟨_, rfl, hle9 _ _ p_16__Z_1⟩⟩
    | 3, ht => cases ht; exact ⟨_, rfl, ⟨_, rfl, hle9 _ _ hz_1⟩⟩
    | 4, ht => cases ht; exact ⟨_, rfl, ⟨_, rfl, trivial⟩⟩
    | k + 5, ht => exact absurd ht (by simp [tq_F, tq_L]))
  have hkt0 : tq_k Z [] f (va_up f_1 h0 (.inr (5, [.ref h1, .ref h2, .ref t_16, .ref q_25, .int 0]))) := hkp1.trn hle1 (tq_k.eqv (wr := []) (tq_upk hq9)) (by decide)
  exact hret _ _ _ _ _ _ _ _ (by decide) (by decide) (hle1.tr hle9) hkt0 hz9 hN trivial dX5_init_35
set_option maxHeartbeats 4000000 in
set_option maxRecDepth 100000 in
theorem c_X8_init (l : Launch) (X : tq_X) (Z : tq_Z) (f : Nat → va_E) (h0 sz : Nat) (h1 : Nat) (z_h1 : tq_z Z h1 (.inl 3)) : tq_Mn l X Z f [] h0 sz yX8_init cX8_init 2 1 11 2512 8 [.null, .null, .null, .null, .null, .null, .null, .null, .null, .null, .null, .null, .null] [.ref h1] (fun _ _ => True) := by
  refine tq_startn (by decide) rfl (Nat.le_of_ble_eq_true rfl) (fun p e R s m args below meth c Q hC hR hV hret hN ls hl => ?_)
  have hC : tq_Cn p R s m args meth c X (tq_An Z h0 sz) RX8 cX8_init 2 1 := hC
  have hx := hC.1.1
  have hb := hC.1.2.1
  have hl : lv_has ls 2 [(0, .ref h0), (1, .ref h1)] := hl
  have hle0 : tq_le Z Z := tq_le.rf
  have hkp0 : tq_k Z [] f f := tq_k.rf
  refine lv_aload_n hx hb dX8_init_0 rfl (lv_at hl 0 rfl) ?_
  refine nq_obj hC ql_RX8_3 hl.1 rfl (by decide) dX8_init_1 ?_
  refine lv_aload_n hx hb dX8_init_4 rfl (lv_at hl 0 rfl) ?_
  refine lv_aload_n hx hb dX8_init_5 rfl (lv_at hl 1 rfl) ?_
  refine nq_putF 0 tyX8 hC hN rfl rfl inq_8 tyX8_ok nmX8 0 (by decide) qf_RX8_9 rfl rfl rfl rfl (Nat.le_of_ble_eq_true rfl) (Ys := [(h0, .inr (8, [.ref h1, .null, .null, .null, .null, .null, .null, .null, .null, .null, .null, .null, .null]))]) rfl dX8_init_6 (fun H locs hN => ?_)
  refine lv_aload_n hx hb dX8_init_9 rfl (lv_at hl 0 rfl) ?_
  refine lv_aload_n hx hb dX8_init_10 rfl (lv_at hl 1 rfl) ?_
  refine nq_getr hC hN z_h1 rfl inq_3 0 (by decide) qf_RX8_15 rfl dX8_init_11 (fun t_11 p_11 q_11 => ?_)
  refine nq_putF 0 tyX8 hC hN rfl rfl inq_8 tyX8_ok nmX8 1 (by decide) qf_RX8_21 rfl rfl rfl rfl (Nat.le_of_ble_eq_true rfl) (Ys := [(h0, .inr (8, [.ref h1, .ref t_11, .null, .null, .null, .null, .null, .null, .null, .null, .null, .null, .null]))]) rfl dX8_init_14 (fun H locs hN => ?_)
  refine lv_aload_n hx hb dX8_init_17 rfl (lv_at hl 0 rfl) ?_
  refine lv_bipush (v := 10) hx hb dX8_init_18 (by decide) ?_
  refine nq_newa (k := 1) (n := 10) (t0 := 1) (ty := .int) (atype := .int) hC hN rfl rfl (fun _ _ h9 => h9) rfl qw_int trivial (by decide) (by decide) (by decide) (Nat.le_trans (by decide) hR.1) (Nat.le_trans (by decide) hR.2) dX8_init_20 (fun Z_1 f_1 q_20 H hle_1 hkp_1 hin_1 hA_1 hz_1 hN => ?_)
  have hle1 := hle0.tr hle_1
  have hkp1 : tq_k Z [] f f_1 := hkp0.trn hle0 (tq_k.eqv (wr := []) hkp_1) (by decide)
  have z_h1__Z_1 := hle_1 _ _ z_h1
  have p_11__Z_1 := hle_1 _ _ p_11
  refine nq_putF 0 tyX8 hC hN rfl rfl inq_8 tyX8_ok nmX8 2 (by decide) qf_RX8_22 rfl rfl rfl rfl (Nat.le_of_ble_eq_true rfl) (Ys := [(h0, .inr (8, [.ref h1, .ref t_11, .ref q_20, .null, .null, .null, .null, .null, .null, .null, .null, .null, .null]))]) rfl dX8_init_22 (fun H locs hN => ?_)
  refine lv_aload_n hx hb dX8_init_25 rfl (lv_at hl 0 rfl) ?_
  refine lv_bipush (v := 6) hx hb dX8_init_26 (by decide) ?_
  refine nq_newa (k := 1) (n := 6) (t0 := 1) (ty := .int) (atype := .int) hC hN rfl rfl (fun _ _ h9 => h9) rfl qw_int trivial (by decide) (by decide) (by decide) (Nat.le_trans (by decide) hR.1) (Nat.le_trans (by decide) hR.2) dX8_init_28 (fun Z_2 f_2 q_28 H hle_2 hkp_2 hin_2 hA_2 hz_2 hN => ?_)
  have hle2 := hle1.tr hle_2
  have hkp2 : tq_k Z [] f f_2 := hkp1.trn hle1 (tq_k.eqv (wr := []) hkp_2) (by decide)
  have z_h1__Z_2 := hle_2 _ _ z_h1__Z_1
  have p_11__Z_2 := hle_2 _ _ p_11__Z_1
  have hz_1__Z_2 := hle_2 _ _ hz_1
  refine nq_putF 0 tyX8 hC hN rfl rfl inq_8 tyX8_ok nmX8 3 (by decide) qf_RX8_26 rfl rfl rfl rfl (Nat.le_of_ble_eq_true rfl) (Ys := [(h0, .inr (8, [.ref h1, .ref t_11, .ref q_20, .ref q_28, .null, .null, .null, .null, .null, .null, .null, .null, .null]))]) rfl dX8_init_30 (fun H locs hN => ?_)
  refine lv_aload_n hx hb dX8_init_33 rfl (lv_at hl 0 rfl) ?_
  refine lv_sipush (v := 384) hx hb dX8_init_34 (by decide) ?_
  refine nq_newa (k := 1) (n := 384) (t0 := 1) (ty := .int) (atype := .int) hC hN rfl rfl (fun _ _ h9 => h9) rfl qw_int trivial (by decide) (by decide) (by decide) (Nat.le_trans (by decide) hR.1) (Nat.le_trans (by decide) hR.2) dX8_init_37 (fun Z_3 f_3 q_37 H hle_3 hkp_3 hin_3 hA_3 hz_3 hN => ?_)
  have hle3 := hle2.tr hle_3
  have hkp3 : tq_k Z [] f f_3 := hkp2.trn hle2 (tq_k.eqv (wr := []) hkp_3) (by decide)
  have z_h1__Z_3 := hle_3 _ _ z_h1__Z_2
  have p_11__Z_3 := hle_3 _ _ p_11__Z_2
  have hz_1__Z_3 := hle_3 _ _ hz_1__Z_2
  have hz_2__Z_3 := hle_3 _ _ hz_2
  refine nq_put 0 tyX8 hC hN rfl rfl inq_8 tyX8_ok nmX8 4 (by decide) qf_RX8_29 rfl rfl rfl (Nat.le_of_ble_eq_true rfl) (Ys := [(h0, .inr (8, [.ref h1, .ref t_11, .ref q_20, .ref q_28, .ref q_37, .null, .null, .null, .null, .null, .null, .null, .null]))]) rfl dX8_init_39 (fun H locs hN => ?_)
  refine lv_aload_n hx hb dX8_init_42 rfl (lv_at hl 0 rfl) ?_
  refine lv_sipush (v := 384) hx hb dX8_init_43 (by decide) ?_
  refine nq_newa (k := 1) (n := 384) (t0 := 1) (ty := .int) (atype := .int) hC hN rfl rfl (fun _ _ h9 => h9) rfl qw_int trivial (by decide) (by decide) (by decide) (Nat.le_trans (by decide) hR.1) (Nat.le_trans (by decide) hR.2) dX8_init_46 (fun Z_4 f_4 q_46 H hle_4 hkp_4 hin_4 hA_4 hz_4 hN => ?_)
  have hle4 := hle3.tr hle_4
  have hkp4 : tq_k Z [] f f_4 := hkp3.trn hle3 (tq_k.eqv (wr := []) hkp_4) (by decide)
  have z_h1__Z_4 := hle_4 _ _ z_h1__Z_3
  have p_11__Z_4 := hle_4 _ _ p_11__Z_3
  have hz_1__Z_4 := hle_4 _ _ hz_1__Z_3
  have hz_2__Z_4 := hle_4 _ _ hz_2__Z_3
  have hz_3__Z_4 := hle_4 _ _ hz_3
  refine nq_put 0 tyX8 hC hN rfl rfl inq_8 tyX8_ok nmX8 5 (by decide) qf_RX8_32 rfl rfl rfl (Nat.le_of_ble_eq_true rfl) (Ys := [(h0, .inr (8, [.ref h1, .ref t_11, .ref q_20, .ref q_28, .ref q_37, .ref q_46, .null, .null, .null, .null, .null, .null, .null]))]) rfl dX8_init_48 (fun H locs hN => ?_)
  refine lv_aload_n hx hb dX8_init_51 rfl (lv_at hl 0 rfl) ?_
  refine lv_sipush (v := 384) hx hb dX8_init_52 (by decide) ?_
  refine nq_newa (k := 1) (n := 384) (t0 := 1) (ty := .int) (atype := .int) hC hN rfl rfl (fun _ _ h9 => h9) rfl qw_int trivial (by decide) (by decide) (by decide) (Nat.le_trans (by decide) hR.1) (Nat.le_trans (by decide) hR.2) dX8_init_55 (fun Z_5 f_5 q_55 H hle_5 hkp_5 hin_5 hA_5 hz_5 hN => ?_)
  have hle5 := hle4.tr hle_5
  have hkp5 : tq_k Z [] f f_5 := hkp4.trn hle4 (tq_k.eqv (wr := []) hkp_5) (by decide)
  have z_h1__Z_5 := hle_5 _ _ z_h1__Z_4
  have p_11__Z_5 := hle_5 _ _ p_11__Z_4
  have hz_1__Z_5 := hle_5 _ _ hz_1__Z_4
  have hz_2__Z_5 := hle_5 _ _ hz_2__Z_4
  have hz_3__Z_5 := hle_5 _ _ hz_3__Z_4
  have hz_4__Z_5 := hle_5 _ _ hz_4
  refine nq_put 0 tyX8 hC hN rfl rfl inq_8 tyX8_ok nmX8 6 (by decide) qf_RX8_35 rfl rfl rfl (Nat.le_of_ble_eq_true rfl) (Ys := [(h0, .inr (8, [.ref h1, .ref t_11, .ref q_20, .ref q_28, .ref q_37, .ref q_46, .ref q_55, .null, .null, .null, .null, .null, .null]))]) rfl dX8_init_57 (fun H locs hN => ?_)
  refine lv_aload_n hx hb dX8_init_60 rfl (lv_at hl 0 rfl) ?_
  refine lv_sipush (v := 384) hx hb dX8_init_61 (by decide) ?_
  refine nq_newa (k := 1) (n := 384) (t0 := 1) (ty := .int) (atype := .int) hC hN rfl rfl (fun _ _ h9 => h9) rfl qw_int trivial (by decide) (by decide) (by decide) (Nat.le_trans (by decide) hR.1) (Nat.le_trans (by decide) hR.2) dX8_init_64 (fun Z_6 f_6 q_64 H hle_6 hkp_6 hin_6 hA_6 hz_6 hN => ?_)
  have hle6 := hle5.tr hle_6
  have hkp6 : tq_k Z [] f f_6 := hkp5.trn hle5 (tq_k.eqv (wr := []) hkp_6) (by decide)
  have z_h1__Z_6 := hle_6 _ _ z_h1__Z_5
  have p_11__Z_6 := hle_6 _ _ p_11__Z_5
  have hz_1__Z_6 := hle_6 _ _ hz_1__Z_5
  have hz_2__Z_6 := hle_6 _ _ hz_2__Z_5
  have hz_3__Z_6 := hle_6 _ _ hz_3__Z_5
  have hz_4__Z_6 := hle_6 _ _ hz_4__Z_5
  have hz_5__Z_6 := hle_6 _ _ hz_5
  refine nq_put 0 tyX8 hC hN rfl rfl inq_8 tyX8_ok nmX8 7 (by decide) qf_RX8_38 rfl rfl rfl (Nat.le_of_ble_eq_true rfl) (Ys := [(h0, .inr (8, [.ref h1, .ref t_11, .ref q_20, .ref q_28, .ref q_37, .ref q_46, .ref q_55, .ref q_64, .null, .null, .null, .null, .null]))]) rfl dX8_init_66 (fun H locs hN => ?_)
  refine lv_aload_n hx hb dX8_init_69 rfl (lv_at hl 0 rfl) ?_
  refine lv_sipush (v := 384) hx hb dX8_init_70 (by decide) ?_
  refine nq_newa (k := 1) (n := 384) (t0 := 1) (ty := .int) (atype := .int) hC hN rfl rfl (fun _ _ h9 => h9) rfl qw_int trivial (by decide) (by decide) (by decide) (Nat.le_trans (by decide) hR.1) (Nat.le_trans (by decide) hR.2) dX8_init_73 (fun Z_7 f_7 q_73 H hle_7 hkp_7 hin_7 hA_7 hz_7 hN => ?_)
  have hle7 := hle6.tr hle_7
  have hkp7 : tq_k Z [] f f_7 := hkp6.trn hle6 (tq_k.eqv (wr := []) hkp_7) (by decide)
  have z_h1__Z_7 := hle_7 _ _ z_h1__Z_6
  have p_11__Z_7 := hle_7 _ _ p_11__Z_6
  have hz_1__Z_7 := hle_7 _ _ hz_1__Z_6
  have hz_2__Z_7 := hle_7 _ _ hz_2__Z_6
  have hz_3__Z_7 := hle_7 _ _ hz_3__Z_6
  have hz_4__Z_7 := hle_7 _ _ hz_4__Z_6
  have hz_5__Z_7 := hle_7 _ _ hz_5__Z_6
  have hz_6__Z_7 := hle_7 _ _ hz_6
  refine nq_put 0 tyX8 hC hN rfl rfl inq_8 tyX8_ok nmX8 8 (by decide) qf_RX8_41 rfl rfl rfl (Nat.le_of_ble_eq_true rfl) (Ys := [(h0, .inr (8, [.ref h1, .ref t_11, .ref q_20, .ref q_28, .ref q_37, .ref q_46, .ref q_55, .ref q_64, .ref q_73, .null, .null, .null, .null]))]) rfl dX8_init_75 (fun H locs hN => ?_)
  refine lv_aload_n hx hb dX8_init_78 rfl (lv_at hl 0 rfl) ?_
  refine lv_sipush (v := 384) hx hb dX8_init_79 (by decide) ?_
  refine nq_newa (k := 1) (n := 384) (t0 := 1) (ty := .int) (atype := .int) hC hN rfl rfl (fun _ _ h9 => h9) rfl qw_int trivial (by decide) (by decide) (by decide) (Nat.le_trans (by decide) hR.1) (Nat.le_trans (by decide) hR.2) dX8_init_82 (fun Z_8 f_8 q_82 H hle_8 hkp_8 hin_8 hA_8 hz_8 hN => ?_)
  have hle8 := hle7.tr hle_8
  have hkp8 : tq_k Z [] f f_8 := hkp7.trn hle7 (tq_k.eqv (wr := []) hkp_8) (by decide)
  have z_h1__Z_8 := hle_8 _ _ z_h1__Z_7
  have p_11__Z_8 := hle_8 _ _ p_11__Z_7
  have hz_1__Z_8 := hle_8 _ _ hz_1__Z_7
  have hz_2__Z_8 := hle_8 _ _ hz_2__Z_7
  have hz_3__Z_8 := hle_8 _ _ hz_3__Z_7
  have hz_4__Z_8 := hle_8 _ _ hz_4__Z_7
  have hz_5__Z_8 := hle_8 _ _ hz_5__Z_7
  have hz_6__Z_8 := hle_8 _ _ hz_6__Z_7
  have hz_7__Z_8 := hle_8 _ _ hz_7
  refine nq_put 0 tyX8 hC hN rfl rfl inq_8 tyX8_ok nmX8 9 (by decide) qf_RX8_44 rfl rfl rfl (Nat.le_of_ble_eq_true rfl) (Ys := [(h0, .inr (8, [.ref h1, .ref t_11, .ref q_20, .ref q_28, .ref q_37, .ref q_46, .ref q_55, .ref q_64, .ref q_73, .ref q_82, .null, .null, .null]))]) rfl dX8_init_84 (fun H locs hN => ?_)
  refine lv_aload_n hx hb dX8_init_87 rfl (lv_at hl 0 rfl) ?_
  refine lv_bipush (v := 64) hx hb dX8_init_88 (by decide) ?_
  refine nq_newa (k := 1) (n := 64) (t0 := 1) (ty := .int) (atype := .int) hC hN rfl rfl (fun _ _ h9 => h9) rfl qw_int trivial (by decide) (by decide) (by decide) (Nat.le_trans (by decide) hR.1) (Nat.le_trans (by decide) hR.2) dX8_init_90 (fun Z_9 f_9 q_90 H hle_9 hkp_9 hin_9 hA_9 hz_9 hN => ?_)
  have hle9 := hle8.tr hle_9
  have hkp9 : tq_k Z [] f f_9 := hkp8.trn hle8 (tq_k.eqv (wr := []) hkp_9) (by decide)
  have z_h1__Z_9 := hle_9 _ _ z_h1__Z_8
  have p_11__Z_9 := hle_9 _ _ p_11__Z_8
  have hz_1__Z_9 := hle_9 _ _ hz_1__Z_8
  have hz_2__Z_9 := hle_9 _ _ hz_2__Z_8
  have hz_3__Z_9 := hle_9 _ _ hz_3__Z_8
  have hz_4__Z_9 := hle_9 _ _ hz_4__Z_8
  have hz_5__Z_9 := hle_9 _ _ hz_5__Z_8
  have hz_6__Z_9 := hle_9 _ _ hz_6__Z_8
  have hz_7__Z_9 := hle_9 _ _ hz_7__Z_8
  have hz_8__Z_9 := hle_9 _ _ hz_8
  refine nq_putF 0 tyX8 hC hN rfl rfl inq_8 tyX8_ok nmX8 10 (by decide) qf_RX8_47 rfl rfl rfl rfl (Nat.le_of_ble_eq_true rfl) (Ys := [(h0, .inr (8, [.ref h1, .ref t_11, .ref q_20, .ref q_28, .ref q_37, .ref q_46, .ref q_55, .ref q_64, .ref q_73, .ref q_82, .ref q_90, .null, .null]))]) rfl dX8_init_92 (fun H locs hN => ?_)
  refine lv_aload_n hx hb dX8_init_95 rfl (lv_at hl 0 rfl) ?_
  refine lv_bipush (v := 64) hx hb dX8_init_96 (by decide) ?_
  refine nq_newa (k := 1) (n := 64) (t0 := 1) (ty := .int) (atype := .int) hC hN rfl rfl (fun _ _ h9 => h9) rfl qw_int trivial (by decide) (by decide) (by decide) (Nat.le_trans (by decide) hR.1) (Nat.le_trans (by decide) hR.2) dX8_init_98 (fun Z_10 f_10 q_98 H hle_10 hkp_10 hin_10 hA_10 hz_10 hN => ?_)
  have hle10 := hle9.tr hle_10
  have hkp10 : tq_k Z [] f f_10 := hkp9.trn hle9 (tq_k.eqv (wr := []) hkp_10) (by decide)
  have z_h1__Z_10 := hle_10 _ _ z_h1__Z_9
  have p_11__Z_10 := hle_10 _ _ p_11__Z_9
  have hz_1__Z_10 := hle_10 _ _ hz_1__Z_9
  have hz_2__Z_10 := hle_10 _ _ hz_2__Z_9
  have hz_3__Z_10 := hle_10 _ _ hz_3__Z_9
  have hz_4__Z_10 := hle_10 _ _ hz_4__Z_9
  have hz_5__Z_10 := hle_10 _ _ hz_5__Z_9
  have hz_6__Z_10 := hle_10 _ _ hz_6__Z_9
  have hz_7__Z_10 := hle_10 _ _ hz_7__Z_9
  have hz_8__Z_10 := hle_10 _ _ hz_8__Z_9
  have hz_9__Z_10 := hle_10 _ _ hz_9
  refine nq_putF 0 tyX8 hC hN rfl rfl inq_8 tyX8_ok nmX8 11 (by decide) qf_RX8_50 rfl rfl rfl rfl (Nat.le_of_ble_eq_true rfl) (Ys := [(h0, .inr (8, [.ref h1, .ref t_11, .ref q_20, .ref q_28, .ref q_37, .ref q_46, .ref q_55, .ref q_64, .ref q_73, .ref q_82, .ref q_90, .ref q_98, .null]))]) rfl dX8_init_100 (fun H locs hN => ?_)
  refine lv_aload_n hx hb dX8_init_103 rfl (lv_at hl 0 rfl) ?_
  refine lv_bipush (v := 64) hx hb dX8_init_104 (by decide) ?_
  refine nq_newa (k := 1) (n := 64) (t0 := 1) (ty := .int) (atype := .int) hC hN rfl rfl (fun _ _ h9 => h9) rfl qw_int trivial (by decide) (by decide) (by decide) (Nat.le_trans (by decide) hR.1) (Nat.le_trans (by decide) hR.2) dX8_init_106 (fun Z_11 f_11 q_106 H hle_11 hkp_11 hin_11 hA_11 hz_11 hN => ?_)
  have hle11 := hle10.tr hle_11
  have hkp11 : tq_k Z [] f f_11 := hkp10.trn hle10 (tq_k.eqv (wr := []) hkp_11) (by decide)
  have z_h1__Z_11 := hle_11 _ _ z_h1__Z_10
  have p_11__Z_11 := hle_11 _ _ p_11__Z_10
  have hz_1__Z_11 := hle_11 _ _ hz_1__Z_10
  have hz_2__Z_11 := hle_11 _ _ hz_2__Z_10
  have hz_3__Z_11 := hle_11 _ _ hz_3__Z_10
  have hz_4__Z_11 := hle_11 _ _ hz_4__Z_10
  have hz_5__Z_11 := hle_11 _ _ hz_5__Z_10
  have hz_6__Z_11 := hle_11 _ _ hz_6__Z_10
  have hz_7__Z_11 := hle_11 _ _ hz_7__Z_10
  have hz_8__Z_11 := hle_11 _ _ hz_8__Z_10
  have hz_9__Z_11 := hle_11 _ _ hz_9__Z_10
  have hz_10__Z_11 := hle_11 _ _ hz_10
  refine nq_putF 0 tyX8 hC hN rfl rfl inq_8 tyX8_ok nmX8 12 (by decide) qf_RX8_53 rfl rfl rfl rfl (Nat.le_of_ble_eq_true rfl) (Ys := [(h0, .inr (8, [.ref h1, .ref t_11, .ref q_20, .ref q_28, .ref q_37, .ref q_46, .ref q_55, .ref q_64, .ref q_73, .ref q_82, .ref q_90, .ref q_98, .ref q_106]))]) rfl dX8_init_108 (fun H locs hN => ?_)
  obtain ⟨hq9, hle9, hz9, hN⟩ := nq_type hN (fun hle9 k t ht => by
    match k, ht with
    | 0, ht => cases ht; exact ⟨_, rfl, ⟨_, rfl, hle9 _ _ z_h1__Z_11⟩⟩
    | 1, ht => cases ht; exact ⟨_, rfl, ⟨_, rfl, hle9 _ _ p_11__Z_11⟩⟩
    | 2, ht => cases ht; exact ⟨_, rfl, ⟨_, rfl, hle9 _ _ hz_1__Z_11⟩⟩
    | 3, ht => cases ht; exact ⟨_, rfl, ⟨_, rfl, hle9 _ _ hz_2__Z_11⟩⟩
    | 4, ht => cases ht; exact ⟨_, rfl, ⟨_, rfl, hle9 _ _ hz_3__Z_11⟩⟩
    | 5, ht => cases ht; exact ⟨_, rfl, ⟨_, rfl, hle9 _ _ hz_4__Z_11⟩⟩
    | 6, ht => cases ht; exact ⟨_, rfl, ⟨_, rfl, hle9 _ _ hz_5__Z_11⟩⟩
    | 7, ht => cases ht; exact ⟨_, rfl, ⟨_, rfl, hle9 _ _ hz_6__Z_11⟩⟩
    | 8, ht => cases ht; exact ⟨_, rfl, ⟨_, rfl, hle9 _ _ hz_7__Z_11⟩⟩
    | 9, ht => cases ht; exact ⟨_, rfl, ⟨_, rfl, hle9 _ _ hz_8__Z_11⟩⟩
    | 10, ht => cases ht; exact ⟨_, rfl, ⟨_, rfl, hle9 _ _ hz_9__Z_11⟩⟩
    | 11, ht => cases ht; exact ⟨_, rfl, ⟨_, rfl, hle9 _ _ hz_10__Z_11⟩⟩
    | 12, ht => cases ht; exact ⟨_, rfl, ⟨_, rfl, hle9 _ _ hz_11⟩⟩
    | k + 13, ht => exact absurd ht (by simp [tq_F, tq_L]))
  have hkt0 : tq_k Z [] f (va_up f_11 h0 (.inr (8, [.ref h1, .ref t_11, .ref q_20, .ref q_28, .ref q_37, .ref q_46, .ref q_55, .ref q_64, .ref q_73, .ref q_82, .ref q_90, .ref q_98, .ref q_106]))) := hkp11.trn hle11 (tq_k.eqv (wr := []) (tq_upk hq9)) (by decide)
  exact hret _ _ _ _ _ _ _ _ (by decide) (by decide) (hle11.tr hle9) hkt0 hz9 hN trivial dX8_init_111
set_option maxHeartbeats 4000000 in
set_option maxRecDepth 100000 in
theorem c_X1_init (l : Launch) (X : tq_X) (Z : tq_Z) (f : Nat → va_E) (h0 sz : Nat)  : tq_Mn l X Z f [] h0 sz yX1_init cX1_init 2 2 83 1517 1 [.null, .int 0, .int 0, .int 0] [] (fun _ _ => True) := by
  refine tq_startn (by decide) rfl (Nat.le_of_ble_eq_true rfl) (fun p e R s m args below meth c Q hC hR hV hret hN ls hl => ?_)
  have hC : tq_Cn p R s m args meth c X (tq_An Z h0 sz) RX1 cX1_init 2 2 := hC
  have hx := hC.1.1
  have hb := hC.1.2.1
  have hl : lv_has ls 2 [(0, .ref h0)] := hl
  have hle0 : tq_le Z Z := tq_le.rf
  have hkp0 : tq_k Z [] f f := tq_k.rf
  refine lv_aload_n hx hb dX1_init_0 rfl (lv_at hl 0 rfl) ?_
  refine nq_obj hC ql_RX1_3 hl.1 rfl (by decide) dX1_init_1 ?_
  refine lv_aload_n hx hb dX1_init_4 rfl (lv_at hl 0 rfl) ?_
  refine lv_bipush (v := 41) hx hb dX1_init_5 (by decide) ?_
  refine nq_newq (n := 41) hC hV.2 hN qk_RX1_9 (by decide) (by decide) (by decide) (Nat.le_trans (by decide) hR.1) (Nat.le_trans (by decide) hR.2) dX1_init_7 (fun q_7 H hN => ?_)
  refine nq_putF 0 tyX1 hC hN rfl rfl inq_1 tyX1_ok nmX1 0 (by decide) qf_RX1_11 rfl rfl rfl rfl (Nat.le_of_ble_eq_true rfl) (Ys := [(h0, .inr (1, [.ref q_7, .int 0, .int 0, .int 0])), (q_7, .inl (X.2.1 (4 + 0), 41, .inr (.inr (.inr (.inr (fun _ => none))))))]) rfl dX1_init_10 (fun H locs hN => ?_)
  have K_15 : ∀ (n : Nat) (i : Nat) (Z1 : tq_Z) (f1 : Nat → va_E) (g : Nat → Option Nat) (H : Heap) (locs : List Loc) (ls : Array Slot), i ≤ 41 → 41 - i < n → tq_le Z Z1 → tq_k Z [] f f1 → (∀ j, j < i → ∃ b, g j = some b ∧ tq_z Z1 b (.inl 7)) → tq_N X Z1 (tq_An Z h0 sz) s.heap [(h0, .inr (1, [.ref q_7, .int 0, .int 0, .int 0])), (q_7, .inl (X.2.1 (4 + 0), 41, .inr (.inr (.inr (.inr g)))))] f1 H locs → lv_has ls 2 [(1, .int (nI i)), (0, .ref h0)] → W p l e R s m args below meth c H locs (1 + 2 * i) (41 + 36 * i) Q (F0 m 15 ls []) := by
    intro n
    induction n with
    | zero => intro i Z1 f1 g H locs ls _ h9; exact absurd h9 (Nat.not_lt_zero _)
    | succ n ih =>
      intro i Z1 f1 g H locs ls hi hn hleK hkK hg hN hl 
      refine lv_iload_n hx hb dX1_init_15 rfl (lv_at hl 0 rfl) ?_
      refine lv_bipush (v := 41) hx hb dX1_init_16 (by decide) ?_
      refine lv_icmp_ge (tgt := 40) hx hb dX1_init_18 (by decide) (fun c9 => ?_) (fun c9 => ?_)
      · have hi9 : i = 41 := Nat.le_antisymm hi (Nat.le_of_not_lt (fun q9 => absurd c9 (nI_ge (b := 41) q9 (by decide))))
        subst hi9
        obtain ⟨hle_1, hkp_1, hz_1, hN⟩ := nq_typeR (Xs := [(h0, .inr (1, [.ref q_7, .int 0, .int 0, .int 0]))]) (k := 0) hN hg
        have hle1 := (hle0.tr hleK).tr hle_1
        have hkp1 : tq_k Z [] f _ := hkK.trn (hle0.tr hleK) (tq_k.eqv (wr := []) hkp_1) (by decide)
        obtain ⟨hq9, hle9, hz9, hN⟩ := nq_type hN (fun hle9 k t ht => by
          match k, ht with
          | 0, ht => cases ht; exact ⟨_, rfl, ⟨_, rfl, hle9 _ _ hz_1⟩⟩
          | 1, ht => cases ht; exact ⟨_, rfl, ⟨_, rfl, trivial⟩⟩
          | 2, ht => cases ht; exact ⟨_, rfl, ⟨_, rfl, trivial⟩⟩
          | 3, ht => cases ht; exact ⟨_, rfl, ⟨_, rfl, trivial⟩⟩
          | k + 4, ht => exact absurd ht (by simp [tq_F, tq_L]))
        have hkt0 : tq_k Z [] f (va_up _ h0 (.inr (1, [.ref q_7, .int 0, .int 0, .int 0]))) := hkp1.trn hle1 (tq_k.eqv (wr := []) (tq_upk hq9)) (by decide)
        exact hret _ _ _ _ _ _ _ _ (by decide) (by decide) (hle1.tr hle9) hkt0 hz9 hN trivial dX1_init_40
      · have hlt : i < 41 := Nat.lt_of_not_le (fun q9 => c9 (nI_le (a := 41) q9 (by omega)))
        refine lv_aload_n hx hb dX1_init_21 rfl (lv_at hl 1 rfl) ?_
        refine nq_get 0 hC hN rfl rfl inq_1 0 (by decide) qf_RX1_11 rfl dX1_init_22 ?_
        refine lv_iload_n hx hb dX1_init_25 rfl (lv_at hl 0 rfl) ?_
        refine nq_new (ci := 7) (fs := [.null]) tyX7 hC hN rfl inq_7 tyX7_ok qk_RX1_9 qn_7 qi_7 (fun j hj => by rcases (show j = 0 by omega) with rfl; rfl) (Nat.le_trans (by omega) hR.1) (Nat.le_trans (by omega) hR.2) dX1_init_26 (fun q9 H hN => ?_)
        refine lv_dup hx hb dX1_init_29 rfl ?_
        refine nq_callI (Xs := [(h0, .inr (1, [.ref q_7, .int 0, .int 0, .int 0])), (q_7, .inl (X.2.1 (4 + 0), 41, .inr (.inr (.inr (.inr g)))))]) (As := []) (rest := [.ref q9, .int (nI i), .ref q_7]) hC hV hN (c_X7_init l X Z1 f1 q9 _) ki_X7_init rfl (by decide) (by decide +kernel) ql_RX1_15 rfl (by decide) hl.1 rfl (Nat.le_of_ble_eq_true rfl) ⟨Nat.le_trans (by omega) hR.1, Nat.le_trans (by omega) hR.2⟩ dX1_init_30 (fun Z2 f2 H locs hle2 hk2 hz2 _ hN => ?_)
        refine nq_aast (Ys := [(h0, .inr (1, [.ref q_7, .int 0, .int 0, .int 0])), (q_7, .inl (X.2.1 (4 + 0), 41, .inr (.inr (.inr (.inr (va_up g i (some q9)))))))]) 1 hC hN rfl hz2 (vp_in_nI hlt (by omega)) (by rw [nI_clamp (by omega)]; rfl) dX1_init_33 (fun H locs hN => ?_)
        refine lv_iinc (v := nI (i + 1)) (lv' := [(1, .int (nI (i + 1))), (0, .ref h0)]) hx hb dX1_init_34 hl (k := 0) rfl (nI_1 i) (by decide) rfl (fun ls hl => ?_)
        refine lv_goto (tgt := 15) hx hb dX1_init_37 (by decide) ?_
        refine W.cs (by omega) (by omega) (ih (i + 1) Z2 f2 _ _ _ ls (by omega) (by omega) (hleK.tr hle2) (hkK.trn (hle0.tr hleK) hk2 (by decide)) (tq_filled hg hle2 hz2) hN hl )
  refine lv_iconst (v := 0) hx hb dX1_init_13 (by decide) ?_
  refine lv_istore_n (lv' := [(1, .int (nI 0)), (0, .ref h0)]) hx hb dX1_init_14 rfl hl (by decide) rfl (fun ls hl => ?_)
  exact K_15 42 0 _ _ _ _ _ ls (by decide) (by decide) tq_le.rf hkp0 (fun j hj => absurd hj (Nat.not_lt_zero _)) hN hl 
