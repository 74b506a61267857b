set_option maxHeartbeats 4000000 in
set_option maxRecDepth 100000 in
theorem c_X2_forgetPath {l : Launch} {X : ez_X} {B : Nat} {σ : ez_H} {h0 : Nat} {z : Unit × ez_H} (h : z_X2_forgetPath σ h0 = some z) : ez_M l X B σ yX2_forgetPath cX2_forgetPath 1 (none) 0 [.ref (B + h0)] (none) z.2 := by
  refine ez_startv (z := z) (by decide) (Nat.le_of_ble_eq_true rfl) (fun p e R s m args below meth c Q hC hret hS ls hl => ?_)
  have hC : ez_C p R s m args c X B RX2 cX2_forgetPath 1 0 := hC
  have hx := hC.1.1
  have hb := hC.1.2.1
  have hown := hC.1.2.2.2.1
  have hts := hC.1.2.2.2.2
  have hl : lv_has ls 1 [(0, .ref (B + h0))] := hl
  obtain ⟨σ0, eσ⟩ : ∃ σ0 : ez_H, σ0 = σ := ⟨_, rfl⟩
  rw [← eσ] at hret
  have hS : ez_S X B s.heap σ0.length σ s.heap [] := eσ ▸ hS
  obtain ⟨-, h⟩ := ez_in h
  refine lv_aload_n hx hb dX2_forgetPath_0 rfl (lv_at hl 0 rfl) ?_
  refine lv_iconst (v := 0) hx hb dX2_forgetPath_1 (by decide) ?_
  refine ep_RX2_29 hC hS h dX2_forgetPath_2 (fun σ H locs hS h => ?_)
  exact hret _ _ _ _ _ _ (Option.some.inj h) hS dX2_forgetPath_5
set_option maxHeartbeats 4000000 in
set_option maxRecDepth 100000 in
theorem c_X11_plan {l : Launch} {X : ez_X} {B : Nat} {σ : ez_H} {h0 : Nat} {z : Int32 × ez_H} (h : z_X11_plan σ h0 = some z) : ez_M l X B σ yX11_plan cX11_plan 1 (some .int) 55 [.ref (B + h0)] (some (.int z.1)) z.2 := by
  refine ez_starti (z := z) (by decide) (Nat.le_of_ble_eq_true rfl) (fun p e R s m args below meth c Q hC hret hS ls hl => ?_)
  have hC : ez_C p R s m args c X B RX11 cX11_plan 1 55 := hC
  have hx := hC.1.1
  have hb := hC.1.2.1
  have hown := hC.1.2.2.2.1
  have hts := hC.1.2.2.2.2
  have hl : lv_has ls 1 [(0, .ref (B + h0))] := hl
  obtain ⟨σ0, eσ⟩ : ∃ σ0 : ez_H, σ0 = σ := ⟨_, rfl⟩
  rw [← eσ] at hret
  have hS : ez_S X B s.heap σ0.length σ s.heap [] := eσ ▸ hS
  obtain ⟨-, h⟩ := ez_in h
  refine lv_aload_n hx hb dX11_plan_0 rfl (lv_at hl 0 rfl) ?_
  refine eg_RX11_22 hC hS h dX11_plan_1 (fun t_1 h => ?_)
  refine lv_aload_n hx hb dX11_plan_4 rfl (lv_at hl 0 rfl) ?_
  refine eg_RX11_13 hC hS h dX11_plan_5 (fun t_5 h => ?_)
  refine ez_cVi (As := [.int t_5]) (rest := []) h (fun _ q => c_X4_readAll q) hC k_X4_readAll ql_RX11_105 rfl (by decide) hS (fun _ q => ez_rcv q) rfl hl.1 rfl (Nat.le_of_ble_eq_true rfl) ⟨Nat.zero_le _, Nat.zero_le _⟩ dX11_plan_8 (fun t_8 σ H locs hS h => ?_)
  refine lv_if_ne (tgt := 16) hx hb dX11_plan_11 (by decide) (fun c_11 => ?_) (fun c_11 => ?_)
  · replace h := ez_ifn h c_11
    refine lv_aload_n hx hb dX11_plan_16 rfl (lv_at hl 0 rfl) ?_
    refine eg_RX11_29 hC hS h dX11_plan_17 (fun t_17 h => ?_)
    refine lv_aload_n hx hb dX11_plan_20 rfl (lv_at hl 0 rfl) ?_
    refine eg_RX11_22 hC hS h dX11_plan_21 (fun t_21 h => ?_)
    refine eg_RX11_109 hC hS h dX11_plan_24 (fun t_24 h => ?_)
    refine ez_cVv (As := [.ref (B + t_24)]) (rest := []) h (fun _ q => c_X3_copyFrom q) hC k_X3_copyFrom ql_RX11_112 rfl (by decide) hS (fun _ q => ez_rcv q) rfl hl.1 rfl (Nat.le_of_ble_eq_true rfl) ⟨Nat.zero_le _, Nat.zero_le _⟩ dX11_plan_27 (fun _ σ H locs hS h => ?_)
    refine lv_aload_n hx hb dX11_plan_30 rfl (lv_at hl 0 rfl) ?_
    refine eg_RX11_41 hC hS h dX11_plan_31 (fun t_31 h => ?_)
    refine lv_aload_n hx hb dX11_plan_34 rfl (lv_at hl 0 rfl) ?_
    refine eg_RX11_29 hC hS h dX11_plan_35 (fun t_35 h => ?_)
    refine eg_RX11_115 hC hS h dX11_plan_38 (fun t_38 h => ?_)
    refine ez_cVv (As := [.ref (B + t_38)]) (rest := []) h (fun _ q => c_X7_copyFrom q) hC k_X7_copyFrom ql_RX11_118 rfl (by decide) hS (fun _ q => ez_rcv q) rfl hl.1 rfl (Nat.le_of_ble_eq_true rfl) ⟨Nat.zero_le _, Nat.zero_le _⟩ dX11_plan_41 (fun _ σ H locs hS h => ?_)
    refine lv_aload_n hx hb dX11_plan_44 rfl (lv_at hl 0 rfl) ?_
    refine eg_RX11_51 hC hS h dX11_plan_45 (fun t_45 h => ?_)
    refine ez_cVv (As := []) (rest := []) h (fun _ q => c_X1_forget q) hC k_X1_forget ql_RX11_121 rfl (by decide) hS (fun _ q => ez_rcv q) rfl hl.1 rfl (Nat.le_of_ble_eq_true rfl) ⟨Nat.zero_le _, Nat.zero_le _⟩ dX11_plan_48 (fun _ σ H locs hS h => ?_)
    refine lv_aload_n hx hb dX11_plan_51 rfl (lv_at hl 0 rfl) ?_
    refine eg_RX11_93 hC hS h dX11_plan_52 (fun t_52 h => ?_)
    refine ez_cVv (As := []) (rest := []) h (fun _ q => c_X10_forget q) hC k_X10_forget ql_RX11_124 rfl (by decide) hS (fun _ q => ez_rcv q) rfl hl.1 rfl (Nat.le_of_ble_eq_true rfl) ⟨Nat.zero_le _, Nat.zero_le _⟩ dX11_plan_55 (fun _ σ H locs hS h => ?_)
    refine lv_aload_n hx hb dX11_plan_58 rfl (lv_at hl 0 rfl) ?_
    refine eg_RX11_79 hC hS h dX11_plan_59 (fun t_59 h => ?_)
    refine ez_cVv (As := []) (rest := []) h (fun _ q => c_X2_forgetPath q) hC k_X2_forgetPath ql_RX11_125 rfl (by decide) hS (fun _ q => ez_rcv q) rfl hl.1 rfl (Nat.le_of_ble_eq_true rfl) ⟨Nat.zero_le _, Nat.zero_le _⟩ dX11_plan_62 (fun _ σ H locs hS h => ?_)
    refine lv_aload_n hx hb dX11_plan_65 rfl (lv_at hl 0 rfl) ?_
    refine lv_iconst (v := 0) hx hb dX11_plan_66 (by decide) ?_
    refine ep_RX11_59 hC hS h dX11_plan_67 (fun σ H locs hS h => ?_)
    refine lv_aload_n hx hb dX11_plan_70 rfl (lv_at hl 0 rfl) ?_
    refine lv_iconst (v := 0) hx hb dX11_plan_71 (by decide) ?_
    refine ep_RX11_13 hC hS h dX11_plan_72 (fun σ H locs hS h => ?_)
    refine lv_aload_n hx hb dX11_plan_75 rfl (lv_at hl 0 rfl) ?_
    refine eg_RX11_29 hC hS h dX11_plan_76 (fun t_76 h => ?_)
    refine eg_RX11_128 hC hS h dX11_plan_79 (fun t_79 h => ?_)
    exact hret _ _ _ _ _ _ (Option.some.inj h) rfl hS dX11_plan_82
  · replace h := ez_ifp h c_11
    refine lv_iconst (v := -1) hx hb dX11_plan_14 (by decide) ?_
    exact hret _ _ _ _ _ _ (Option.some.inj h) rfl hS dX11_plan_15
set_option maxHeartbeats 4000000 in
set_option maxRecDepth 100000 in
theorem c_X6_placeOf {l : Launch} {X : ez_X} {B : Nat} {σ : ez_H} {h0 : Nat} {x1 : Int32} {z : Int32 × ez_H} (h : z_X6_placeOf σ h0 x1 = some z) : ez_M l X B σ yX6_placeOf cX6_placeOf 7 (some .int) 3 [.ref (B + h0), .int x1] (some (.int z.1)) z.2 := by
  refine ez_starti (z := z) (by decide) (Nat.le_of_ble_eq_true rfl) (fun p e R s m args below meth c Q hC hret hS ls hl => ?_)
  have hC : ez_C p R s m args c X B RX6 cX6_placeOf 7 3 := hC
  have hx := hC.1.1
  have hb := hC.1.2.1
  have hown := hC.1.2.2.2.1
  have hts := hC.1.2.2.2.2
  have hl : lv_has ls 7 [(0, .ref (B + h0)), (1, .int x1)] := hl
  obtain ⟨σ0, eσ⟩ : ∃ σ0 : ez_H, σ0 = σ := ⟨_, rfl⟩
  rw [← eσ] at hret
  have hS : ez_S X B s.heap σ0.length σ s.heap [] := eσ ▸ hS
  obtain ⟨-, h⟩ := ez_in h
  have K_41 : ∀ (k_20 : ez_H → Nat → Int32 → Int32 → Int32 → Int32 → Option (Int32 × ez_H)) (hk_20 : ∀ (σ : ez_H) (h0 : Nat) (x1 : Int32) (x2 : Int32) (x3 : Int32) (x4 : Int32) (H : Heap) (locs : List Loc) (ls : Array Slot), ez_S X B s.heap (σ0.length) σ H locs → k_20 σ h0 x1 x2 x3 x4 = some z → lv_has ls 7 [(0, .ref (B + h0)), (1, .int x1), (2, .int x2), (3, .int x3), (4, .int x4)] → W p l e R s m args below meth c H locs 0 0 Q (F0 m 20 ls [])) (k_41 : ez_H → Nat → Int32 → Int32 → Int32 → Int32 → Int32 → Option (Int32 × ez_H)) (hk_41 : ∀ (σ : ez_H) (h0 : Nat) (x1 : Int32) (x2 : Int32) (x4 : Int32) (x5 : Int32) (x6 : Int32) (H : Heap) (locs : List Loc) (ls : Array Slot), ez_S X B s.heap (σ0.length) σ H locs → k_41 σ h0 x1 x2 x4 x5 x6 = some z → lv_has ls 7 [(0, .ref (B + h0)), (1, .int x1), (2, .int x2), (4, .int x4), (5, .int x5), (6, .int x6)] → W p l e R s m args below meth c H locs 0 0 Q (F0 m 41 ls [])), ∀ (σ : ez_H) (h0 : Nat) (x1 : Int32) (x2 : Int32) (x4 : Int32) (x5 : Int32) (x6 : Int32) (H : Heap) (locs : List Loc) (ls : Array Slot), ez_S X B s.heap (σ0.length) σ H locs → z_X6_placeOf_41 k_20 k_41 σ h0 x1 x2 x4 x5 x6 = some z → lv_has ls 7 [(0, .ref (B + h0)), (1, .int x1), (2, .int x2), (4, .int x4), (5, .int x5), (6, .int x6)] → W p l e R s m args below meth c H locs 0 0 Q (F0 m 41 ls []) := by
    intro k_20 hk_20 k_41 hk_41 σ h0 x1 x2 x4 x5 x6 H locs ls hS h hl
    refine lv_iload hx hb dX6_placeOf_41 (lv_at hl 5 rfl) ?_
    refine lv_iload hx hb dX6_placeOf_43 (lv_at hl 4 rfl) ?_
    refine lv_icmp_ge (tgt := 65) hx hb dX6_placeOf_45 (by decide) (fun c_45 => ?_) (fun c_45 => ?_)
    · replace h := ez_ifp h c_45
      refine lv_aload_n hx hb dX6_placeOf_65 rfl (lv_at hl 0 rfl) ?_
      refine lv_iload hx hb dX6_placeOf_66 (lv_at hl 4 rfl) ?_
      refine ez_cVpi (As := [.int x5]) (rest := []) h (fun _ q => c_X6_lowest q) hC k_X6_lowest ql_RX6_66 rfl (by decide) hS (fun _ q => ez_rcv q) rfl hl.1 rfl (Nat.le_of_ble_eq_true rfl) ⟨Nat.zero_le _, Nat.zero_le _⟩ dX6_placeOf_68 (fun t_68 H locs hS h => ?_)
      refine lv_istore_n (lv' := [(3, .int t_68), (0, .ref (B + h0)), (1, .int x1), (2, .int x2), (4, .int x4), (5, .int x5), (6, .int x6)]) hx hb dX6_placeOf_71 rfl hl (by decide) rfl (fun ls hl => ?_)
      obtain ⟨t_72, e_72, h⟩ := ez_let_sp h
      refine lv_iinc (v := t_72) (lv' := [(4, .int t_72), (3, .int t_68), (0, .ref (B + h0)), (1, .int x1), (2, .int x2), (5, .int x5), (6, .int x6)]) hx hb dX6_placeOf_72 hl (k := 4) rfl (by rw [e_72]; rfl) (by decide) rfl (fun ls hl => ?_)
      refine lv_goto (tgt := 20) hx hb dX6_placeOf_75 (by decide) ?_
      exact hk_20 σ h0 x1 x2 t_68 t_72 _ _ _ hS h (lv_sub hl [2, 3, 4, 1, 0] rfl)
    · replace h := ez_ifn h c_45
      refine lv_iload_n hx hb dX6_placeOf_48 rfl (lv_at hl 2 rfl) ?_
      refine lv_aload_n hx hb dX6_placeOf_49 rfl (lv_at hl 0 rfl) ?_
      refine lv_iload hx hb dX6_placeOf_50 (lv_at hl 3 rfl) ?_
      refine lv_iload hx hb dX6_placeOf_52 (lv_at hl 5 rfl) ?_
      refine ez_cVpi (As := [.int x4, .int x6]) (rest := [.int x2]) h (fun _ q => c_X6_onwardAt q) hC k_X6_onwardAt ql_RX6_79 rfl (by decide) hS (fun _ q => ez_rcv q) rfl hl.1 rfl (Nat.le_of_ble_eq_true rfl) ⟨Nat.zero_le _, Nat.zero_le _⟩ dX6_placeOf_54 (fun t_54 H locs hS h => ?_)
      refine lv_iadd hx hb dX6_placeOf_57 ?_
      refine ez_top h (fun t_57 h => ?_)
      refine lv_istore_n (lv' := [(2, .int t_57), (0, .ref (B + h0)), (1, .int x1), (4, .int x4), (5, .int x5), (6, .int x6)]) hx hb dX6_placeOf_58 rfl hl (by decide) rfl (fun ls hl => ?_)
      obtain ⟨t_59, e_59, h⟩ := ez_let_sp h
      refine lv_iinc (v := t_59) (lv' := [(6, .int t_59), (2, .int t_57), (0, .ref (B + h0)), (1, .int x1), (4, .int x4), (5, .int x5)]) hx hb dX6_placeOf_59 hl (k := 5) rfl (by rw [e_59]; rfl) (by decide) rfl (fun ls hl => ?_)
      refine lv_goto (tgt := 41) hx hb dX6_placeOf_62 (by decide) ?_
      exact hk_41 σ h0 x1 t_57 x4 x5 t_59 _ _ _ hS h (lv_sub hl [2, 3, 1, 4, 5, 0] rfl)
  have E_41 : ∀ (k_20 : ez_H → Nat → Int32 → Int32 → Int32 → Int32 → Option (Int32 × ez_H)) (hk_20 : ∀ (σ : ez_H) (h0 : Nat) (x1 : Int32) (x2 : Int32) (x3 : Int32) (x4 : Int32) (H : Heap) (locs : List Loc) (ls : Array Slot), ez_S X B s.heap (σ0.length) σ H locs → k_20 σ h0 x1 x2 x3 x4 = some z → lv_has ls 7 [(0, .ref (B + h0)), (1, .int x1), (2, .int x2), (3, .int x3), (4, .int x4)] → W p l e R s m args below meth c H locs 0 0 Q (F0 m 20 ls [])), ∀ (σ : ez_H) (h0 : Nat) (x1 : Int32) (x2 : Int32) (x4 : Int32) (x5 : Int32) (x6 : Int32) (H : Heap) (locs : List Loc) (ls : Array Slot), ez_S X B s.heap (σ0.length) σ H locs → (ez_fix (fun _ _ _ _ _ _ _ => none) (z_X6_placeOf_41 k_20) ez_N) σ h0 x1 x2 x4 x5 x6 = some z → lv_has ls 7 [(0, .ref (B + h0)), (1, .int x1), (2, .int x2), (4, .int x4), (5, .int x5), (6, .int x6)] → W p l e R s m args below meth c H locs 0 0 Q (F0 m 41 ls []) := fun k_20 hk_20 => ez_fix_ind (fun k_41 : ez_H → Nat → Int32 → Int32 → Int32 → Int32 → Int32 → Option (Int32 × ez_H) => ∀ (σ : ez_H) (h0 : Nat) (x1 : Int32) (x2 : Int32) (x4 : Int32) (x5 : Int32) (x6 : Int32) (H : Heap) (locs : List Loc) (ls : Array Slot), ez_S X B s.heap (σ0.length) σ H locs → k_41 σ h0 x1 x2 x4 x5 x6 = some z → lv_has ls 7 [(0, .ref (B + h0)), (1, .int x1), (2, .int x2), (4, .int x4), (5, .int x5), (6, .int x6)] → W p l e R s m args below meth c H locs 0 0 Q (F0 m 41 ls [])) (fun _ _ _ _ _ _ _ _ _ _ _ h _ => by cases h) (fun k_41 hk_41 => K_41 k_20 hk_20 k_41 hk_41) ez_N
  have K_20 : ∀ (k_20 : ez_H → Nat → Int32 → Int32 → Int32 → Int32 → Option (Int32 × ez_H)) (hk_20 : ∀ (σ : ez_H) (h0 : Nat) (x1 : Int32) (x2 : Int32) (x3 : Int32) (x4 : Int32) (H : Heap) (locs : List Loc) (ls : Array Slot), ez_S X B s.heap (σ0.length) σ H locs → k_20 σ h0 x1 x2 x3 x4 = some z → lv_has ls 7 [(0, .ref (B + h0)), (1, .int x1), (2, .int x2), (3, .int x3), (4, .int x4)] → W p l e R s m args below meth c H locs 0 0 Q (F0 m 20 ls [])), ∀ (σ : ez_H) (h0 : Nat) (x1 : Int32) (x2 : Int32) (x3 : Int32) (x4 : Int32) (H : Heap) (locs : List Loc) (ls : Array Slot), ez_S X B s.heap (σ0.length) σ H locs → z_X6_placeOf_20 k_20 σ h0 x1 x2 x3 x4 = some z → lv_has ls 7 [(0, .ref (B + h0)), (1, .int x1), (2, .int x2), (3, .int x3), (4, .int x4)] → W p l e R s m args below meth c H locs 0 0 Q (F0 m 20 ls []) := by
    intro k_20 hk_20 σ h0 x1 x2 x3 x4 H locs ls hS h hl
    refine lv_iload hx hb dX6_placeOf_20 (lv_at hl 4 rfl) ?_
    refine lv_aload_n hx hb dX6_placeOf_22 rfl (lv_at hl 0 rfl) ?_
    refine eg_RX6_18 hC hS h dX6_placeOf_23 (fun t_23 h => ?_)
    refine lv_icmp_ge (tgt := 78) hx hb dX6_placeOf_26 (by decide) (fun c_26 => ?_) (fun c_26 => ?_)
    · replace h := ez_ifp h c_26
      refine lv_iload_n hx hb dX6_placeOf_78 rfl (lv_at hl 2 rfl) ?_
      exact hret _ _ _ _ _ _ (Option.some.inj h) rfl hS dX6_placeOf_79
    · replace h := ez_ifn h c_26
      refine lv_aload_n hx hb dX6_placeOf_29 rfl (lv_at hl 0 rfl) ?_
      refine lv_iload_n hx hb dX6_placeOf_30 rfl (lv_at hl 1 rfl) ?_
      refine lv_iload hx hb dX6_placeOf_31 (lv_at hl 4 rfl) ?_
      refine ez_cVpi (As := [.int x1, .int x4]) (rest := []) h (fun _ q => c_X6_depthAt q) hC k_X6_depthAt ql_RX6_41 rfl (by decide) hS (fun _ q => ez_rcv q) rfl hl.1 rfl (Nat.le_of_ble_eq_true rfl) ⟨Nat.zero_le _, Nat.zero_le _⟩ dX6_placeOf_33 (fun t_33 H locs hS h => ?_)
      refine lv_istore (lv' := [(5, .int t_33), (0, .ref (B + h0)), (1, .int x1), (2, .int x2), (3, .int x3), (4, .int x4)]) hx hb dX6_placeOf_36 hl (by decide) rfl (fun ls hl => ?_)
      refine lv_iload_n hx hb dX6_placeOf_38 rfl (lv_at hl 4 rfl) ?_
      refine lv_istore (lv' := [(6, .int x3), (5, .int t_33), (0, .ref (B + h0)), (1, .int x1), (2, .int x2), (3, .int x3), (4, .int x4)]) hx hb dX6_placeOf_39 hl (by decide) rfl (fun ls hl => ?_)
      exact E_41 k_20 hk_20 σ h0 x1 x2 x4 t_33 x3 _ _ _ hS h (lv_sub hl [2, 3, 4, 6, 1, 0] rfl)
  have E_20 : ∀ (σ : ez_H) (h0 : Nat) (x1 : Int32) (x2 : Int32) (x3 : Int32) (x4 : Int32) (H : Heap) (locs : List Loc) (ls : Array Slot), ez_S X B s.heap (σ0.length) σ H locs → (ez_fix (fun _ _ _ _ _ _ => none) (z_X6_placeOf_20) ez_N) σ h0 x1 x2 x3 x4 = some z → lv_has ls 7 [(0, .ref (B + h0)), (1, .int x1), (2, .int x2), (3, .int x3), (4, .int x4)] → W p l e R s m args below meth c H locs 0 0 Q (F0 m 20 ls []) := ez_fix_ind (fun k_20 : ez_H → Nat → Int32 → Int32 → Int32 → Int32 → Option (Int32 × ez_H) => ∀ (σ : ez_H) (h0 : Nat) (x1 : Int32) (x2 : Int32) (x3 : Int32) (x4 : Int32) (H : Heap) (locs : List Loc) (ls : Array Slot), ez_S X B s.heap (σ0.length) σ H locs → k_20 σ h0 x1 x2 x3 x4 = some z → lv_has ls 7 [(0, .ref (B + h0)), (1, .int x1), (2, .int x2), (3, .int x3), (4, .int x4)] → W p l e R s m args below meth c H locs 0 0 Q (F0 m 20 ls [])) (fun _ _ _ _ _ _ _ _ _ _ h _ => by cases h) (fun k_20 hk_20 => K_20 k_20 hk_20) ez_N
  refine lv_aload_n hx hb dX6_placeOf_0 rfl (lv_at hl 0 rfl) ?_
  refine lv_aload_n hx hb dX6_placeOf_1 rfl (lv_at hl 0 rfl) ?_
  refine ez_cVpi (As := []) (rest := [.ref (B + h0)]) h (fun _ q => c_X6_everything q) hC k_X6_everything ql_RX6_85 rfl (by decide) hS (fun _ q => ez_rcv q) rfl hl.1 rfl (Nat.le_of_ble_eq_true rfl) ⟨Nat.zero_le _, Nat.zero_le _⟩ dX6_placeOf_2 (fun t_2 H locs hS h => ?_)
  refine lv_aload_n hx hb dX6_placeOf_5 rfl (lv_at hl 0 rfl) ?_
  refine eg_RX6_25 hC hS h dX6_placeOf_6 (fun t_6 h => ?_)
  refine ez_cVi (As := [.int t_2, .int t_6]) (rest := []) h (fun _ q => c_X6_howMany q) hC k_X6_howMany ql_RX6_82 rfl (by decide) hS (fun _ q => ez_rcv q) rfl hl.1 rfl (Nat.le_of_ble_eq_true rfl) ⟨Nat.zero_le _, Nat.zero_le _⟩ dX6_placeOf_9 (fun t_9 σ H locs hS h => ?_)
  refine lv_pop hx hb dX6_placeOf_12 rfl ?_
  refine lv_iconst (v := 0) hx hb dX6_placeOf_13 (by decide) ?_
  refine lv_istore_n (lv' := [(2, .int 0), (0, .ref (B + h0)), (1, .int x1)]) hx hb dX6_placeOf_14 rfl hl (by decide) rfl (fun ls hl => ?_)
  refine lv_iconst (v := 0) hx hb dX6_placeOf_15 (by decide) ?_
  refine lv_istore_n (lv' := [(3, .int 0), (2, .int 0), (0, .ref (B + h0)), (1, .int x1)]) hx hb dX6_placeOf_16 rfl hl (by decide) rfl (fun ls hl => ?_)
  refine lv_iconst (v := 0) hx hb dX6_placeOf_17 (by decide) ?_
  refine lv_istore (lv' := [(4, .int 0), (3, .int 0), (2, .int 0), (0, .ref (B + h0)), (1, .int x1)]) hx hb dX6_placeOf_18 hl (by decide) rfl (fun ls hl => ?_)
  exact E_20  σ h0 x1 (0 : Int32) (0 : Int32) (0 : Int32) _ _ _ hS h (lv_sub hl [3, 4, 2, 1, 0] rfl)
set_option maxHeartbeats 4000000 in
set_option maxRecDepth 100000 in
theorem c_X11_rank {l : Launch} {X : ez_X} {B : Nat} {σ : ez_H} {h0 : Nat} {x1 : Int32} {z : Int32 × ez_H} (h : z_X11_rank σ h0 x1 = some z) : ez_M l X B σ yX11_rank cX11_rank 3 (some .int) 4 [.ref (B + h0), .int x1] (some (.int z.1)) z.2 := by
  refine ez_starti (z := z) (by decide) (Nat.le_of_ble_eq_true rfl) (fun p e R s m args below meth c Q hC hret hS ls hl => ?_)
  have hC : ez_C p R s m args c X B RX11 cX11_rank 3 4 := hC
  have hx := hC.1.1
  have hb := hC.1.2.1
  have hown := hC.1.2.2.2.1
  have hts := hC.1.2.2.2.2
  have hl : lv_has ls 3 [(0, .ref (B + h0)), (1, .int x1)] := hl
  obtain ⟨σ0, eσ⟩ : ∃ σ0 : ez_H, σ0 = σ := ⟨_, rfl⟩
  rw [← eσ] at hret
  have hS : ez_S X B s.heap σ0.length σ s.heap [] := eσ ▸ hS
  obtain ⟨-, h⟩ := ez_in h
  have K_25 : ∀ (σ : ez_H) (y0 : Int32) (H : Heap) (locs : List Loc) (ls : Array Slot), ez_S X B s.heap (σ0.length) σ H locs → z_X11_rank_25 σ y0 = some z → lv_has ls 3 [] → W p l e R s m args below meth c H locs 0 0 Q (F0 m 25 ls [.int y0]) := by
    intro σ y0 H locs ls hS h hl
    exact hret _ _ _ _ _ _ (Option.some.inj h) rfl hS dX11_rank_25
  refine lv_aload_n hx hb dX11_rank_0 rfl (lv_at hl 0 rfl) ?_
  refine eg_RX11_37 hC hS h dX11_rank_1 (fun t_1 h => ?_)
  refine lv_iload_n hx hb dX11_rank_4 rfl (lv_at hl 1 rfl) ?_
  refine ez_cVpi (As := [.int x1]) (rest := []) h (fun _ q => c_X6_bitsOf q) hC k_X6_bitsOf ql_RX11_212 rfl (by decide) hS (fun _ q => ez_rcv q) rfl hl.1 rfl (Nat.le_of_ble_eq_true rfl) ⟨Nat.zero_le _, Nat.zero_le _⟩ dX11_rank_5 (fun t_5 H locs hS h => ?_)
  refine lv_istore_n (lv' := [(2, .int t_5), (0, .ref (B + h0)), (1, .int x1)]) hx hb dX11_rank_8 rfl hl (by decide) rfl (fun ls hl => ?_)
  refine lv_iload_n hx hb dX11_rank_9 rfl (lv_at hl 0 rfl) ?_
  refine lv_if_ne (tgt := 17) hx hb dX11_rank_10 (by decide) (fun c_10 => ?_) (fun c_10 => ?_)
  · replace h := ez_ifn h c_10
    refine lv_aload_n hx hb dX11_rank_17 rfl (lv_at hl 1 rfl) ?_
    refine eg_RX11_37 hC hS h dX11_rank_18 (fun t_18 h => ?_)
    refine lv_iload_n hx hb dX11_rank_21 rfl (lv_at hl 0 rfl) ?_
    refine ez_cVi (As := [.int t_5]) (rest := []) h (fun _ q => c_X6_placeOf q) hC k_X6_placeOf ql_RX11_313 rfl (by decide) hS (fun _ q => ez_rcv q) rfl hl.1 rfl (Nat.le_of_ble_eq_true rfl) ⟨Nat.zero_le _, Nat.zero_le _⟩ dX11_rank_22 (fun t_22 σ H locs hS h => ?_)
    exact K_25  σ t_22 _ _ _ hS h (lv_sub hl [] rfl)
  · replace h := ez_ifp h c_10
    refine lv_iconst (v := -1) hx hb dX11_rank_13 (by decide) ?_
    refine lv_goto (tgt := 25) hx hb dX11_rank_14 (by decide) ?_
    exact K_25  σ (-1 : Int32) _ _ _ hS h (lv_sub hl [] rfl)
set_option maxHeartbeats 4000000 in
set_option maxRecDepth 100000 in
theorem c_X11_recut {l : Launch} {X : ez_X} {B : Nat} {σ : ez_H} {h0 : Nat} {x1 : Int32} {x2 : Int32} {z : Int32 × ez_H} (h : z_X11_recut σ h0 x1 x2 = some z) : ez_M l X B σ yX11_recut cX11_recut 5 (some .int) 4 [.ref (B + h0), .int x1, .int x2] (some (.int z.1)) z.2 := by
  refine ez_starti (z := z) (by decide) (Nat.le_of_ble_eq_true rfl) (fun p e R s m args below meth c Q hC hret hS ls hl => ?_)
  have hC : ez_C p R s m args c X B RX11 cX11_recut 5 4 := hC
  have hx := hC.1.1
  have hb := hC.1.2.1
  have hown := hC.1.2.2.2.1
  have hts := hC.1.2.2.2.2
  have hl : lv_has ls 5 [(0, .ref (B + h0)), (1, .int x1), (2, .int x2)] := hl
  obtain ⟨σ0, eσ⟩ : ∃ σ0 : ez_H, σ0 = σ := ⟨_, rfl⟩
  rw [← eσ] at hret
  have hS : ez_S X B s.heap σ0.length σ s.heap [] := eσ ▸ hS
  obtain ⟨-, h⟩ := ez_in h
  have K_24 : ∀ (σ : ez_H) (H : Heap) (locs : List Loc) (ls : Array Slot), ez_S X B s.heap (σ0.length) σ H locs → z_X11_recut_24 σ = some z → lv_has ls 5 [] → W p l e R s m args below meth c H locs 0 0 Q (F0 m 24 ls []) := by
    intro σ H locs ls hS h hl
    refine lv_iconst (v := -1) hx hb dX11_recut_24 (by decide) ?_
    exact hret _ _ _ _ _ _ (Option.some.inj h) rfl hS dX11_recut_25
  refine lv_aload_n hx hb dX11_recut_0 rfl (lv_at hl 0 rfl) ?_
  refine eg_RX11_37 hC hS h dX11_recut_1 (fun t_1 h => ?_)
  refine lv_iload_n hx hb dX11_recut_4 rfl (lv_at hl 2 rfl) ?_
  refine ez_cVpi (As := [.int x2]) (rest := []) h (fun _ q => c_X6_bitsOf q) hC k_X6_bitsOf ql_RX11_212 rfl (by decide) hS (fun _ q => ez_rcv q) rfl hl.1 rfl (Nat.le_of_ble_eq_true rfl) ⟨Nat.zero_le _, Nat.zero_le _⟩ dX11_recut_5 (fun t_5 H locs hS h => ?_)
  refine lv_istore_n (lv' := [(3, .int t_5), (0, .ref (B + h0)), (1, .int x1), (2, .int x2)]) hx hb dX11_recut_8 rfl hl (by decide) rfl (fun ls hl => ?_)
  refine lv_aload_n hx hb dX11_recut_9 rfl (lv_at hl 1 rfl) ?_
  refine eg_RX11_29 hC hS h dX11_recut_10 (fun t_10 h => ?_)
  refine lv_iload_n hx hb dX11_recut_13 rfl (lv_at hl 2 rfl) ?_
  refine ez_cVpi (As := [.int x1]) (rest := []) h (fun _ q => c_X3_hasKey q) hC k_X3_hasKey ql_RX11_137 rfl (by decide) hS (fun _ q => ez_rcv q) rfl hl.1 rfl (Nat.le_of_ble_eq_true rfl) ⟨Nat.zero_le _, Nat.zero_le _⟩ dX11_recut_14 (fun t_14 H locs hS h => ?_)
  refine lv_if_eq (tgt := 24) hx hb dX11_recut_17 (by decide) (fun c_17 => ?_) (fun c_17 => ?_)
  · replace h := ez_ifp h c_17
    exact K_24  σ _ _ _ hS h (lv_sub hl [] rfl)
  · replace h := ez_ifn h c_17
    refine lv_iload_n hx hb dX11_recut_20 rfl (lv_at hl 0 rfl) ?_
    refine lv_if_ne (tgt := 26) hx hb dX11_recut_21 (by decide) (fun c_21 => ?_) (fun c_21 => ?_)
    · replace h := ez_ifn h c_21
      refine lv_aload_n hx hb dX11_recut_26 rfl (lv_at hl 1 rfl) ?_
      refine eg_RX11_37 hC hS h dX11_recut_27 (fun t_27 h => ?_)
      refine lv_aload_n hx hb dX11_recut_30 rfl (lv_at hl 1 rfl) ?_
      refine eg_RX11_41 hC hS h dX11_recut_31 (fun t_31 h => ?_)
      refine lv_iload_n hx hb dX11_recut_34 rfl (lv_at hl 2 rfl) ?_
      refine ez_cVpi (As := [.int x1]) (rest := [.ref (B + t_27)]) h (fun _ q => c_X7_bits q) hC k_X7_bits ql_RX11_140 rfl (by decide) hS (fun _ q => ez_rcv q) rfl hl.1 rfl (Nat.le_of_ble_eq_true rfl) ⟨Nat.zero_le _, Nat.zero_le _⟩ dX11_recut_35 (fun t_35 H locs hS h => ?_)
      refine ez_cVpi (As := [.int t_35]) (rest := []) h (fun _ q => c_X6_numberOf q) hC k_X6_numberOf ql_RX11_144 rfl (by decide) hS (fun _ q => ez_rcv q) rfl hl.1 rfl (Nat.le_of_ble_eq_true rfl) ⟨Nat.zero_le _, Nat.zero_le _⟩ dX11_recut_38 (fun t_38 H locs hS h => ?_)
      refine lv_istore (lv' := [(4, .int t_38), (3, .int t_5), (0, .ref (B + h0)), (1, .int x1), (2, .int x2)]) hx hb dX11_recut_41 hl (by decide) rfl (fun ls hl => ?_)
      refine lv_aload_n hx hb dX11_recut_43 rfl (lv_at hl 2 rfl) ?_
      refine eg_RX11_51 hC hS h dX11_recut_44 (fun t_44 h => ?_)
      refine lv_aload_n hx hb dX11_recut_47 rfl (lv_at hl 2 rfl) ?_
      refine eg_RX11_41 hC hS h dX11_recut_48 (fun t_48 h => ?_)
      refine ez_cVv (As := [.ref (B + t_48)]) (rest := []) h (fun _ q => c_X1_keep q) hC k_X1_keep ql_RX11_222 rfl (by decide) hS (fun _ q => ez_rcv q) rfl hl.1 rfl (Nat.le_of_ble_eq_true rfl) ⟨Nat.zero_le _, Nat.zero_le _⟩ dX11_recut_51 (fun _ σ H locs hS h => ?_)
      refine lv_aload_n hx hb dX11_recut_54 rfl (lv_at hl 2 rfl) ?_
      refine eg_RX11_41 hC hS h dX11_recut_55 (fun t_55 h => ?_)
      refine lv_iload_n hx hb dX11_recut_58 rfl (lv_at hl 3 rfl) ?_
      refine lv_iload_n hx hb dX11_recut_59 rfl (lv_at hl 1 rfl) ?_
      refine ez_cVv (As := [.int x1, .int t_5]) (rest := []) h (fun _ q => c_X7_putBits q) hC k_X7_putBits ql_RX11_267 rfl (by decide) hS (fun _ q => ez_rcv q) rfl hl.1 rfl (Nat.le_of_ble_eq_true rfl) ⟨Nat.zero_le _, Nat.zero_le _⟩ dX11_recut_60 (fun _ σ H locs hS h => ?_)
      refine lv_aload_n hx hb dX11_recut_63 rfl (lv_at hl 2 rfl) ?_
      refine eg_RX11_41 hC hS h dX11_recut_64 (fun t_64 h => ?_)
      refine lv_iload_n hx hb dX11_recut_67 rfl (lv_at hl 3 rfl) ?_
      refine lv_iconst (v := 0) hx hb dX11_recut_68 (by decide) ?_
      refine ez_cVv (As := [.int x1, .int 0]) (rest := []) h (fun _ q => c_X7_putUsed q) hC k_X7_putUsed ql_RX11_270 rfl (by decide) hS (fun _ q => ez_rcv q) rfl hl.1 rfl (Nat.le_of_ble_eq_true rfl) ⟨Nat.zero_le _, Nat.zero_le _⟩ dX11_recut_69 (fun _ σ H locs hS h => ?_)
      refine lv_iload hx hb dX11_recut_72 (lv_at hl 0 rfl) ?_
      exact hret _ _ _ _ _ _ (Option.some.inj h) rfl hS dX11_recut_74
    · replace h := ez_ifp h c_21
      exact K_24  σ _ _ _ hS h (lv_sub hl [] rfl)
set_option maxHeartbeats 4000000 in
set_option maxRecDepth 100000 in
theorem c_X1_goOn {l : Launch} {X : ez_X} {B : Nat} {σ : ez_H} {h0 : Nat} {h1 : Nat} {z : Int32 × ez_H} (h : z_X1_goOn σ h0 h1 = some z) : ez_M l X B σ yX1_goOn cX1_goOn 2 (some .boolean) 2 [.ref (B + h0), .ref (B + h1)] (some (.int z.1)) z.2 := by
  refine ez_starti (z := z) (by decide) (Nat.le_of_ble_eq_true rfl) (fun p e R s m args below meth c Q hC hret hS ls hl => ?_)
  have hC : ez_C p R s m args c X B RX1 cX1_goOn 2 2 := hC
  have hx := hC.1.1
  have hb := hC.1.2.1
  have hown := hC.1.2.2.2.1
  have hts := hC.1.2.2.2.2
  have hl : lv_has ls 2 [(0, .ref (B + h0)), (1, .ref (B + h1))] := hl
  obtain ⟨σ0, eσ⟩ : ∃ σ0 : ez_H, σ0 = σ := ⟨_, rfl⟩
  rw [← eσ] at hret
  have hS : ez_S X B s.heap σ0.length σ s.heap [] := eσ ▸ hS
  obtain ⟨-, h⟩ := ez_in h
  refine lv_aload_n hx hb dX1_goOn_0 rfl (lv_at hl 0 rfl) ?_
  refine eg_RX1_20 hC hS h dX1_goOn_1 (fun t_1 h => ?_)
  refine lv_aload_n hx hb dX1_goOn_4 rfl (lv_at hl 0 rfl) ?_
  refine eg_RX1_23 hC hS h dX1_goOn_5 (fun t_5 h => ?_)
  refine lv_icmp_lt (tgt := 13) hx hb dX1_goOn_8 (by decide) (fun c_8 => ?_) (fun c_8 => ?_)
  · replace h := ez_ifp h c_8
    refine lv_aload_n hx hb dX1_goOn_13 rfl (lv_at hl 0 rfl) ?_
    refine lv_dup hx hb dX1_goOn_14 rfl ?_
    refine eg_RX1_20 hC hS h dX1_goOn_15 (fun t_15 h => ?_)
    refine lv_iconst (v := 1) hx hb dX1_goOn_18 (by decide) ?_
    refine lv_iadd hx hb dX1_goOn_19 ?_
    refine ez_top h (fun t_19 h => ?_)
    refine ep_RX1_20 hC hS h dX1_goOn_20 (fun σ H locs hS h => ?_)
    refine lv_aload_n hx hb dX1_goOn_23 rfl (lv_at hl 1 rfl) ?_
    refine lv_aload_n hx hb dX1_goOn_24 rfl (lv_at hl 0 rfl) ?_
    refine lv_aload_n hx hb dX1_goOn_25 rfl (lv_at hl 0 rfl) ?_
    refine eg_RX1_20 hC hS h dX1_goOn_26 (fun t_26 h => ?_)
    refine ez_cVpr (As := [.int t_26]) (rest := [.ref (B + h1)]) h (fun _ q => c_X1_slot q) hC k_X1_slot ql_RX1_32 rfl (by decide) hS (fun _ q => ez_rcv q) rfl hl.1 rfl (Nat.le_of_ble_eq_true rfl) ⟨Nat.zero_le _, Nat.zero_le _⟩ dX1_goOn_29 (fun t_29 H locs hS h => ?_)
    refine ez_cVv (As := [.ref (B + t_29)]) (rest := []) h (fun _ q => c_X7_copyFrom q) hC k_X7_copyFrom ql_RX1_36 rfl (by decide) hS (fun _ q => ez_rcv q) rfl hl.1 rfl (Nat.le_of_ble_eq_true rfl) ⟨Nat.zero_le _, Nat.zero_le _⟩ dX1_goOn_32 (fun _ σ H locs hS h => ?_)
    refine lv_iconst (v := 1) hx hb dX1_goOn_35 (by decide) ?_
    have hn : narrow .boolean (.int 1) = .int 1 := by decide
    exact hret _ _ _ _ _ _ (Option.some.inj h) hn hS dX1_goOn_36
  · replace h := ez_ifn h c_8
    refine lv_iconst (v := 0) hx hb dX1_goOn_11 (by decide) ?_
    have hn : narrow .boolean (.int 0) = .int 0 := by decide
    exact hret _ _ _ _ _ _ (Option.some.inj h) hn hS dX1_goOn_12
set_option maxHeartbeats 4000000 in
set_option maxRecDepth 100000 in
theorem c_X11_redo {l : Launch} {X : ez_X} {B : Nat} {σ : ez_H} {h0 : Nat} {z : Int32 × ez_H} (h : z_X11_redo σ h0 = some z) : ez_M l X B σ yX11_redo cX11_redo 1 (some .boolean) 3 [.ref (B + h0)] (some (.int z.1)) z.2 := by
  refine ez_starti (z := z) (by decide) (Nat.le_of_ble_eq_true rfl) (fun p e R s m args below meth c Q hC hret hS ls hl => ?_)
  have hC : ez_C p R s m args c X B RX11 cX11_redo 1 3 := hC
  have hx := hC.1.1
  have hb := hC.1.2.1
  have hown := hC.1.2.2.2.1
  have hts := hC.1.2.2.2.2
  have hl : lv_has ls 1 [(0, .ref (B + h0))] := hl
  obtain ⟨σ0, eσ⟩ : ∃ σ0 : ez_H, σ0 = σ := ⟨_, rfl⟩
  rw [← eσ] at hret
  have hS : ez_S X B s.heap σ0.length σ s.heap [] := eσ ▸ hS
  obtain ⟨-, h⟩ := ez_in h
  refine lv_aload_n hx hb dX11_redo_0 rfl (lv_at hl 0 rfl) ?_
  refine eg_RX11_51 hC hS h dX11_redo_1 (fun t_1 h => ?_)
  refine lv_aload_n hx hb dX11_redo_4 rfl (lv_at hl 0 rfl) ?_
  refine eg_RX11_41 hC hS h dX11_redo_5 (fun t_5 h => ?_)
  refine ez_cVi (As := [.ref (B + t_5)]) (rest := []) h (fun _ q => c_X1_goOn q) hC k_X1_goOn ql_RX11_298 rfl (by decide) hS (fun _ q => ez_rcv q) rfl hl.1 rfl (Nat.le_of_ble_eq_true rfl) ⟨Nat.zero_le _, Nat.zero_le _⟩ dX11_redo_8 (fun t_8 σ H locs hS h => ?_)
  obtain ⟨hn, h⟩ := ez_nr_sp rfl h
  exact hret _ _ _ _ _ _ (Option.some.inj h) hn hS dX11_redo_11
set_option maxHeartbeats 4000000 in
set_option maxRecDepth 100000 in
theorem c_X2_putDistance {l : Launch} {X : ez_X} {B : Nat} {σ : ez_H} {h0 : Nat} {x1 : Int32} {x2 : Int32} {z : Unit × ez_H} (h : z_X2_putDistance σ h0 x1 x2 = some z) : ez_M l X B σ yX2_putDistance cX2_putDistance 3 (none) 0 [.ref (B + h0), .int x1, .int x2] (none) z.2 := by
  refine ez_startv (z := z) (by decide) (Nat.le_of_ble_eq_true rfl) (fun p e R s m args below meth c Q hC hret hS ls hl => ?_)
  have hC : ez_C p R s m args c X B RX2 cX2_putDistance 3 0 := hC
  have hx := hC.1.1
  have hb := hC.1.2.1
  have hown := hC.1.2.2.2.1
  have hts := hC.1.2.2.2.2
  have hl : lv_has ls 3 [(0, .ref (B + h0)), (1, .int x1), (2, .int x2)] := hl
  obtain ⟨σ0, eσ⟩ : ∃ σ0 : ez_H, σ0 = σ := ⟨_, rfl⟩
  rw [← eσ] at hret
  have hS : ez_S X B s.heap σ0.length σ s.heap [] := eσ ▸ hS
  obtain ⟨-, h⟩ := ez_in h
  have K_27 : ∀ (σ : ez_H) (H : Heap) (locs : List Loc) (ls : Array Slot), ez_S X B s.heap (σ0.length) σ H locs → z_X2_putDistance_27 σ = some z → lv_has ls 3 [] → W p l e R s m args below meth c H locs 0 0 Q (F0 m 27 ls []) := by
    intro σ H locs ls hS h hl
    exact hret _ _ _ _ _ _ (Option.some.inj h) hS dX2_putDistance_27
  refine lv_iload_n hx hb dX2_putDistance_0 rfl (lv_at hl 1 rfl) ?_
  refine lv_if_lt (tgt := 27) hx hb dX2_putDistance_1 (by decide) (fun c_1 => ?_) (fun c_1 => ?_)
  · replace h := ez_ifp h c_1
    exact K_27  σ _ _ _ hS h (lv_sub hl [] rfl)
  · replace h := ez_ifn h c_1
    refine lv_iload_n hx hb dX2_putDistance_4 rfl (lv_at hl 1 rfl) ?_
    refine lv_bipush (v := 6) hx hb dX2_putDistance_5 (by decide) ?_
    refine lv_icmp_ge (tgt := 27) hx hb dX2_putDistance_7 (by decide) (fun c_7 => ?_) (fun c_7 => ?_)
    · replace h := ez_ifp h c_7
      exact K_27  σ _ _ _ hS h (lv_sub hl [] rfl)
    · replace h := ez_ifn h c_7
      refine lv_aload_n hx hb dX2_putDistance_10 rfl (lv_at hl 0 rfl) ?_
      refine eg_RX2_19 hC hS h dX2_putDistance_11 (fun t_11 h => ?_)
      refine lv_iload_n hx hb dX2_putDistance_14 rfl (lv_at hl 1 rfl) ?_
      refine ez_ial hC hS h dX2_putDistance_15 (fun t_15 h => ?_)
      refine lv_iconst (v := -1) hx hb dX2_putDistance_16 (by decide) ?_
      refine lv_icmp_ne (tgt := 27) hx hb dX2_putDistance_17 (by decide) (fun c_17 => ?_) (fun c_17 => ?_)
      · replace h := ez_ifn h c_17
        exact K_27  σ _ _ _ hS h (lv_sub hl [] rfl)
      · replace h := ez_ifp h c_17
        refine lv_aload_n hx hb dX2_putDistance_20 rfl (lv_at hl 0 rfl) ?_
        refine eg_RX2_19 hC hS h dX2_putDistance_21 (fun t_21 h => ?_)
        refine lv_iload_n hx hb dX2_putDistance_24 rfl (lv_at hl 1 rfl) ?_
        refine lv_iload_n hx hb dX2_putDistance_25 rfl (lv_at hl 2 rfl) ?_
        refine ez_ias hC hS h dX2_putDistance_26 (fun σ H locs hS h => ?_)
        exact K_27  σ _ _ _ hS h (lv_sub hl [] rfl)
set_option maxHeartbeats 4000000 in
set_option maxRecDepth 100000 in
theorem c_X2_distanceOf {l : Launch} {X : ez_X} {B : Nat} {σ : ez_H} {h0 : Nat} {x1 : Int32} {z : Int32} (h : z_X2_distanceOf σ h0 x1 = some z) : ez_M l X B σ yX2_distanceOf cX2_distanceOf 2 (some .int) 0 [.ref (B + h0), .int x1] (some (.int z)) σ := by
  refine ez_startip (z := z) (by decide) (Nat.le_of_ble_eq_true rfl) (fun p e R s m args below meth c Q hC hret hS ls hl => ?_)
  have hC : ez_C p R s m args c X B RX2 cX2_distanceOf 2 0 := hC
  have hx := hC.1.1
  have hb := hC.1.2.1
  have hown := hC.1.2.2.2.1
  have hts := hC.1.2.2.2.2
  have hl : lv_has ls 2 [(0, .ref (B + h0)), (1, .int x1)] := hl
  obtain ⟨n0, e0⟩ : ∃ n0 : Nat, n0 = σ.length := ⟨_, rfl⟩
  rw [← e0] at hret hS
  obtain ⟨-, h⟩ := ez_in h
  have K_20 : ∀ (y0 : Int32) (H : Heap) (locs : List Loc) (ls : Array Slot), ez_S X B s.heap (n0) σ H locs → z_X2_distanceOf_20 σ y0 = some z → lv_has ls 2 [] → W p l e R s m args below meth c H locs 0 0 Q (F0 m 20 ls [.int y0]) := by
    intro y0 H locs ls hS h hl
    exact hret _ _ _ _ _ (Option.some.inj h) rfl hS dX2_distanceOf_20
  have K_19 : ∀ (H : Heap) (locs : List Loc) (ls : Array Slot), ez_S X B s.heap (n0) σ H locs → z_X2_distanceOf_19 σ = some z → lv_has ls 2 [] → W p l e R s m args below meth c H locs 0 0 Q (F0 m 19 ls []) := by
    intro  H locs ls hS h hl
    refine lv_iconst (v := -1) hx hb dX2_distanceOf_19 (by decide) ?_
    exact K_20  (-1 : Int32) _ _ _ hS h (lv_sub hl [] rfl)
  refine lv_iload_n hx hb dX2_distanceOf_0 rfl (lv_at hl 1 rfl) ?_
  refine lv_if_lt (tgt := 19) hx hb dX2_distanceOf_1 (by decide) (fun c_1 => ?_) (fun c_1 => ?_)
  · replace h := ez_ifp h c_1
    exact K_19   _ _ _ hS h (lv_sub hl [] rfl)
  · replace h := ez_ifn h c_1
    refine lv_iload_n hx hb dX2_distanceOf_4 rfl (lv_at hl 1 rfl) ?_
    refine lv_bipush (v := 6) hx hb dX2_distanceOf_5 (by decide) ?_
    refine lv_icmp_ge (tgt := 19) hx hb dX2_distanceOf_7 (by decide) (fun c_7 => ?_) (fun c_7 => ?_)
    · replace h := ez_ifp h c_7
      exact K_19   _ _ _ hS h (lv_sub hl [] rfl)
    · replace h := ez_ifn h c_7
      refine lv_aload_n hx hb dX2_distanceOf_10 rfl (lv_at hl 0 rfl) ?_
      refine eg_RX2_19 hC hS h dX2_distanceOf_11 (fun t_11 h => ?_)
      refine lv_iload_n hx hb dX2_distanceOf_14 rfl (lv_at hl 1 rfl) ?_
      refine ez_ial hC hS h dX2_distanceOf_15 (fun t_15 h => ?_)
      refine lv_goto (tgt := 20) hx hb dX2_distanceOf_16 (by decide) ?_
      exact K_20  t_15 _ _ _ hS h (lv_sub hl [] rfl)
set_option maxHeartbeats 4000000 in
set_option maxRecDepth 100000 in
theorem c_X2_spread {l : Launch} {X : ez_X} {B : Nat} {σ : ez_H} {h0 : Nat} {x1 : Int32} {x2 : Int32} {x3 : Int32} {z : Unit × ez_H} (h : z_X2_spread σ h0 x1 x2 x3 = some z) : ez_M l X B σ yX2_spread cX2_spread 4 (none) 1 [.ref (B + h0), .int x1, .int x2, .int x3] (none) z.2 := by
  refine ez_startv (z := z) (by decide) (Nat.le_of_ble_eq_true rfl) (fun p e R s m args below meth c Q hC hret hS ls hl => ?_)
  have hC : ez_C p R s m args c X B RX2 cX2_spread 4 1 := hC
  have hx := hC.1.1
  have hb := hC.1.2.1
  have hown := hC.1.2.2.2.1
  have hts := hC.1.2.2.2.2
  have hl : lv_has ls 4 [(0, .ref (B + h0)), (1, .int x1), (2, .int x2), (3, .int x3)] := hl
  obtain ⟨σ0, eσ⟩ : ∃ σ0 : ez_H, σ0 = σ := ⟨_, rfl⟩
  rw [← eσ] at hret
  have hS : ez_S X B s.heap σ0.length σ s.heap [] := eσ ▸ hS
  obtain ⟨-, h⟩ := ez_in h
  have K_17 : ∀ (σ : ez_H) (H : Heap) (locs : List Loc) (ls : Array Slot), ez_S X B s.heap (σ0.length) σ H locs → z_X2_spread_17 σ = some z → lv_has ls 4 [] → W p l e R s m args below meth c H locs 0 0 Q (F0 m 17 ls []) := by
    intro σ H locs ls hS h hl
    exact hret _ _ _ _ _ _ (Option.some.inj h) hS dX2_spread_17
  refine lv_aload_n hx hb dX2_spread_0 rfl (lv_at hl 0 rfl) ?_
  refine lv_iload_n hx hb dX2_spread_1 rfl (lv_at hl 1 rfl) ?_
  refine ez_cVpi (As := [.int x1]) (rest := []) h (fun _ q => c_X2_distanceOf q) hC k_X2_distanceOf ql_RX2_88 rfl (by decide) hS (fun _ q => ez_rcv q) rfl hl.1 rfl (Nat.le_of_ble_eq_true rfl) ⟨Nat.zero_le _, Nat.zero_le _⟩ dX2_spread_2 (fun t_2 H locs hS h => ?_)
  refine lv_iload_n hx hb dX2_spread_5 rfl (lv_at hl 3 rfl) ?_
  refine lv_icmp_ne (tgt := 17) hx hb dX2_spread_6 (by decide) (fun c_6 => ?_) (fun c_6 => ?_)
  · replace h := ez_ifn h c_6
    exact K_17  σ _ _ _ hS h (lv_sub hl [] rfl)
  · replace h := ez_ifp h c_6
    refine lv_aload_n hx hb dX2_spread_9 rfl (lv_at hl 0 rfl) ?_
    refine lv_iload_n hx hb dX2_spread_10 rfl (lv_at hl 2 rfl) ?_
    refine lv_iload_n hx hb dX2_spread_11 rfl (lv_at hl 3 rfl) ?_
    refine lv_iconst (v := 1) hx hb dX2_spread_12 (by decide) ?_
    refine lv_iadd hx hb dX2_spread_13 ?_
    refine ez_top h (fun t_13 h => ?_)
    refine ez_cVv (As := [.int x2, .int t_13]) (rest := []) h (fun _ q => c_X2_putDistance q) hC k_X2_putDistance ql_RX2_104 rfl (by decide) hS (fun _ q => ez_rcv q) rfl hl.1 rfl (Nat.le_of_ble_eq_true rfl) ⟨Nat.zero_le _, Nat.zero_le _⟩ dX2_spread_14 (fun _ σ H locs hS h => ?_)
    exact K_17  σ _ _ _ hS h (lv_sub hl [] rfl)
set_option maxHeartbeats 4000000 in
set_option maxRecDepth 100000 in
theorem c_X2_measure {l : Launch} {X : ez_X} {B : Nat} {σ : ez_H} {h0 : Nat} {x1 : Int32} {x2 : Int32} {z : Unit × ez_H} (h : z_X2_measure σ h0 x1 x2 = some z) : ez_M l X B σ yX2_measure cX2_measure 5 (none) 2 [.ref (B + h0), .int x1, .int x2] (none) z.2 := by
  refine ez_startv (z := z) (by decide) (Nat.le_of_ble_eq_true rfl) (fun p e R s m args below meth c Q hC hret hS ls hl => ?_)
  have hC : ez_C p R s m args c X B RX2 cX2_measure 5 2 := hC
  have hx := hC.1.1
  have hb := hC.1.2.1
  have hown := hC.1.2.2.2.1
  have hts := hC.1.2.2.2.2
  have hl : lv_has ls 5 [(0, .ref (B + h0)), (1, .int x1), (2, .int x2)] := hl
  obtain ⟨σ0, eσ⟩ : ∃ σ0 : ez_H, σ0 = σ := ⟨_, rfl⟩
  rw [← eσ] at hret
  have hS : ez_S X B s.heap σ0.length σ s.heap [] := eσ ▸ hS
  obtain ⟨-, h⟩ := ez_in h
  have K_99 : ∀ (k_16 : ez_H → Nat → Int32 → Int32 → Option (Unit × ez_H)) (hk_16 : ∀ (σ : ez_H) (h0 : Nat) (x2 : Int32) (x3 : Int32) (H : Heap) (locs : List Loc) (ls : Array Slot), ez_S X B s.heap (σ0.length) σ H locs → k_16 σ h0 x2 x3 = some z → lv_has ls 5 [(0, .ref (B + h0)), (2, .int x2), (3, .int x3)] → W p l e R s m args below meth c H locs 0 0 Q (F0 m 16 ls [])) (k_25 : ez_H → Nat → Int32 → Int32 → Int32 → Option (Unit × ez_H)) (hk_25 : ∀ (σ : ez_H) (h0 : Nat) (x2 : Int32) (x3 : Int32) (x4 : Int32) (H : Heap) (locs : List Loc) (ls : Array Slot), ez_S X B s.heap (σ0.length) σ H locs → k_25 σ h0 x2 x3 x4 = some z → lv_has ls 5 [(0, .ref (B + h0)), (2, .int x2), (3, .int x3), (4, .int x4)] → W p l e R s m args below meth c H locs 0 0 Q (F0 m 25 ls [])), ∀ (σ : ez_H) (h0 : Nat) (x2 : Int32) (x3 : Int32) (x4 : Int32) (H : Heap) (locs : List Loc) (ls : Array Slot), ez_S X B s.heap (σ0.length) σ H locs → z_X2_measure_99 k_16 k_25 σ h0 x2 x3 x4 = some z → lv_has ls 5 [(0, .ref (B + h0)), (2, .int x2), (3, .int x3), (4, .int x4)] → W p l e R s m args below meth c H locs 0 0 Q (F0 m 99 ls []) := by
    intro k_16 hk_16 k_25 hk_25 σ h0 x2 x3 x4 H locs ls hS h hl
    obtain ⟨t_99, e_99, h⟩ := ez_let_sp h
    refine lv_iinc (v := t_99) (lv' := [(4, .int t_99), (0, .ref (B + h0)), (2, .int x2), (3, .int x3)]) hx hb dX2_measure_99 hl (k := 3) rfl (by rw [e_99]; rfl) (by decide) rfl (fun ls hl => ?_)
    refine lv_goto (tgt := 25) hx hb dX2_measure_102 (by decide) ?_
    exact hk_25 σ h0 x2 x3 t_99 _ _ _ hS h (lv_sub hl [1, 2, 3, 0] rfl)
  have K_25 : ∀ (k_16 : ez_H → Nat → Int32 → Int32 → Option (Unit × ez_H)) (hk_16 : ∀ (σ : ez_H) (h0 : Nat) (x2 : Int32) (x3 : Int32) (H : Heap) (locs : List Loc) (ls : Array Slot), ez_S X B s.heap (σ0.length) σ H locs → k_16 σ h0 x2 x3 = some z → lv_has ls 5 [(0, .ref (B + h0)), (2, .int x2), (3, .int x3)] → W p l e R s m args below meth c H locs 0 0 Q (F0 m 16 ls [])) (k_25 : ez_H → Nat → Int32 → Int32 → Int32 → Option (Unit × ez_H)) (hk_25 : ∀ (σ : ez_H) (h0 : Nat) (x2 : Int32) (x3 : Int32) (x4 : Int32) (H : Heap) (locs : List Loc) (ls : Array Slot), ez_S X B s.heap (σ0.length) σ H locs → k_25 σ h0 x2 x3 x4 = some z → lv_has ls 5 [(0, .ref (B + h0)), (2, .int x2), (3, .int x3), (4, .int x4)] → W p l e R s m args below meth c H locs 0 0 Q (F0 m 25 ls [])), ∀ (σ : ez_H) (h0 : Nat) (x2 : Int32) (x3 : Int32) (x4 : Int32) (H : Heap) (locs : List Loc) (ls : Array Slot), ez_S X B s.heap (σ0.length) σ H locs → z_X2_measure_25 k_16 k_25 σ h0 x2 x3 x4 = some z → lv_has ls 5 [(0, .ref (B + h0)), (2, .int x2), (3, .int x3), (4, .int x4)] → W p l e R s m args below meth c H locs 0 0 Q (F0 m 25 ls []) := by
    intro k_16 hk_16 k_25 hk_25 σ h0 x2 x3 x4 H locs ls hS h hl
    refine lv_iload hx hb dX2_measure_25 (lv_at hl 3 rfl) ?_
    refine lv_aload_n hx hb dX2_measure_27 rfl (lv_at hl 0 rfl) ?_
    refine eg_RX2_9 hC hS h dX2_measure_28 (fun t_28 h => ?_)
    refine eg_RX2_56 hC hS h dX2_measure_31 (fun t_31 h => ?_)
    refine lv_icmp_ge (tgt := 105) hx hb dX2_measure_34 (by decide) (fun c_34 => ?_) (fun c_34 => ?_)
    · replace h := ez_ifp h c_34
      obtain ⟨t_105, e_105, h⟩ := ez_let_sp h
      refine lv_iinc (v := t_105) (lv' := [(3, .int t_105), (0, .ref (B + h0)), (2, .int x2), (4, .int x4)]) hx hb dX2_measure_105 hl (k := 2) rfl (by rw [e_105]; rfl) (by decide) rfl (fun ls hl => ?_)
      refine lv_goto (tgt := 16) hx hb dX2_measure_108 (by decide) ?_
      exact hk_16 σ h0 x2 t_105 _ _ _ hS h (lv_sub hl [1, 2, 0] rfl)
    · replace h := ez_ifn h c_34
      refine lv_iload_n hx hb dX2_measure_37 rfl (lv_at hl 1 rfl) ?_
      refine lv_aload_n hx hb dX2_measure_38 rfl (lv_at hl 0 rfl) ?_
      refine eg_RX2_9 hC hS h dX2_measure_39 (fun t_39 h => ?_)
      refine lv_iload hx hb dX2_measure_42 (lv_at hl 3 rfl) ?_
      refine ez_cVpi (As := [.int x4]) (rest := [.int x2]) h (fun _ q => c_X3_doorLock q) hC k_X3_doorLock ql_RX2_65 rfl (by decide) hS (fun _ q => ez_rcv q) rfl hl.1 rfl (Nat.le_of_ble_eq_true rfl) ⟨Nat.zero_le _, Nat.zero_le _⟩ dX2_measure_44 (fun t_44 H locs hS h => ?_)
      refine lv_ishr hx hb dX2_measure_47 ?_
      refine ez_top h (fun t_47 h => ?_)
      refine lv_iconst (v := 1) hx hb dX2_measure_48 (by decide) ?_
      refine lv_iand hx hb dX2_measure_49 ?_
      refine ez_top h (fun t_49 h => ?_)
      refine lv_if_eq (tgt := 99) hx hb dX2_measure_50 (by decide) (fun c_50 => ?_) (fun c_50 => ?_)
      · replace h := ez_ifp h c_50
        exact K_99 k_16 hk_16 k_25 hk_25 σ h0 x2 x3 x4 _ _ _ hS h (lv_sub hl [0, 1, 2, 3] rfl)
      · replace h := ez_ifn h c_50
        refine lv_aload_n hx hb dX2_measure_53 rfl (lv_at hl 0 rfl) ?_
        refine lv_aload_n hx hb dX2_measure_54 rfl (lv_at hl 0 rfl) ?_
        refine eg_RX2_9 hC hS h dX2_measure_55 (fun t_55 h => ?_)
        refine lv_iload hx hb dX2_measure_58 (lv_at hl 3 rfl) ?_
        refine ez_cVpi (As := [.int x4]) (rest := [.ref (B + h0)]) h (fun _ q => c_X3_doorFrom q) hC k_X3_doorFrom ql_RX2_59 rfl (by decide) hS (fun _ q => ez_rcv q) rfl hl.1 rfl (Nat.le_of_ble_eq_true rfl) ⟨Nat.zero_le _, Nat.zero_le _⟩ dX2_measure_60 (fun t_60 H locs hS h => ?_)
        refine lv_aload_n hx hb dX2_measure_63 rfl (lv_at hl 0 rfl) ?_
        refine eg_RX2_9 hC hS h dX2_measure_64 (fun t_64 h => ?_)
        refine lv_iload hx hb dX2_measure_67 (lv_at hl 3 rfl) ?_
        refine ez_cVpi (As := [.int x4]) (rest := [.int t_60, .ref (B + h0)]) h (fun _ q => c_X3_doorTo q) hC k_X3_doorTo ql_RX2_62 rfl (by decide) hS (fun _ q => ez_rcv q) rfl hl.1 rfl (Nat.le_of_ble_eq_true rfl) ⟨Nat.zero_le _, Nat.zero_le _⟩ dX2_measure_69 (fun t_69 H locs hS h => ?_)
        refine lv_iload_n hx hb dX2_measure_72 rfl (lv_at hl 2 rfl) ?_
        refine ez_cVv (As := [.int t_60, .int t_69, .int x3]) (rest := []) h (fun _ q => c_X2_spread q) hC k_X2_spread ql_RX2_107 rfl (by decide) hS (fun _ q => ez_rcv q) rfl hl.1 rfl (Nat.le_of_ble_eq_true rfl) ⟨Nat.zero_le _, Nat.zero_le _⟩ dX2_measure_73 (fun _ σ H locs hS h => ?_)
        refine lv_aload_n hx hb dX2_measure_76 rfl (lv_at hl 0 rfl) ?_
        refine lv_aload_n hx hb dX2_measure_77 rfl (lv_at hl 0 rfl) ?_
        refine eg_RX2_9 hC hS h dX2_measure_78 (fun t_78 h => ?_)
        refine lv_iload hx hb dX2_measure_81 (lv_at hl 3 rfl) ?_
        refine ez_cVpi (As := [.int x4]) (rest := [.ref (B + h0)]) h (fun _ q => c_X3_doorTo q) hC k_X3_doorTo ql_RX2_62 rfl (by decide) hS (fun _ q => ez_rcv q) rfl hl.1 rfl (Nat.le_of_ble_eq_true rfl) ⟨Nat.zero_le _, Nat.zero_le _⟩ dX2_measure_83 (fun t_83 H locs hS h => ?_)
        refine lv_aload_n hx hb dX2_measure_86 rfl (lv_at hl 0 rfl) ?_
        refine eg_RX2_9 hC hS h dX2_measure_87 (fun t_87 h => ?_)
        refine lv_iload hx hb dX2_measure_90 (lv_at hl 3 rfl) ?_
        refine ez_cVpi (As := [.int x4]) (rest := [.int t_83, .ref (B + h0)]) h (fun _ q => c_X3_doorFrom q) hC k_X3_doorFrom ql_RX2_59 rfl (by decide) hS (fun _ q => ez_rcv q) rfl hl.1 rfl (Nat.le_of_ble_eq_true rfl) ⟨Nat.zero_le _, Nat.zero_le _⟩ dX2_measure_92 (fun t_92 H locs hS h => ?_)
        refine lv_iload_n hx hb dX2_measure_95 rfl (lv_at hl 2 rfl) ?_
        refine ez_cVv (As := [.int t_83, .int t_92, .int x3]) (rest := []) h (fun _ q => c_X2_spread q) hC k_X2_spread ql_RX2_107 rfl (by decide) hS (fun _ q => ez_rcv q) rfl hl.1 rfl (Nat.le_of_ble_eq_true rfl) ⟨Nat.zero_le _, Nat.zero_le _⟩ dX2_measure_96 (fun _ σ H locs hS h => ?_)
        exact K_99 k_16 hk_16 k_25 hk_25 σ h0 x2 x3 x4 _ _ _ hS h (lv_sub hl [0, 1, 2, 3] rfl)
  have E_25 : ∀ (k_16 : ez_H → Nat → Int32 → Int32 → Option (Unit × ez_H)) (hk_16 : ∀ (σ : ez_H) (h0 : Nat) (x2 : Int32) (x3 : Int32) (H : Heap) (locs : List Loc) (ls : Array Slot), ez_S X B s.heap (σ0.length) σ H locs → k_16 σ h0 x2 x3 = some z → lv_has ls 5 [(0, .ref (B + h0)), (2, .int x2), (3, .int x3)] → W p l e R s m args below meth c H locs 0 0 Q (F0 m 16 ls [])), ∀ (σ : ez_H) (h0 : Nat) (x2 : Int32) (x3 : Int32) (x4 : Int32) (H : Heap) (locs : List Loc) (ls : Array Slot), ez_S X B s.heap (σ0.length) σ H locs → (ez_fix (fun _ _ _ _ _ => none) (z_X2_measure_25 k_16) ez_N) σ h0 x2 x3 x4 = some z → lv_has ls 5 [(0, .ref (B + h0)), (2, .int x2), (3, .int x3), (4, .int x4)] → W p l e R s m args below meth c H locs 0 0 Q (F0 m 25 ls []) := fun k_16 hk_16 => ez_fix_ind (fun k_25 : ez_H → Nat → Int32 → Int32 → Int32 → Option (Unit × ez_H) => ∀ (σ : ez_H) (h0 : Nat) (x2 : Int32) (x3 : Int32) (x4 : Int32) (H : Heap) (locs : List Loc) (ls : Array Slot), ez_S X B s.heap (σ0.length) σ H locs → k_25 σ h0 x2 x3 x4 = some z → lv_has ls 5 [(0, .ref (B + h0)), (2, .int x2), (3, .int x3), (4, .int x4)] → W p l e R s m args below meth c H locs 0 0 Q (F0 m 25 ls [])) (fun _ _ _ _ _ _ _ _ _ h _ => by cases h) (fun k_25 hk_25 => K_25 k_16 hk_16 k_25 hk_25) ez_N
  have K_16 : ∀ (k_16 : ez_H → Nat → Int32 → Int32 → Option (Unit × ez_H)) (hk_16 : ∀ (σ : ez_H) (h0 : Nat) (x2 : Int32) (x3 : Int32) (H : Heap) (locs : List Loc) (ls : Array Slot), ez_S X B s.heap (σ0.length) σ H locs → k_16 σ h0 x2 x3 = some z → lv_has ls 5 [(0, .ref (B + h0)), (2, .int x2), (3, .int x3)] → W p l e R s m args below meth c H locs 0 0 Q (F0 m 16 ls [])), ∀ (σ : ez_H) (h0 : Nat) (x2 : Int32) (x3 : Int32) (H : Heap) (locs : List Loc) (ls : Array Slot), ez_S X B s.heap (σ0.length) σ H locs → z_X2_measure_16 k_16 σ h0 x2 x3 = some z → lv_has ls 5 [(0, .ref (B + h0)), (2, .int x2), (3, .int x3)] → W p l e R s m args below meth c H locs 0 0 Q (F0 m 16 ls []) := by
    intro k_16 hk_16 σ h0 x2 x3 H locs ls hS h hl
    refine lv_iload_n hx hb dX2_measure_16 rfl (lv_at hl 2 rfl) ?_
    refine lv_bipush (v := 6) hx hb dX2_measure_17 (by decide) ?_
    refine lv_icmp_ge (tgt := 111) hx hb dX2_measure_19 (by decide) (fun c_19 => ?_) (fun c_19 => ?_)
    · replace h := ez_ifp h c_19
      exact hret _ _ _ _ _ _ (Option.some.inj h) hS dX2_measure_111
    · replace h := ez_ifn h c_19
      refine lv_iconst (v := 0) hx hb dX2_measure_22 (by decide) ?_
      refine lv_istore (lv' := [(4, .int 0), (0, .ref (B + h0)), (2, .int x2), (3, .int x3)]) hx hb dX2_measure_23 hl (by decide) rfl (fun ls hl => ?_)
      exact E_25 k_16 hk_16 σ h0 x2 x3 (0 : Int32) _ _ _ hS h (lv_sub hl [1, 2, 3, 0] rfl)
  have E_16 : ∀ (σ : ez_H) (h0 : Nat) (x2 : Int32) (x3 : Int32) (H : Heap) (locs : List Loc) (ls : Array Slot), ez_S X B s.heap (σ0.length) σ H locs → (ez_fix (fun _ _ _ _ => none) (z_X2_measure_16) ez_N) σ h0 x2 x3 = some z → lv_has ls 5 [(0, .ref (B + h0)), (2, .int x2), (3, .int x3)] → W p l e R s m args below meth c H locs 0 0 Q (F0 m 16 ls []) := ez_fix_ind (fun k_16 : ez_H → Nat → Int32 → Int32 → Option (Unit × ez_H) => ∀ (σ : ez_H) (h0 : Nat) (x2 : Int32) (x3 : Int32) (H : Heap) (locs : List Loc) (ls : Array Slot), ez_S X B s.heap (σ0.length) σ H locs → k_16 σ h0 x2 x3 = some z → lv_has ls 5 [(0, .ref (B + h0)), (2, .int x2), (3, .int x3)] → W p l e R s m args below meth c H locs 0 0 Q (F0 m 16 ls [])) (fun _ _ _ _ _ _ _ _ h _ => by cases h) (fun k_16 hk_16 => K_16 k_16 hk_16) ez_N
  refine lv_aload_n hx hb dX2_measure_0 rfl (lv_at hl 0 rfl) ?_
  refine eg_RX2_19 hC hS h dX2_measure_1 (fun t_1 h => ?_)
  refine lv_iconst (v := -1) hx hb dX2_measure_4 (by decide) ?_
  refine ez_cSv (As := [.ref (B + t_1), .int (-1)]) (rest := []) h (fun _ q => c_J7_fill_53178 q) hC k_J7_fill_53178 ql_RX2_98 rfl (by decide) hS hl.1 rfl (Nat.le_of_ble_eq_true rfl) ⟨Nat.zero_le _, Nat.zero_le _⟩ dX2_measure_5 (fun _ σ H locs hS h => ?_)
  refine lv_aload_n hx hb dX2_measure_8 rfl (lv_at hl 0 rfl) ?_
  refine lv_iload_n hx hb dX2_measure_9 rfl (lv_at hl 1 rfl) ?_
  refine lv_iconst (v := 0) hx hb dX2_measure_10 (by decide) ?_
  refine ez_cVv (As := [.int x1, .int 0]) (rest := []) h (fun _ q => c_X2_putDistance q) hC k_X2_putDistance ql_RX2_104 rfl (by decide) hS (fun _ q => ez_rcv q) rfl hl.1 rfl (Nat.le_of_ble_eq_true rfl) ⟨Nat.zero_le _, Nat.zero_le _⟩ dX2_measure_11 (fun _ σ H locs hS h => ?_)
  refine lv_iconst (v := 0) hx hb dX2_measure_14 (by decide) ?_
  refine lv_istore_n (lv' := [(3, .int 0), (0, .ref (B + h0)), (1, .int x1), (2, .int x2)]) hx hb dX2_measure_15 rfl hl (by decide) rfl (fun ls hl => ?_)
  exact E_16  σ h0 x2 (0 : Int32) _ _ _ hS h (lv_sub hl [1, 3, 0] rfl)
set_option maxHeartbeats 4000000 in
set_option maxRecDepth 100000 in
theorem c_X3_otherSide {l : Launch} {X : ez_X} {B : Nat} {σ : ez_H} {h0 : Nat} {x1 : Int32} {x2 : Int32} {z : Int32} (h : z_X3_otherSide σ h0 x1 x2 = some z) : ez_M l X B σ yX3_otherSide cX3_otherSide 3 (some .int) 2 [.ref (B + h0), .int x1, .int x2] (some (.int z)) σ := by
  refine ez_startip (z := z) (by decide) (Nat.le_of_ble_eq_true rfl) (fun p e R s m args below meth c Q hC hret hS ls hl => ?_)
  have hC : ez_C p R s m args c X B RX3 cX3_otherSide 3 2 := hC
  have hx := hC.1.1
  have hb := hC.1.2.1
  have hown := hC.1.2.2.2.1
  have hts := hC.1.2.2.2.2
  have hl : lv_has ls 3 [(0, .ref (B + h0)), (1, .int x1), (2, .int x2)] := hl
  obtain ⟨n0, e0⟩ : ∃ n0 : Nat, n0 = σ.length := ⟨_, rfl⟩
  rw [← e0] at hret hS
  obtain ⟨-, h⟩ := ez_in h
  have K_33 : ∀ (y0 : Int32) (H : Heap) (locs : List Loc) (ls : Array Slot), ez_S X B s.heap (n0) σ H locs → z_X3_otherSide_33 σ y0 = some z → lv_has ls 3 [] → W p l e R s m args below meth c H locs 0 0 Q (F0 m 33 ls [.int y0]) := by
    intro y0 H locs ls hS h hl
    exact hret _ _ _ _ _ (Option.some.inj h) rfl hS dX3_otherSide_33
  refine lv_aload_n hx hb dX3_otherSide_0 rfl (lv_at hl 0 rfl) ?_
  refine lv_iload_n hx hb dX3_otherSide_1 rfl (lv_at hl 1 rfl) ?_
  refine ez_cVpi (As := [.int x1]) (rest := []) h (fun _ q => c_X3_doorFrom q) hC k_X3_doorFrom ql_RX3_104 rfl (by decide) hS (fun _ q => ez_rcv q) rfl hl.1 rfl (Nat.le_of_ble_eq_true rfl) ⟨Nat.zero_le _, Nat.zero_le _⟩ dX3_otherSide_2 (fun t_2 H locs hS h => ?_)
  refine lv_iload_n hx hb dX3_otherSide_5 rfl (lv_at hl 2 rfl) ?_
  refine lv_icmp_ne (tgt := 15) hx hb dX3_otherSide_6 (by decide) (fun c_6 => ?_) (fun c_6 => ?_)
  · replace h := ez_ifn h c_6
    refine lv_aload_n hx hb dX3_otherSide_15 rfl (lv_at hl 0 rfl) ?_
    refine lv_iload_n hx hb dX3_otherSide_16 rfl (lv_at hl 1 rfl) ?_
    refine ez_cVpi (As := [.int x1]) (rest := []) h (fun _ q => c_X3_doorTo q) hC k_X3_doorTo ql_RX3_108 rfl (by decide) hS (fun _ q => ez_rcv q) rfl hl.1 rfl (Nat.le_of_ble_eq_true rfl) ⟨Nat.zero_le _, Nat.zero_le _⟩ dX3_otherSide_17 (fun t_17 H locs hS h => ?_)
    refine lv_iload_n hx hb dX3_otherSide_20 rfl (lv_at hl 2 rfl) ?_
    refine lv_icmp_ne (tgt := 32) hx hb dX3_otherSide_21 (by decide) (fun c_21 => ?_) (fun c_21 => ?_)
    · replace h := ez_ifn h c_21
      refine lv_iconst (v := -1) hx hb dX3_otherSide_32 (by decide) ?_
      exact K_33  (-1 : Int32) _ _ _ hS h (lv_sub hl [] rfl)
    · replace h := ez_ifp h c_21
      refine lv_aload_n hx hb dX3_otherSide_24 rfl (lv_at hl 0 rfl) ?_
      refine lv_iload_n hx hb dX3_otherSide_25 rfl (lv_at hl 1 rfl) ?_
      refine ez_cVpi (As := [.int x1]) (rest := []) h (fun _ q => c_X3_doorFrom q) hC k_X3_doorFrom ql_RX3_104 rfl (by decide) hS (fun _ q => ez_rcv q) rfl hl.1 rfl (Nat.le_of_ble_eq_true rfl) ⟨Nat.zero_le _, Nat.zero_le _⟩ dX3_otherSide_26 (fun t_26 H locs hS h => ?_)
      refine lv_goto (tgt := 33) hx hb dX3_otherSide_29 (by decide) ?_
      exact K_33  t_26 _ _ _ hS h (lv_sub hl [] rfl)
  · replace h := ez_ifp h c_6
    refine lv_aload_n hx hb dX3_otherSide_9 rfl (lv_at hl 0 rfl) ?_
    refine lv_iload_n hx hb dX3_otherSide_10 rfl (lv_at hl 1 rfl) ?_
    refine ez_cVpi (As := [.int x1]) (rest := []) h (fun _ q => c_X3_doorTo q) hC k_X3_doorTo ql_RX3_108 rfl (by decide) hS (fun _ q => ez_rcv q) rfl hl.1 rfl (Nat.le_of_ble_eq_true rfl) ⟨Nat.zero_le _, Nat.zero_le _⟩ dX3_otherSide_11 (fun t_11 H locs hS h => ?_)
    exact hret _ _ _ _ _ (Option.some.inj h) rfl hS dX3_otherSide_14
set_option maxHeartbeats 4000000 in
set_option maxRecDepth 100000 in
theorem c_X2_doorTowards {l : Launch} {X : ez_X} {B : Nat} {σ : ez_H} {h0 : Nat} {x1 : Int32} {x2 : Int32} {x3 : Int32} {z : Int32} (h : z_X2_doorTowards σ h0 x1 x2 x3 = some z) : ez_M l X B σ yX2_doorTowards cX2_doorTowards 6 (some .int) 3 [.ref (B + h0), .int x1, .int x2, .int x3] (some (.int z)) σ := by
  refine ez_startip (z := z) (by decide) (Nat.le_of_ble_eq_true rfl) (fun p e R s m args below meth c Q hC hret hS ls hl => ?_)
  have hC : ez_C p R s m args c X B RX2 cX2_doorTowards 6 3 := hC
  have hx := hC.1.1
  have hb := hC.1.2.1
  have hown := hC.1.2.2.2.1
  have hts := hC.1.2.2.2.2
  have hl : lv_has ls 6 [(0, .ref (B + h0)), (1, .int x1), (2, .int x2), (3, .int x3)] := hl
  obtain ⟨n0, e0⟩ : ∃ n0 : Nat, n0 = σ.length := ⟨_, rfl⟩
  rw [← e0] at hret hS
  obtain ⟨-, h⟩ := ez_in h
  have K_62 : ∀ (k_3 : Nat → Int32 → Int32 → Int32 → Int32 → Option (Int32)) (hk_3 : ∀ (h0 : Nat) (x1 : Int32) (x2 : Int32) (x3 : Int32) (x4 : Int32) (H : Heap) (locs : List Loc) (ls : Array Slot), ez_S X B s.heap (n0) σ H locs → k_3 h0 x1 x2 x3 x4 = some z → lv_has ls 6 [(0, .ref (B + h0)), (1, .int x1), (2, .int x2), (3, .int x3), (4, .int x4)] → W p l e R s m args below meth c H locs 0 0 Q (F0 m 3 ls [])), ∀ (h0 : Nat) (x1 : Int32) (x2 : Int32) (x3 : Int32) (x4 : Int32) (H : Heap) (locs : List Loc) (ls : Array Slot), ez_S X B s.heap (n0) σ H locs → z_X2_doorTowards_62 σ k_3 h0 x1 x2 x3 x4 = some z → lv_has ls 6 [(0, .ref (B + h0)), (1, .int x1), (2, .int x2), (3, .int x3), (4, .int x4)] → W p l e R s m args below meth c H locs 0 0 Q (F0 m 62 ls []) := by
    intro k_3 hk_3 h0 x1 x2 x3 x4 H locs ls hS h hl
    obtain ⟨t_62, e_62, h⟩ := ez_let_sp h
    refine lv_iinc (v := t_62) (lv' := [(4, .int t_62), (0, .ref (B + h0)), (1, .int x1), (2, .int x2), (3, .int x3)]) hx hb dX2_doorTowards_62 hl (k := 4) rfl (by rw [e_62]; rfl) (by decide) rfl (fun ls hl => ?_)
    refine lv_goto (tgt := 3) hx hb dX2_doorTowards_65 (by decide) ?_
    exact hk_3 h0 x1 x2 x3 t_62 _ _ _ hS h (lv_sub hl [1, 2, 3, 4, 0] rfl)
  have K_3 : ∀ (k_3 : Nat → Int32 → Int32 → Int32 → Int32 → Option (Int32)) (hk_3 : ∀ (h0 : Nat) (x1 : Int32) (x2 : Int32) (x3 : Int32) (x4 : Int32) (H : Heap) (locs : List Loc) (ls : Array Slot), ez_S X B s.heap (n0) σ H locs → k_3 h0 x1 x2 x3 x4 = some z → lv_has ls 6 [(0, .ref (B + h0)), (1, .int x1), (2, .int x2), (3, .int x3), (4, .int x4)] → W p l e R s m args below meth c H locs 0 0 Q (F0 m 3 ls [])), ∀ (h0 : Nat) (x1 : Int32) (x2 : Int32) (x3 : Int32) (x4 : Int32) (H : Heap) (locs : List Loc) (ls : Array Slot), ez_S X B s.heap (n0) σ H locs → z_X2_doorTowards_3 σ k_3 h0 x1 x2 x3 x4 = some z → lv_has ls 6 [(0, .ref (B + h0)), (1, .int x1), (2, .int x2), (3, .int x3), (4, .int x4)] → W p l e R s m args below meth c H locs 0 0 Q (F0 m 3 ls []) := by
    intro k_3 hk_3 h0 x1 x2 x3 x4 H locs ls hS h hl
    refine lv_iload hx hb dX2_doorTowards_3 (lv_at hl 4 rfl) ?_
    refine lv_aload_n hx hb dX2_doorTowards_5 rfl (lv_at hl 0 rfl) ?_
    refine eg_RX2_9 hC hS h dX2_doorTowards_6 (fun t_6 h => ?_)
    refine eg_RX2_56 hC hS h dX2_doorTowards_9 (fun t_9 h => ?_)
    refine lv_icmp_ge (tgt := 68) hx hb dX2_doorTowards_12 (by decide) (fun c_12 => ?_) (fun c_12 => ?_)
    · replace h := ez_ifp h c_12
      refine lv_iconst (v := -1) hx hb dX2_doorTowards_68 (by decide) ?_
      exact hret _ _ _ _ _ (Option.some.inj h) rfl hS dX2_doorTowards_69
    · replace h := ez_ifn h c_12
      refine lv_aload_n hx hb dX2_doorTowards_15 rfl (lv_at hl 0 rfl) ?_
      refine eg_RX2_9 hC hS h dX2_doorTowards_16 (fun t_16 h => ?_)
      refine lv_iload hx hb dX2_doorTowards_19 (lv_at hl 4 rfl) ?_
      refine lv_iload_n hx hb dX2_doorTowards_21 rfl (lv_at hl 1 rfl) ?_
      refine ez_cVpi (As := [.int x4, .int x1]) (rest := []) h (fun _ q => c_X3_otherSide q) hC k_X3_otherSide ql_RX2_95 rfl (by decide) hS (fun _ q => ez_rcv q) rfl hl.1 rfl (Nat.le_of_ble_eq_true rfl) ⟨Nat.zero_le _, Nat.zero_le _⟩ dX2_doorTowards_22 (fun t_22 H locs hS h => ?_)
      refine lv_istore (lv' := [(5, .int t_22), (0, .ref (B + h0)), (1, .int x1), (2, .int x2), (3, .int x3), (4, .int x4)]) hx hb dX2_doorTowards_25 hl (by decide) rfl (fun ls hl => ?_)
      refine lv_iload_n hx hb dX2_doorTowards_27 rfl (lv_at hl 4 rfl) ?_
      refine lv_aload_n hx hb dX2_doorTowards_28 rfl (lv_at hl 1 rfl) ?_
      refine eg_RX2_9 hC hS h dX2_doorTowards_29 (fun t_29 h => ?_)
      refine lv_iload hx hb dX2_doorTowards_32 (lv_at hl 5 rfl) ?_
      refine ez_cVpi (As := [.int x4]) (rest := [.int x3]) h (fun _ q => c_X3_doorLock q) hC k_X3_doorLock ql_RX2_65 rfl (by decide) hS (fun _ q => ez_rcv q) rfl hl.1 rfl (Nat.le_of_ble_eq_true rfl) ⟨Nat.zero_le _, Nat.zero_le _⟩ dX2_doorTowards_34 (fun t_34 H locs hS h => ?_)
      refine lv_ishr hx hb dX2_doorTowards_37 ?_
      refine ez_top h (fun t_37 h => ?_)
      refine lv_iconst (v := 1) hx hb dX2_doorTowards_38 (by decide) ?_
      refine lv_iand hx hb dX2_doorTowards_39 ?_
      refine ez_top h (fun t_39 h => ?_)
      refine lv_if_eq (tgt := 62) hx hb dX2_doorTowards_40 (by decide) (fun c_40 => ?_) (fun c_40 => ?_)
      · replace h := ez_ifp h c_40
        exact K_62 k_3 hk_3 h0 x1 x2 x3 x4 _ _ _ hS h (lv_sub hl [1, 2, 3, 4, 5] rfl)
      · replace h := ez_ifn h c_40
        refine lv_iload hx hb dX2_doorTowards_43 (lv_at hl 0 rfl) ?_
        refine lv_iconst (v := -1) hx hb dX2_doorTowards_45 (by decide) ?_
        refine lv_icmp_eq (tgt := 62) hx hb dX2_doorTowards_46 (by decide) (fun c_46 => ?_) (fun c_46 => ?_)
        · replace h := ez_ifp h c_46
          exact K_62 k_3 hk_3 h0 x1 x2 x3 x4 _ _ _ hS h (lv_sub hl [1, 2, 3, 4, 5] rfl)
        · replace h := ez_ifn h c_46
          refine lv_aload_n hx hb dX2_doorTowards_49 rfl (lv_at hl 1 rfl) ?_
          refine lv_iload hx hb dX2_doorTowards_50 (lv_at hl 0 rfl) ?_
          refine ez_cVpi (As := [.int t_22]) (rest := []) h (fun _ q => c_X2_distanceOf q) hC k_X2_distanceOf ql_RX2_88 rfl (by decide) hS (fun _ q => ez_rcv q) rfl hl.1 rfl (Nat.le_of_ble_eq_true rfl) ⟨Nat.zero_le _, Nat.zero_le _⟩ dX2_doorTowards_52 (fun t_52 H locs hS h => ?_)
          refine lv_iload_n hx hb dX2_doorTowards_55 rfl (lv_at hl 3 rfl) ?_
          refine lv_icmp_ne (tgt := 62) hx hb dX2_doorTowards_56 (by decide) (fun c_56 => ?_) (fun c_56 => ?_)
          · replace h := ez_ifn h c_56
            exact K_62 k_3 hk_3 h0 x1 x2 x3 x4 _ _ _ hS h (lv_sub hl [1, 2, 3, 4, 5] rfl)
          · replace h := ez_ifp h c_56
            refine lv_iload hx hb dX2_doorTowards_59 (lv_at hl 5 rfl) ?_
            exact hret _ _ _ _ _ (Option.some.inj h) rfl hS dX2_doorTowards_61
  have E_3 : ∀ (h0 : Nat) (x1 : Int32) (x2 : Int32) (x3 : Int32) (x4 : Int32) (H : Heap) (locs : List Loc) (ls : Array Slot), ez_S X B s.heap (n0) σ H locs → (ez_fix (fun _ _ _ _ _ => none) (z_X2_doorTowards_3 σ) ez_N) h0 x1 x2 x3 x4 = some z → lv_has ls 6 [(0, .ref (B + h0)), (1, .int x1), (2, .int x2), (3, .int x3), (4, .int x4)] → W p l e R s m args below meth c H locs 0 0 Q (F0 m 3 ls []) := ez_fix_ind (fun k_3 : Nat → Int32 → Int32 → Int32 → Int32 → Option (Int32) => ∀ (h0 : Nat) (x1 : Int32) (x2 : Int32) (x3 : Int32) (x4 : Int32) (H : Heap) (locs : List Loc) (ls : Array Slot), ez_S X B s.heap (n0) σ H locs → k_3 h0 x1 x2 x3 x4 = some z → lv_has ls 6 [(0, .ref (B + h0)), (1, .int x1), (2, .int x2), (3, .int x3), (4, .int x4)] → W p l e R s m args below meth c H locs 0 0 Q (F0 m 3 ls [])) (fun _ _ _ _ _ _ _ _ _ h _ => by cases h) (fun k_3 hk_3 => K_3 k_3 hk_3) ez_N
  refine lv_iconst (v := 0) hx hb dX2_doorTowards_0 (by decide) ?_
  refine lv_istore (lv' := [(4, .int 0), (0, .ref (B + h0)), (1, .int x1), (2, .int x2), (3, .int x3)]) hx hb dX2_doorTowards_1 hl (by decide) rfl (fun ls hl => ?_)
  exact E_3  h0 x1 x2 x3 (0 : Int32) _ _ _ hS h (lv_sub hl [1, 2, 3, 4, 0] rfl)
set_option maxHeartbeats 4000000 in
set_option maxRecDepth 100000 in
theorem c_X2_findPath {l : Launch} {X : ez_X} {B : Nat} {σ : ez_H} {h0 : Nat} {x1 : Int32} {x2 : Int32} {z : Int32 × ez_H} (h : z_X2_findPath σ h0 x1 x2 = some z) : ez_M l X B σ yX2_findPath cX2_findPath 7 (some .int) 4 [.ref (B + h0), .int x1, .int x2] (some (.int z.1)) z.2 := by
  refine ez_starti (z := z) (by decide) (Nat.le_of_ble_eq_true rfl) (fun p e R s m args below meth c Q hC hret hS ls hl => ?_)
  have hC : ez_C p R s m args c X B RX2 cX2_findPath 7 4 := hC
  have hx := hC.1.1
  have hb := hC.1.2.1
  have hown := hC.1.2.2.2.1
  have hts := hC.1.2.2.2.2
  have hl : lv_has ls 7 [(0, .ref (B + h0)), (1, .int x1), (2, .int x2)] := hl
  obtain ⟨σ0, eσ⟩ : ∃ σ0 : ez_H, σ0 = σ := ⟨_, rfl⟩
  rw [← eσ] at hret
  have hS : ez_S X B s.heap σ0.length σ s.heap [] := eσ ▸ hS
  obtain ⟨-, h⟩ := ez_in h
  have K_125 : ∀ (σ : ez_H) (h0 : Nat) (H : Heap) (locs : List Loc) (ls : Array Slot), ez_S X B s.heap (σ0.length) σ H locs → z_X2_findPath_125 σ h0 = some z → lv_has ls 7 [(0, .ref (B + h0))] → W p l e R s m args below meth c H locs 0 0 Q (F0 m 125 ls []) := by
    intro σ h0 H locs ls hS h hl
    refine lv_aload_n hx hb dX2_findPath_125 rfl (lv_at hl 0 rfl) ?_
    refine eg_RX2_29 hC hS h dX2_findPath_126 (fun t_126 h => ?_)
    exact hret _ _ _ _ _ _ (Option.some.inj h) rfl hS dX2_findPath_129
  have K_57 : ∀ (k_57 : ez_H → Nat → Int32 → Int32 → Int32 → Option (Int32 × ez_H)) (hk_57 : ∀ (σ : ez_H) (h0 : Nat) (x3 : Int32) (x4 : Int32) (x5 : Int32) (H : Heap) (locs : List Loc) (ls : Array Slot), ez_S X B s.heap (σ0.length) σ H locs → k_57 σ h0 x3 x4 x5 = some z → lv_has ls 7 [(0, .ref (B + h0)), (3, .int x3), (4, .int x4), (5, .int x5)] → W p l e R s m args below meth c H locs 0 0 Q (F0 m 57 ls [])), ∀ (σ : ez_H) (h0 : Nat) (x3 : Int32) (x4 : Int32) (x5 : Int32) (H : Heap) (locs : List Loc) (ls : Array Slot), ez_S X B s.heap (σ0.length) σ H locs → z_X2_findPath_57 k_57 σ h0 x3 x4 x5 = some z → lv_has ls 7 [(0, .ref (B + h0)), (3, .int x3), (4, .int x4), (5, .int x5)] → W p l e R s m args below meth c H locs 0 0 Q (F0 m 57 ls []) := by
    intro k_57 hk_57 σ h0 x3 x4 x5 H locs ls hS h hl
    refine lv_iload hx hb dX2_findPath_57 (lv_at hl 3 rfl) ?_
    refine lv_if_le (tgt := 125) hx hb dX2_findPath_59 (by decide) (fun c_59 => ?_) (fun c_59 => ?_)
    · replace h := ez_ifp h c_59
      exact K_125  σ h0 _ _ _ hS h (lv_sub hl [0] rfl)
    · replace h := ez_ifn h c_59
      refine lv_aload_n hx hb dX2_findPath_62 rfl (lv_at hl 0 rfl) ?_
      refine eg_RX2_29 hC hS h dX2_findPath_63 (fun t_63 h => ?_)
      refine lv_aload_n hx hb dX2_findPath_66 rfl (lv_at hl 0 rfl) ?_
      refine eg_RX2_26 hC hS h dX2_findPath_67 (fun t_67 h => ?_)
      refine ez_lnA hC hS h dX2_findPath_70 (fun t_70 h => ?_)
      refine lv_icmp_ge (tgt := 125) hx hb dX2_findPath_71 (by decide) (fun c_71 => ?_) (fun c_71 => ?_)
      · replace h := ez_ifp h c_71
        exact K_125  σ h0 _ _ _ hS h (lv_sub hl [0] rfl)
      · replace h := ez_ifn h c_71
        obtain ⟨t_74, e_74, h⟩ := ez_let_sp h
        refine lv_iinc (v := t_74) (lv' := [(5, .int t_74), (0, .ref (B + h0)), (3, .int x3), (4, .int x4)]) hx hb dX2_findPath_74 hl (k := 3) rfl (by rw [e_74]; rfl) (by decide) rfl (fun ls hl => ?_)
        refine lv_aload_n hx hb dX2_findPath_77 rfl (lv_at hl 1 rfl) ?_
        refine lv_iload hx hb dX2_findPath_78 (lv_at hl 3 rfl) ?_
        refine lv_iload hx hb dX2_findPath_80 (lv_at hl 0 rfl) ?_
        refine lv_iload_n hx hb dX2_findPath_82 rfl (lv_at hl 2 rfl) ?_
        refine ez_cVpi (As := [.int x4, .int t_74, .int x3]) (rest := []) h (fun _ q => c_X2_doorTowards q) hC k_X2_doorTowards ql_RX2_91 rfl (by decide) hS (fun _ q => ez_rcv q) rfl hl.1 rfl (Nat.le_of_ble_eq_true rfl) ⟨Nat.zero_le _, Nat.zero_le _⟩ dX2_findPath_83 (fun t_83 H locs hS h => ?_)
        refine lv_istore (lv' := [(6, .int t_83), (5, .int t_74), (0, .ref (B + h0)), (3, .int x3), (4, .int x4)]) hx hb dX2_findPath_86 hl (by decide) rfl (fun ls hl => ?_)
        refine lv_aload_n hx hb dX2_findPath_88 rfl (lv_at hl 2 rfl) ?_
        refine eg_RX2_26 hC hS h dX2_findPath_89 (fun t_89 h => ?_)
        refine lv_aload_n hx hb dX2_findPath_92 rfl (lv_at hl 2 rfl) ?_
        refine eg_RX2_29 hC hS h dX2_findPath_93 (fun t_93 h => ?_)
        refine lv_iload hx hb dX2_findPath_96 (lv_at hl 0 rfl) ?_
        refine ez_ias hC hS h dX2_findPath_98 (fun σ H locs hS h => ?_)
        refine lv_aload_n hx hb dX2_findPath_99 rfl (lv_at hl 2 rfl) ?_
        refine lv_dup hx hb dX2_findPath_100 rfl ?_
        refine eg_RX2_29 hC hS h dX2_findPath_101 (fun t_101 h => ?_)
        refine lv_iconst (v := 1) hx hb dX2_findPath_104 (by decide) ?_
        refine lv_iadd hx hb dX2_findPath_105 ?_
        refine ez_top h (fun t_105 h => ?_)
        refine ep_RX2_29 hC hS h dX2_findPath_106 (fun σ H locs hS h => ?_)
        refine lv_aload_n hx hb dX2_findPath_109 rfl (lv_at hl 2 rfl) ?_
        refine eg_RX2_9 hC hS h dX2_findPath_110 (fun t_110 h => ?_)
        refine lv_iload hx hb dX2_findPath_113 (lv_at hl 0 rfl) ?_
        refine lv_iload hx hb dX2_findPath_115 (lv_at hl 4 rfl) ?_
        refine ez_cVpi (As := [.int t_83, .int x4]) (rest := []) h (fun _ q => c_X3_otherSide q) hC k_X3_otherSide ql_RX2_95 rfl (by decide) hS (fun _ q => ez_rcv q) rfl hl.1 rfl (Nat.le_of_ble_eq_true rfl) ⟨Nat.zero_le _, Nat.zero_le _⟩ dX2_findPath_117 (fun t_117 H locs hS h => ?_)
        refine lv_istore (lv' := [(4, .int t_117), (6, .int t_83), (5, .int t_74), (0, .ref (B + h0)), (3, .int x3)]) hx hb dX2_findPath_120 hl (by decide) rfl (fun ls hl => ?_)
        refine lv_goto (tgt := 57) hx hb dX2_findPath_122 (by decide) ?_
        exact hk_57 σ h0 x3 t_117 t_74 _ _ _ hS h (lv_sub hl [3, 4, 0, 2] rfl)
  have E_57 : ∀ (σ : ez_H) (h0 : Nat) (x3 : Int32) (x4 : Int32) (x5 : Int32) (H : Heap) (locs : List Loc) (ls : Array Slot), ez_S X B s.heap (σ0.length) σ H locs → (ez_fix (fun _ _ _ _ _ => none) (z_X2_findPath_57) ez_N) σ h0 x3 x4 x5 = some z → lv_has ls 7 [(0, .ref (B + h0)), (3, .int x3), (4, .int x4), (5, .int x5)] → W p l e R s m args below meth c H locs 0 0 Q (F0 m 57 ls []) := ez_fix_ind (fun k_57 : ez_H → Nat → Int32 → Int32 → Int32 → Option (Int32 × ez_H) => ∀ (σ : ez_H) (h0 : Nat) (x3 : Int32) (x4 : Int32) (x5 : Int32) (H : Heap) (locs : List Loc) (ls : Array Slot), ez_S X B s.heap (σ0.length) σ H locs → k_57 σ h0 x3 x4 x5 = some z → lv_has ls 7 [(0, .ref (B + h0)), (3, .int x3), (4, .int x4), (5, .int x5)] → W p l e R s m args below meth c H locs 0 0 Q (F0 m 57 ls [])) (fun _ _ _ _ _ _ _ _ _ h _ => by cases h) (fun k_57 hk_57 => K_57 k_57 hk_57) ez_N
  refine lv_aload_n hx hb dX2_findPath_0 rfl (lv_at hl 0 rfl) ?_
  refine lv_aload_n hx hb dX2_findPath_1 rfl (lv_at hl 0 rfl) ?_
  refine eg_RX2_15 hC hS h dX2_findPath_2 (fun t_2 h => ?_)
  refine lv_iload_n hx hb dX2_findPath_5 rfl (lv_at hl 1 rfl) ?_
  refine lv_aload_n hx hb dX2_findPath_6 rfl (lv_at hl 0 rfl) ?_
  refine eg_RX2_9 hC hS h dX2_findPath_7 (fun t_7 h => ?_)
  refine eg_RX2_33 hC hS h dX2_findPath_10 (fun t_10 h => ?_)
  refine ez_cVpi (As := [.int x1, .int t_10]) (rest := [.ref (B + h0)]) h (fun _ q => c_X7_heldBy q) hC k_X7_heldBy ql_RX2_78 rfl (by decide) hS (fun _ q => ez_rcv q) rfl hl.1 rfl (Nat.le_of_ble_eq_true rfl) ⟨Nat.zero_le _, Nat.zero_le _⟩ dX2_findPath_13 (fun t_13 H locs hS h => ?_)
  refine ez_cVpi (As := [.int t_13]) (rest := []) h (fun _ q => c_X2_locksFor q) hC k_X2_locksFor ql_RX2_71 rfl (by decide) hS (fun _ q => ez_rcv q) rfl hl.1 rfl (Nat.le_of_ble_eq_true rfl) ⟨Nat.zero_le _, Nat.zero_le _⟩ dX2_findPath_16 (fun t_16 H locs hS h => ?_)
  refine lv_istore_n (lv' := [(3, .int t_16), (0, .ref (B + h0)), (1, .int x1), (2, .int x2)]) hx hb dX2_findPath_19 rfl hl (by decide) rfl (fun ls hl => ?_)
  refine lv_aload_n hx hb dX2_findPath_20 rfl (lv_at hl 1 rfl) ?_
  refine eg_RX2_15 hC hS h dX2_findPath_21 (fun t_21 h => ?_)
  refine lv_iload_n hx hb dX2_findPath_24 rfl (lv_at hl 2 rfl) ?_
  refine ez_cVpi (As := [.int x1]) (rest := []) h (fun _ q => c_X7_room q) hC k_X7_room ql_RX2_68 rfl (by decide) hS (fun _ q => ez_rcv q) rfl hl.1 rfl (Nat.le_of_ble_eq_true rfl) ⟨Nat.zero_le _, Nat.zero_le _⟩ dX2_findPath_25 (fun t_25 H locs hS h => ?_)
  refine lv_istore (lv' := [(4, .int t_25), (3, .int t_16), (0, .ref (B + h0)), (1, .int x1), (2, .int x2)]) hx hb dX2_findPath_28 hl (by decide) rfl (fun ls hl => ?_)
  refine lv_aload_n hx hb dX2_findPath_30 rfl (lv_at hl 2 rfl) ?_
  refine lv_iload_n hx hb dX2_findPath_31 rfl (lv_at hl 4 rfl) ?_
  refine lv_iload_n hx hb dX2_findPath_32 rfl (lv_at hl 1 rfl) ?_
  refine ez_cVv (As := [.int x2, .int t_16]) (rest := []) h (fun _ q => c_X2_measure q) hC k_X2_measure ql_RX2_84 rfl (by decide) hS (fun _ q => ez_rcv q) rfl hl.1 rfl (Nat.le_of_ble_eq_true rfl) ⟨Nat.zero_le _, Nat.zero_le _⟩ dX2_findPath_33 (fun _ σ H locs hS h => ?_)
  refine lv_aload_n hx hb dX2_findPath_36 rfl (lv_at hl 2 rfl) ?_
  refine lv_iconst (v := 0) hx hb dX2_findPath_37 (by decide) ?_
  refine ep_RX2_29 hC hS h dX2_findPath_38 (fun σ H locs hS h => ?_)
  refine lv_aload_n hx hb dX2_findPath_41 rfl (lv_at hl 2 rfl) ?_
  refine lv_iload hx hb dX2_findPath_42 (lv_at hl 0 rfl) ?_
  refine ez_cVpi (As := [.int t_25]) (rest := []) h (fun _ q => c_X2_distanceOf q) hC k_X2_distanceOf ql_RX2_88 rfl (by decide) hS (fun _ q => ez_rcv q) rfl hl.1 rfl (Nat.le_of_ble_eq_true rfl) ⟨Nat.zero_le _, Nat.zero_le _⟩ dX2_findPath_44 (fun t_44 H locs hS h => ?_)
  refine lv_istore (lv' := [(5, .int t_44), (4, .int t_25), (3, .int t_16), (0, .ref (B + h0)), (1, .int x1), (2, .int x2)]) hx hb dX2_findPath_47 hl (by decide) rfl (fun ls hl => ?_)
  refine lv_iload hx hb dX2_findPath_49 (lv_at hl 0 rfl) ?_
  refine lv_iconst (v := -1) hx hb dX2_findPath_51 (by decide) ?_
  refine lv_icmp_ne (tgt := 57) hx hb dX2_findPath_52 (by decide) (fun c_52 => ?_) (fun c_52 => ?_)
  · replace h := ez_ifn h c_52
    exact E_57  σ h0 t_16 t_25 t_44 _ _ _ hS h (lv_sub hl [3, 2, 1, 0] rfl)
  · replace h := ez_ifp h c_52
    refine lv_iconst (v := -1) hx hb dX2_findPath_55 (by decide) ?_
    exact hret _ _ _ _ _ _ (Option.some.inj h) rfl hS dX2_findPath_56
set_option maxHeartbeats 4000000 in
set_option maxRecDepth 100000 in
theorem c_X11_route {l : Launch} {X : ez_X} {B : Nat} {σ : ez_H} {h0 : Nat} {x1 : Int32} {x2 : Int32} {z : Int32 × ez_H} (h : z_X11_route σ h0 x1 x2 = some z) : ez_M l X B σ yX11_route cX11_route 3 (some .int) 5 [.ref (B + h0), .int x1, .int x2] (some (.int z.1)) z.2 := by
  refine ez_starti (z := z) (by decide) (Nat.le_of_ble_eq_true rfl) (fun p e R s m args below meth c Q hC hret hS ls hl => ?_)
  have hC : ez_C p R s m args c X B RX11 cX11_route 3 5 := hC
  have hx := hC.1.1
  have hb := hC.1.2.1
  have hown := hC.1.2.2.2.1
  have hts := hC.1.2.2.2.2
  have hl : lv_has ls 3 [(0, .ref (B + h0)), (1, .int x1), (2, .int x2)] := hl
  obtain ⟨σ0, eσ⟩ : ∃ σ0 : ez_H, σ0 = σ := ⟨_, rfl⟩
  rw [← eσ] at hret
  have hS : ez_S X B s.heap σ0.length σ s.heap [] := eσ ▸ hS
  obtain ⟨-, h⟩ := ez_in h
  have K_29 : ∀ (σ : ez_H) (H : Heap) (locs : List Loc) (ls : Array Slot), ez_S X B s.heap (σ0.length) σ H locs → z_X11_route_29 σ = some z → lv_has ls 3 [] → W p l e R s m args below meth c H locs 0 0 Q (F0 m 29 ls []) := by
    intro σ H locs ls hS h hl
    refine lv_iconst (v := -1) hx hb dX11_route_29 (by decide) ?_
    exact hret _ _ _ _ _ _ (Option.some.inj h) rfl hS dX11_route_30
  refine lv_aload_n hx hb dX11_route_0 rfl (lv_at hl 0 rfl) ?_
  refine eg_RX11_79 hC hS h dX11_route_1 (fun t_1 h => ?_)
  refine ez_cVv (As := []) (rest := []) h (fun _ q => c_X2_forgetPath q) hC k_X2_forgetPath ql_RX11_125 rfl (by decide) hS (fun _ q => ez_rcv q) rfl hl.1 rfl (Nat.le_of_ble_eq_true rfl) ⟨Nat.zero_le _, Nat.zero_le _⟩ dX11_route_4 (fun _ σ H locs hS h => ?_)
  refine lv_aload_n hx hb dX11_route_7 rfl (lv_at hl 0 rfl) ?_
  refine eg_RX11_29 hC hS h dX11_route_8 (fun t_8 h => ?_)
  refine lv_iload_n hx hb dX11_route_11 rfl (lv_at hl 1 rfl) ?_
  refine ez_cVpi (As := [.int x1]) (rest := []) h (fun _ q => c_X3_hasPerson q) hC k_X3_hasPerson ql_RX11_200 rfl (by decide) hS (fun _ q => ez_rcv q) rfl hl.1 rfl (Nat.le_of_ble_eq_true rfl) ⟨Nat.zero_le _, Nat.zero_le _⟩ dX11_route_12 (fun t_12 H locs hS h => ?_)
  refine lv_if_eq (tgt := 29) hx hb dX11_route_15 (by decide) (fun c_15 => ?_) (fun c_15 => ?_)
  · replace h := ez_ifp h c_15
    exact K_29  σ _ _ _ hS h (lv_sub hl [] rfl)
  · replace h := ez_ifn h c_15
    refine lv_aload_n hx hb dX11_route_18 rfl (lv_at hl 0 rfl) ?_
    refine eg_RX11_29 hC hS h dX11_route_19 (fun t_19 h => ?_)
    refine lv_iload_n hx hb dX11_route_22 rfl (lv_at hl 2 rfl) ?_
    refine ez_cVpi (As := [.int x2]) (rest := []) h (fun _ q => c_X3_hasRoom q) hC k_X3_hasRoom ql_RX11_356 rfl (by decide) hS (fun _ q => ez_rcv q) rfl hl.1 rfl (Nat.le_of_ble_eq_true rfl) ⟨Nat.zero_le _, Nat.zero_le _⟩ dX11_route_23 (fun t_23 H locs hS h => ?_)
    refine lv_if_ne (tgt := 31) hx hb dX11_route_26 (by decide) (fun c_26 => ?_) (fun c_26 => ?_)
    · replace h := ez_ifn h c_26
      refine lv_aload_n hx hb dX11_route_31 rfl (lv_at hl 0 rfl) ?_
      refine eg_RX11_79 hC hS h dX11_route_32 (fun t_32 h => ?_)
      refine lv_iload_n hx hb dX11_route_35 rfl (lv_at hl 1 rfl) ?_
      refine lv_iload_n hx hb dX11_route_36 rfl (lv_at hl 2 rfl) ?_
      refine ez_cVi (As := [.int x1, .int x2]) (rest := []) h (fun _ q => c_X2_findPath q) hC k_X2_findPath ql_RX11_359 rfl (by decide) hS (fun _ q => ez_rcv q) rfl hl.1 rfl (Nat.le_of_ble_eq_true rfl) ⟨Nat.zero_le _, Nat.zero_le _⟩ dX11_route_37 (fun t_37 σ H locs hS h => ?_)
      exact hret _ _ _ _ _ _ (Option.some.inj h) rfl hS dX11_route_40
    · replace h := ez_ifp h c_26
      exact K_29  σ _ _ _ hS h (lv_sub hl [] rfl)
set_option maxHeartbeats 4000000 in
set_option maxRecDepth 100000 in
theorem c_X11_span {l : Launch} {X : ez_X} {B : Nat} {σ : ez_H} {h0 : Nat} {x1 : Int32} {x2 : Int32} {z : Int32} (h : z_X11_span σ h0 x1 x2 = some z) : ez_M l X B σ yX11_span cX11_span 3 (some .int) 3 [.ref (B + h0), .int x1, .int x2] (some (.int z)) σ := by
  refine ez_startip (z := z) (by decide) (Nat.le_of_ble_eq_true rfl) (fun p e R s m args below meth c Q hC hret hS ls hl => ?_)
  have hC : ez_C p R s m args c X B RX11 cX11_span 3 3 := hC
  have hx := hC.1.1
  have hb := hC.1.2.1
  have hown := hC.1.2.2.2.1
  have hts := hC.1.2.2.2.2
  have hl : lv_has ls 3 [(0, .ref (B + h0)), (1, .int x1), (2, .int x2)] := hl
  obtain ⟨n0, e0⟩ : ∃ n0 : Nat, n0 = σ.length := ⟨_, rfl⟩
  rw [← e0] at hret hS
  obtain ⟨-, h⟩ := ez_in h
  have K_22 : ∀ (H : Heap) (locs : List Loc) (ls : Array Slot), ez_S X B s.heap (n0) σ H locs → z_X11_span_22 σ = some z → lv_has ls 3 [] → W p l e R s m args below meth c H locs 0 0 Q (F0 m 22 ls []) := by
    intro  H locs ls hS h hl
    refine lv_iconst (v := -1) hx hb dX11_span_22 (by decide) ?_
    exact hret _ _ _ _ _ (Option.some.inj h) rfl hS dX11_span_23
  refine lv_aload_n hx hb dX11_span_0 rfl (lv_at hl 0 rfl) ?_
  refine eg_RX11_29 hC hS h dX11_span_1 (fun t_1 h => ?_)
  refine lv_iload_n hx hb dX11_span_4 rfl (lv_at hl 1 rfl) ?_
  refine ez_cVpi (As := [.int x1]) (rest := []) h (fun _ q => c_X3_hasKey q) hC k_X3_hasKey ql_RX11_137 rfl (by decide) hS (fun _ q => ez_rcv q) rfl hl.1 rfl (Nat.le_of_ble_eq_true rfl) ⟨Nat.zero_le _, Nat.zero_le _⟩ dX11_span_5 (fun t_5 H locs hS h => ?_)
  refine lv_if_eq (tgt := 22) hx hb dX11_span_8 (by decide) (fun c_8 => ?_) (fun c_8 => ?_)
  · replace h := ez_ifp h c_8
    exact K_22   _ _ _ hS h (lv_sub hl [] rfl)
  · replace h := ez_ifn h c_8
    refine lv_aload_n hx hb dX11_span_11 rfl (lv_at hl 0 rfl) ?_
    refine eg_RX11_29 hC hS h dX11_span_12 (fun t_12 h => ?_)
    refine lv_iload_n hx hb dX11_span_15 rfl (lv_at hl 2 rfl) ?_
    refine ez_cVpi (As := [.int x2]) (rest := []) h (fun _ q => c_X3_hasKey q) hC k_X3_hasKey ql_RX11_137 rfl (by decide) hS (fun _ q => ez_rcv q) rfl hl.1 rfl (Nat.le_of_ble_eq_true rfl) ⟨Nat.zero_le _, Nat.zero_le _⟩ dX11_span_16 (fun t_16 H locs hS h => ?_)
    refine lv_if_ne (tgt := 24) hx hb dX11_span_19 (by decide) (fun c_19 => ?_) (fun c_19 => ?_)
    · replace h := ez_ifn h c_19
      refine lv_aload_n hx hb dX11_span_24 rfl (lv_at hl 0 rfl) ?_
      refine eg_RX11_37 hC hS h dX11_span_25 (fun t_25 h => ?_)
      refine lv_aload_n hx hb dX11_span_28 rfl (lv_at hl 0 rfl) ?_
      refine eg_RX11_41 hC hS h dX11_span_29 (fun t_29 h => ?_)
      refine lv_iload_n hx hb dX11_span_32 rfl (lv_at hl 1 rfl) ?_
      refine ez_cVpi (As := [.int x1]) (rest := [.ref (B + t_25)]) h (fun _ q => c_X7_bits q) hC k_X7_bits ql_RX11_140 rfl (by decide) hS (fun _ q => ez_rcv q) rfl hl.1 rfl (Nat.le_of_ble_eq_true rfl) ⟨Nat.zero_le _, Nat.zero_le _⟩ dX11_span_33 (fun t_33 H locs hS h => ?_)
      refine lv_aload_n hx hb dX11_span_36 rfl (lv_at hl 0 rfl) ?_
      refine eg_RX11_41 hC hS h dX11_span_37 (fun t_37 h => ?_)
      refine lv_iload_n hx hb dX11_span_40 rfl (lv_at hl 2 rfl) ?_
      refine ez_cVpi (As := [.int x2]) (rest := [.int t_33, .ref (B + t_25)]) h (fun _ q => c_X7_bits q) hC k_X7_bits ql_RX11_140 rfl (by decide) hS (fun _ q => ez_rcv q) rfl hl.1 rfl (Nat.le_of_ble_eq_true rfl) ⟨Nat.zero_le _, Nat.zero_le _⟩ dX11_span_41 (fun t_41 H locs hS h => ?_)
      refine ez_cVpi (As := [.int t_33, .int t_41]) (rest := []) h (fun _ q => c_X6_apart q) hC k_X6_apart ql_RX11_343 rfl (by decide) hS (fun _ q => ez_rcv q) rfl hl.1 rfl (Nat.le_of_ble_eq_true rfl) ⟨Nat.zero_le _, Nat.zero_le _⟩ dX11_span_44 (fun t_44 H locs hS h => ?_)
      exact hret _ _ _ _ _ (Option.some.inj h) rfl hS dX11_span_47
    · replace h := ez_ifp h c_19
      exact K_22   _ _ _ hS h (lv_sub hl [] rfl)
set_option maxHeartbeats 4000000 in
set_option maxRecDepth 100000 in
theorem c_X11_strays {l : Launch} {X : ez_X} {B : Nat} {σ : ez_H} {h0 : Nat} {x1 : Int32} {z : Int32} (h : z_X11_strays σ h0 x1 = some z) : ez_M l X B σ yX11_strays cX11_strays 2 (some .int) 6 [.ref (B + h0), .int x1] (some (.int z)) σ := by
  refine ez_startip (z := z) (by decide) (Nat.le_of_ble_eq_true rfl) (fun p e R s m args below meth c Q hC hret hS ls hl => ?_)
  have hC : ez_C p R s m args c X B RX11 cX11_strays 2 6 := hC
  have hx := hC.1.1
  have hb := hC.1.2.1
  have hown := hC.1.2.2.2.1
  have hts := hC.1.2.2.2.2
  have hl : lv_has ls 2 [(0, .ref (B + h0)), (1, .int x1)] := hl
  obtain ⟨n0, e0⟩ : ∃ n0 : Nat, n0 = σ.length := ⟨_, rfl⟩
  rw [← e0] at hret hS
  obtain ⟨-, h⟩ := ez_in h
  refine lv_aload_n hx hb dX11_strays_0 rfl (lv_at hl 0 rfl) ?_
  refine eg_RX11_86 hC hS h dX11_strays_1 (fun t_1 h => ?_)
  refine lv_iload_n hx hb dX11_strays_4 rfl (lv_at hl 1 rfl) ?_
  refine lv_iconst (v := 1) hx hb dX11_strays_5 (by decide) ?_
  refine ez_cVpi (As := [.int x1, .int 1]) (rest := []) h (fun _ q => c_X5_tellPairs q) hC k_X5_tellPairs ql_RX11_346 rfl (by decide) hS (fun _ q => ez_rcv q) rfl hl.1 rfl (Nat.le_of_ble_eq_true rfl) ⟨Nat.zero_le _, Nat.zero_le _⟩ dX11_strays_6 (fun t_6 H locs hS h => ?_)
  exact hret _ _ _ _ _ (Option.some.inj h) rfl hS dX11_strays_9
set_option maxHeartbeats 4000000 in
set_option maxRecDepth 100000 in
theorem c_X11_stuck {l : Launch} {X : ez_X} {B : Nat} {σ : ez_H} {h0 : Nat} {z : Int32} (h : z_X11_stuck σ h0 = some z) : ez_M l X B σ yX11_stuck cX11_stuck 2 (some .int) 3 [.ref (B + h0)] (some (.int z)) σ := by
  refine ez_startip (z := z) (by decide) (Nat.le_of_ble_eq_true rfl) (fun p e R s m args below meth c Q hC hret hS ls hl => ?_)
  have hC : ez_C p R s m args c X B RX11 cX11_stuck 2 3 := hC
  have hx := hC.1.1
  have hb := hC.1.2.1
  have hown := hC.1.2.2.2.1
  have hts := hC.1.2.2.2.2
  have hl : lv_has ls 2 [(0, .ref (B + h0))] := hl
  obtain ⟨n0, e0⟩ : ∃ n0 : Nat, n0 = σ.length := ⟨_, rfl⟩
  rw [← e0] at hret hS
  obtain ⟨-, h⟩ := ez_in h
  refine lv_aload_n hx hb dX11_stuck_0 rfl (lv_at hl 0 rfl) ?_
  refine eg_RX11_29 hC hS h dX11_stuck_1 (fun t_1 h => ?_)
  refine ez_cVpi (As := []) (rest := []) h (fun _ q => c_X3_allKeys q) hC k_X3_allKeys ql_RX11_386 rfl (by decide) hS (fun _ q => ez_rcv q) rfl hl.1 rfl (Nat.le_of_ble_eq_true rfl) ⟨Nat.zero_le _, Nat.zero_le _⟩ dX11_stuck_4 (fun t_4 H locs hS h => ?_)
  refine lv_aload_n hx hb dX11_stuck_7 rfl (lv_at hl 0 rfl) ?_
  refine eg_RX11_41 hC hS h dX11_stuck_8 (fun t_8 h => ?_)
  refine lv_bipush (v := -2) hx hb dX11_stuck_11 (by decide) ?_
  refine lv_aload_n hx hb dX11_stuck_13 rfl (lv_at hl 0 rfl) ?_
  refine eg_RX11_29 hC hS h dX11_stuck_14 (fun t_14 h => ?_)
  refine eg_RX11_128 hC hS h dX11_stuck_17 (fun t_17 h => ?_)
  refine ez_cVpi (As := [.int (-2), .int t_17]) (rest := [.int t_4]) h (fun _ q => c_X7_heldBy q) hC k_X7_heldBy ql_RX11_206 rfl (by decide) hS (fun _ q => ez_rcv q) rfl hl.1 rfl (Nat.le_of_ble_eq_true rfl) ⟨Nat.zero_le _, Nat.zero_le _⟩ dX11_stuck_20 (fun t_20 H locs hS h => ?_)
  refine lv_iconst (v := -1) hx hb dX11_stuck_23 (by decide) ?_
  refine lv_ixor hx hb dX11_stuck_24 ?_
  refine ez_top h (fun t_24 h => ?_)
  refine lv_iand hx hb dX11_stuck_25 ?_
  refine ez_top h (fun t_25 h => ?_)
  refine lv_istore_n (lv' := [(1, .int t_25), (0, .ref (B + h0))]) hx hb dX11_stuck_26 rfl hl (by decide) rfl (fun ls hl => ?_)
  refine lv_aload_n hx hb dX11_stuck_27 rfl (lv_at hl 1 rfl) ?_
  refine eg_RX11_29 hC hS h dX11_stuck_28 (fun t_28 h => ?_)
  refine ez_cVpi (As := []) (rest := []) h (fun _ q => c_X3_allLocks q) hC k_X3_allLocks ql_RX11_383 rfl (by decide) hS (fun _ q => ez_rcv q) rfl hl.1 rfl (Nat.le_of_ble_eq_true rfl) ⟨Nat.zero_le _, Nat.zero_le _⟩ dX11_stuck_31 (fun t_31 H locs hS h => ?_)
  refine lv_aload_n hx hb dX11_stuck_34 rfl (lv_at hl 1 rfl) ?_
  refine eg_RX11_79 hC hS h dX11_stuck_35 (fun t_35 h => ?_)
  refine lv_iload_n hx hb dX11_stuck_38 rfl (lv_at hl 0 rfl) ?_
  refine ez_cVpi (As := [.int t_25]) (rest := [.int t_31]) h (fun _ q => c_X2_locksFor q) hC k_X2_locksFor ql_RX11_155 rfl (by decide) hS (fun _ q => ez_rcv q) rfl hl.1 rfl (Nat.le_of_ble_eq_true rfl) ⟨Nat.zero_le _, Nat.zero_le _⟩ dX11_stuck_39 (fun t_39 H locs hS h => ?_)
  refine lv_iconst (v := -1) hx hb dX11_stuck_42 (by decide) ?_
  refine lv_ixor hx hb dX11_stuck_43 ?_
  refine ez_top h (fun t_43 h => ?_)
  refine lv_iand hx hb dX11_stuck_44 ?_
  refine ez_top h (fun t_44 h => ?_)
  exact hret _ _ _ _ _ (Option.some.inj h) rfl hS dX11_stuck_45
set_option maxHeartbeats 4000000 in
set_option maxRecDepth 100000 in
theorem c_X8_depthsMet {l : Launch} {X : ez_X} {B : Nat} {σ : ez_H} {h0 : Nat} {x1 : Int32} {x2 : Int32} {z : Int32} (h : z_X8_depthsMet σ h0 x1 x2 = some z) : ez_M l X B σ yX8_depthsMet cX8_depthsMet 5 (some .int) 1 [.ref (B + h0), .int x1, .int x2] (some (.int z)) σ := by
  refine ez_startip (z := z) (by decide) (Nat.le_of_ble_eq_true rfl) (fun p e R s m args below meth c Q hC hret hS ls hl => ?_)
  have hC : ez_C p R s m args c X B RX8 cX8_depthsMet 5 1 := hC
  have hx := hC.1.1
  have hb := hC.1.2.1
  have hown := hC.1.2.2.2.1
  have hts := hC.1.2.2.2.2
  have hl : lv_has ls 5 [(0, .ref (B + h0)), (1, .int x1), (2, .int x2)] := hl
  obtain ⟨n0, e0⟩ : ∃ n0 : Nat, n0 = σ.length := ⟨_, rfl⟩
  rw [← e0] at hret hS
  obtain ⟨-, h⟩ := ez_in h
  have K_33 : ∀ (k_5 : Nat → Int32 → Int32 → Int32 → Int32 → Option (Int32)) (hk_5 : ∀ (h0 : Nat) (x1 : Int32) (x2 : Int32) (x3 : Int32) (x4 : Int32) (H : Heap) (locs : List Loc) (ls : Array Slot), ez_S X B s.heap (n0) σ H locs → k_5 h0 x1 x2 x3 x4 = some z → lv_has ls 5 [(0, .ref (B + h0)), (1, .int x1), (2, .int x2), (3, .int x3), (4, .int x4)] → W p l e R s m args below meth c H locs 0 0 Q (F0 m 5 ls [])), ∀ (h0 : Nat) (x1 : Int32) (x2 : Int32) (x3 : Int32) (x4 : Int32) (H : Heap) (locs : List Loc) (ls : Array Slot), ez_S X B s.heap (n0) σ H locs → z_X8_depthsMet_33 σ k_5 h0 x1 x2 x3 x4 = some z → lv_has ls 5 [(0, .ref (B + h0)), (1, .int x1), (2, .int x2), (3, .int x3), (4, .int x4)] → W p l e R s m args below meth c H locs 0 0 Q (F0 m 33 ls []) := by
    intro k_5 hk_5 h0 x1 x2 x3 x4 H locs ls hS h hl
    obtain ⟨t_33, e_33, h⟩ := ez_let_sp h
    refine lv_iinc (v := t_33) (lv' := [(4, .int t_33), (0, .ref (B + h0)), (1, .int x1), (2, .int x2), (3, .int x3)]) hx hb dX8_depthsMet_33 hl (k := 4) rfl (by rw [e_33]; rfl) (by decide) rfl (fun ls hl => ?_)
    refine lv_goto (tgt := 5) hx hb dX8_depthsMet_36 (by decide) ?_
    exact hk_5 h0 x1 x2 x3 t_33 _ _ _ hS h (lv_sub hl [1, 2, 3, 4, 0] rfl)
  have K_5 : ∀ (k_5 : Nat → Int32 → Int32 → Int32 → Int32 → Option (Int32)) (hk_5 : ∀ (h0 : Nat) (x1 : Int32) (x2 : Int32) (x3 : Int32) (x4 : Int32) (H : Heap) (locs : List Loc) (ls : Array Slot), ez_S X B s.heap (n0) σ H locs → k_5 h0 x1 x2 x3 x4 = some z → lv_has ls 5 [(0, .ref (B + h0)), (1, .int x1), (2, .int x2), (3, .int x3), (4, .int x4)] → W p l e R s m args below meth c H locs 0 0 Q (F0 m 5 ls [])), ∀ (h0 : Nat) (x1 : Int32) (x2 : Int32) (x3 : Int32) (x4 : Int32) (H : Heap) (locs : List Loc) (ls : Array Slot), ez_S X B s.heap (n0) σ H locs → z_X8_depthsMet_5 σ k_5 h0 x1 x2 x3 x4 = some z → lv_has ls 5 [(0, .ref (B + h0)), (1, .int x1), (2, .int x2), (3, .int x3), (4, .int x4)] → W p l e R s m args below meth c H locs 0 0 Q (F0 m 5 ls []) := by
    intro k_5 hk_5 h0 x1 x2 x3 x4 H locs ls hS h hl
    refine lv_iload hx hb dX8_depthsMet_5 (lv_at hl 4 rfl) ?_
    refine lv_bipush (v := 64) hx hb dX8_depthsMet_7 (by decide) ?_
    refine lv_icmp_ge (tgt := 39) hx hb dX8_depthsMet_9 (by decide) (fun c_9 => ?_) (fun c_9 => ?_)
    · replace h := ez_ifp h c_9
      refine lv_iload_n hx hb dX8_depthsMet_39 rfl (lv_at hl 3 rfl) ?_
      exact hret _ _ _ _ _ (Option.some.inj h) rfl hS dX8_depthsMet_40
    · replace h := ez_ifn h c_9
      refine lv_aload_n hx hb dX8_depthsMet_12 rfl (lv_at hl 0 rfl) ?_
      refine lv_iload hx hb dX8_depthsMet_13 (lv_at hl 4 rfl) ?_
      refine lv_iload_n hx hb dX8_depthsMet_15 rfl (lv_at hl 1 rfl) ?_
      refine lv_iload_n hx hb dX8_depthsMet_16 rfl (lv_at hl 2 rfl) ?_
      refine ez_cVpi (As := [.int x4, .int x1, .int x2]) (rest := []) h (fun _ q => c_X8_isSuch q) hC k_X8_isSuch ql_RX8_120 rfl (by decide) hS (fun _ q => ez_rcv q) rfl hl.1 rfl (Nat.le_of_ble_eq_true rfl) ⟨Nat.zero_le _, Nat.zero_le _⟩ dX8_depthsMet_17 (fun t_17 H locs hS h => ?_)
      refine lv_if_eq (tgt := 33) hx hb dX8_depthsMet_20 (by decide) (fun c_20 => ?_) (fun c_20 => ?_)
      · replace h := ez_ifp h c_20
        exact K_33 k_5 hk_5 h0 x1 x2 x3 x4 _ _ _ hS h (lv_sub hl [0, 1, 2, 3, 4] rfl)
      · replace h := ez_ifn h c_20
        refine lv_iload_n hx hb dX8_depthsMet_23 rfl (lv_at hl 3 rfl) ?_
        refine lv_aload_n hx hb dX8_depthsMet_24 rfl (lv_at hl 0 rfl) ?_
        refine eg_RX8_53 hC hS h dX8_depthsMet_25 (fun t_25 h => ?_)
        refine lv_iload hx hb dX8_depthsMet_28 (lv_at hl 4 rfl) ?_
        refine ez_ial hC hS h dX8_depthsMet_30 (fun t_30 h => ?_)
        refine lv_ior hx hb dX8_depthsMet_31 ?_
        refine ez_top h (fun t_31 h => ?_)
        refine lv_istore_n (lv' := [(3, .int t_31), (0, .ref (B + h0)), (1, .int x1), (2, .int x2), (4, .int x4)]) hx hb dX8_depthsMet_32 rfl hl (by decide) rfl (fun ls hl => ?_)
        exact K_33 k_5 hk_5 h0 x1 x2 t_31 x4 _ _ _ hS h (lv_sub hl [1, 2, 3, 0, 4] rfl)
  have E_5 : ∀ (h0 : Nat) (x1 : Int32) (x2 : Int32) (x3 : Int32) (x4 : Int32) (H : Heap) (locs : List Loc) (ls : Array Slot), ez_S X B s.heap (n0) σ H locs → (ez_fix (fun _ _ _ _ _ => none) (z_X8_depthsMet_5 σ) ez_N) h0 x1 x2 x3 x4 = some z → lv_has ls 5 [(0, .ref (B + h0)), (1, .int x1), (2, .int x2), (3, .int x3), (4, .int x4)] → W p l e R s m args below meth c H locs 0 0 Q (F0 m 5 ls []) := ez_fix_ind (fun k_5 : Nat → Int32 → Int32 → Int32 → Int32 → Option (Int32) => ∀ (h0 : Nat) (x1 : Int32) (x2 : Int32) (x3 : Int32) (x4 : Int32) (H : Heap) (locs : List Loc) (ls : Array Slot), ez_S X B s.heap (n0) σ H locs → k_5 h0 x1 x2 x3 x4 = some z → lv_has ls 5 [(0, .ref (B + h0)), (1, .int x1), (2, .int x2), (3, .int x3), (4, .int x4)] → W p l e R s m args below meth c H locs 0 0 Q (F0 m 5 ls [])) (fun _ _ _ _ _ _ _ _ _ h _ => by cases h) (fun k_5 hk_5 => K_5 k_5 hk_5) ez_N
  refine lv_iconst (v := 0) hx hb dX8_depthsMet_0 (by decide) ?_
  refine lv_istore_n (lv' := [(3, .int 0), (0, .ref (B + h0)), (1, .int x1), (2, .int x2)]) hx hb dX8_depthsMet_1 rfl hl (by decide) rfl (fun ls hl => ?_)
  refine lv_iconst (v := 0) hx hb dX8_depthsMet_2 (by decide) ?_
  refine lv_istore (lv' := [(4, .int 0), (3, .int 0), (0, .ref (B + h0)), (1, .int x1), (2, .int x2)]) hx hb dX8_depthsMet_3 hl (by decide) rfl (fun ls hl => ?_)
  exact E_5  h0 x1 x2 (0 : Int32) (0 : Int32) _ _ _ hS h (lv_sub hl [2, 3, 4, 1, 0] rfl)
set_option maxHeartbeats 4000000 in
set_option maxRecDepth 100000 in
theorem c_X11_sure {l : Launch} {X : ez_X} {B : Nat} {σ : ez_H} {h0 : Nat} {x1 : Int32} {x2 : Int32} {z : Int32 × ez_H} (h : z_X11_sure σ h0 x1 x2 = some z) : ez_M l X B σ yX11_sure cX11_sure 4 (some .int) 5 [.ref (B + h0), .int x1, .int x2] (some (.int z.1)) z.2 := by
  refine ez_starti (z := z) (by decide) (Nat.le_of_ble_eq_true rfl) (fun p e R s m args below meth c Q hC hret hS ls hl => ?_)
  have hC : ez_C p R s m args c X B RX11 cX11_sure 4 5 := hC
  have hx := hC.1.1
  have hb := hC.1.2.1
  have hown := hC.1.2.2.2.1
  have hts := hC.1.2.2.2.2
  have hl : lv_has ls 4 [(0, .ref (B + h0)), (1, .int x1), (2, .int x2)] := hl
  obtain ⟨σ0, eσ⟩ : ∃ σ0 : ez_H, σ0 = σ := ⟨_, rfl⟩
  rw [← eσ] at hret
  have hS : ez_S X B s.heap σ0.length σ s.heap [] := eσ ▸ hS
  obtain ⟨-, h⟩ := ez_in h
  have K_19 : ∀ (σ : ez_H) (H : Heap) (locs : List Loc) (ls : Array Slot), ez_S X B s.heap (σ0.length) σ H locs → z_X11_sure_19 σ = some z → lv_has ls 4 [] → W p l e R s m args below meth c H locs 0 0 Q (F0 m 19 ls []) := by
    intro σ H locs ls hS h hl
    refine lv_iconst (v := -1) hx hb dX11_sure_19 (by decide) ?_
    exact hret _ _ _ _ _ _ (Option.some.inj h) rfl hS dX11_sure_20
  have K_68 : ∀ (σ : ez_H) (y0 : Int32) (H : Heap) (locs : List Loc) (ls : Array Slot), ez_S X B s.heap (σ0.length) σ H locs → z_X11_sure_68 σ y0 = some z → lv_has ls 4 [] → W p l e R s m args below meth c H locs 0 0 Q (F0 m 68 ls [.int y0]) := by
    intro σ y0 H locs ls hS h hl
    exact hret _ _ _ _ _ _ (Option.some.inj h) rfl hS dX11_sure_68
  refine lv_aload_n hx hb dX11_sure_0 rfl (lv_at hl 0 rfl) ?_
  refine eg_RX11_37 hC hS h dX11_sure_1 (fun t_1 h => ?_)
  refine lv_iload_n hx hb dX11_sure_4 rfl (lv_at hl 1 rfl) ?_
  refine ez_cVpi (As := [.int x1]) (rest := []) h (fun _ q => c_X6_hasChamber q) hC k_X6_hasChamber ql_RX11_158 rfl (by decide) hS (fun _ q => ez_rcv q) rfl hl.1 rfl (Nat.le_of_ble_eq_true rfl) ⟨Nat.zero_le _, Nat.zero_le _⟩ dX11_sure_5 (fun t_5 H locs hS h => ?_)
  refine lv_if_eq (tgt := 19) hx hb dX11_sure_8 (by decide) (fun c_8 => ?_) (fun c_8 => ?_)
  · replace h := ez_ifp h c_8
    exact K_19  σ _ _ _ hS h (lv_sub hl [] rfl)
  · replace h := ez_ifn h c_8
    refine lv_aload_n hx hb dX11_sure_11 rfl (lv_at hl 0 rfl) ?_
    refine lv_iload_n hx hb dX11_sure_12 rfl (lv_at hl 2 rfl) ?_
    refine ez_cVi (As := [.int x2]) (rest := []) h (fun _ q => c_X11_fits q) hC k_X11_fits ql_RX11_415 rfl (by decide) hS (fun _ q => ez_rcv q) rfl hl.1 rfl (Nat.le_of_ble_eq_true rfl) ⟨Nat.zero_le _, Nat.zero_le _⟩ dX11_sure_13 (fun t_13 σ H locs hS h => ?_)
    refine lv_if_ne (tgt := 21) hx hb dX11_sure_16 (by decide) (fun c_16 => ?_) (fun c_16 => ?_)
    · replace h := ez_ifn h c_16
      refine lv_aload_n hx hb dX11_sure_21 rfl (lv_at hl 0 rfl) ?_
      refine eg_RX11_71 hC hS h dX11_sure_22 (fun t_22 h => ?_)
      refine lv_aload_n hx hb dX11_sure_25 rfl (lv_at hl 0 rfl) ?_
      refine eg_RX11_93 hC hS h dX11_sure_26 (fun t_26 h => ?_)
      refine lv_iload_n hx hb dX11_sure_29 rfl (lv_at hl 2 rfl) ?_
      refine lv_iconst (v := 1) hx hb dX11_sure_30 (by decide) ?_
      refine ez_cVpi (As := [.int x2, .int 1]) (rest := [.ref (B + t_22)]) h (fun _ q => c_X10_knownAt q) hC k_X10_knownAt ql_RX11_412 rfl (by decide) hS (fun _ q => ez_rcv q) rfl hl.1 rfl (Nat.le_of_ble_eq_true rfl) ⟨Nat.zero_le _, Nat.zero_le _⟩ dX11_sure_31 (fun t_31 H locs hS h => ?_)
      refine lv_aload_n hx hb dX11_sure_34 rfl (lv_at hl 0 rfl) ?_
      refine eg_RX11_93 hC hS h dX11_sure_35 (fun t_35 h => ?_)
      refine lv_iload_n hx hb dX11_sure_38 rfl (lv_at hl 2 rfl) ?_
      refine lv_iconst (v := 0) hx hb dX11_sure_39 (by decide) ?_
      refine ez_cVpi (As := [.int x2, .int 0]) (rest := [.int t_31, .ref (B + t_22)]) h (fun _ q => c_X10_knownAt q) hC k_X10_knownAt ql_RX11_412 rfl (by decide) hS (fun _ q => ez_rcv q) rfl hl.1 rfl (Nat.le_of_ble_eq_true rfl) ⟨Nat.zero_le _, Nat.zero_le _⟩ dX11_sure_40 (fun t_40 H locs hS h => ?_)
      refine ez_cVpi (As := [.int t_31, .int t_40]) (rest := []) h (fun _ q => c_X8_depthsMet q) hC k_X8_depthsMet ql_RX11_418 rfl (by decide) hS (fun _ q => ez_rcv q) rfl hl.1 rfl (Nat.le_of_ble_eq_true rfl) ⟨Nat.zero_le _, Nat.zero_le _⟩ dX11_sure_43 (fun t_43 H locs hS h => ?_)
      refine lv_iload_n hx hb dX11_sure_46 rfl (lv_at hl 1 rfl) ?_
      refine ez_cSpi (As := [.int t_43, .int x1]) (rest := []) h (fun _ q => c_X6_depthsAt q) hC k_X6_depthsAt ql_RX11_185 rfl (by decide) hS hl.1 rfl (Nat.le_of_ble_eq_true rfl) ⟨Nat.zero_le _, Nat.zero_le _⟩ dX11_sure_47 (fun t_47 H locs hS h => ?_)
      refine lv_istore_n (lv' := [(3, .int t_47), (0, .ref (B + h0)), (1, .int x1), (2, .int x2)]) hx hb dX11_sure_50 rfl hl (by decide) rfl (fun ls hl => ?_)
      refine lv_iload_n hx hb dX11_sure_51 rfl (lv_at hl 0 rfl) ?_
      refine ez_cSpi (As := [.int t_47]) (rest := []) h (fun _ q => c_J6_bitCount_0f7a4 q) hC k_J6_bitCount_0f7a4 ql_RX11_171 rfl (by decide) hS hl.1 rfl (Nat.le_of_ble_eq_true rfl) ⟨Nat.zero_le _, Nat.zero_le _⟩ dX11_sure_52 (fun t_52 H locs hS h => ?_)
      refine lv_iconst (v := 1) hx hb dX11_sure_55 (by decide) ?_
      refine lv_icmp_ne (tgt := 66) hx hb dX11_sure_56 (by decide) (fun c_56 => ?_) (fun c_56 => ?_)
      · replace h := ez_ifn h c_56
        refine lv_bipush (v := -2) hx hb dX11_sure_66 (by decide) ?_
        exact K_68  σ (-2 : Int32) _ _ _ hS h (lv_sub hl [] rfl)
      · replace h := ez_ifp h c_56
        refine lv_iload_n hx hb dX11_sure_59 rfl (lv_at hl 0 rfl) ?_
        refine ez_cSpi (As := [.int t_47]) (rest := []) h (fun _ q => c_J6_numberOfTrailingZeros_0f7a4 q) hC k_J6_numberOfTrailingZeros_0f7a4 ql_RX11_225 rfl (by decide) hS hl.1 rfl (Nat.le_of_ble_eq_true rfl) ⟨Nat.zero_le _, Nat.zero_le _⟩ dX11_sure_60 (fun t_60 H locs hS h => ?_)
        refine lv_goto (tgt := 68) hx hb dX11_sure_63 (by decide) ?_
        exact K_68  σ t_60 _ _ _ hS h (lv_sub hl [] rfl)
    · replace h := ez_ifp h c_16
      exact K_19  σ _ _ _ hS h (lv_sub hl [] rfl)
set_option maxHeartbeats 4000000 in
set_option maxRecDepth 100000 in
theorem c_X2_bunchOf {l : Launch} {X : ez_X} {B : Nat} {σ : ez_H} {h0 : Nat} {x1 : Int32} {z : Int32} (h : z_X2_bunchOf σ h0 x1 = some z) : ez_M l X B σ yX2_bunchOf cX2_bunchOf 2 (some .int) 0 [.ref (B + h0), .int x1] (some (.int z)) σ := by
  refine ez_startip (z := z) (by decide) (Nat.le_of_ble_eq_true rfl) (fun p e R s m args below meth c Q hC hret hS ls hl => ?_)
  have hC : ez_C p R s m args c X B RX2 cX2_bunchOf 2 0 := hC
  have hx := hC.1.1
  have hb := hC.1.2.1
  have hown := hC.1.2.2.2.1
  have hts := hC.1.2.2.2.2
  have hl : lv_has ls 2 [(0, .ref (B + h0)), (1, .int x1)] := hl
  obtain ⟨n0, e0⟩ : ∃ n0 : Nat, n0 = σ.length := ⟨_, rfl⟩
  rw [← e0] at hret hS
  obtain ⟨-, h⟩ := ez_in h
  have K_19 : ∀ (y0 : Int32) (H : Heap) (locs : List Loc) (ls : Array Slot), ez_S X B s.heap (n0) σ H locs → z_X2_bunchOf_19 σ y0 = some z → lv_has ls 2 [] → W p l e R s m args below meth c H locs 0 0 Q (F0 m 19 ls [.int y0]) := by
    intro y0 H locs ls hS h hl
    exact hret _ _ _ _ _ (Option.some.inj h) rfl hS dX2_bunchOf_19
  have K_18 : ∀ (H : Heap) (locs : List Loc) (ls : Array Slot), ez_S X B s.heap (n0) σ H locs → z_X2_bunchOf_18 σ = some z → lv_has ls 2 [] → W p l e R s m args below meth c H locs 0 0 Q (F0 m 18 ls []) := by
    intro  H locs ls hS h hl
    refine lv_iconst (v := 0) hx hb dX2_bunchOf_18 (by decide) ?_
    exact K_19  (0 : Int32) _ _ _ hS h (lv_sub hl [] rfl)
  refine lv_iload_n hx hb dX2_bunchOf_0 rfl (lv_at hl 1 rfl) ?_
  refine lv_if_lt (tgt := 18) hx hb dX2_bunchOf_1 (by decide) (fun c_1 => ?_) (fun c_1 => ?_)
  · replace h := ez_ifp h c_1
    exact K_18   _ _ _ hS h (lv_sub hl [] rfl)
  · replace h := ez_ifn h c_1
    refine lv_iload_n hx hb dX2_bunchOf_4 rfl (lv_at hl 1 rfl) ?_
    refine lv_iconst (v := 4) hx hb dX2_bunchOf_5 (by decide) ?_
    refine lv_icmp_ge (tgt := 18) hx hb dX2_bunchOf_6 (by decide) (fun c_6 => ?_) (fun c_6 => ?_)
    · replace h := ez_ifp h c_6
      exact K_18   _ _ _ hS h (lv_sub hl [] rfl)
    · replace h := ez_ifn h c_6
      refine lv_aload_n hx hb dX2_bunchOf_9 rfl (lv_at hl 0 rfl) ?_
      refine eg_RX2_23 hC hS h dX2_bunchOf_10 (fun t_10 h => ?_)
      refine lv_iload_n hx hb dX2_bunchOf_13 rfl (lv_at hl 1 rfl) ?_
      refine ez_ial hC hS h dX2_bunchOf_14 (fun t_14 h => ?_)
      refine lv_goto (tgt := 19) hx hb dX2_bunchOf_15 (by decide) ?_
      exact K_19  t_14 _ _ _ hS h (lv_sub hl [] rfl)
set_option maxHeartbeats 4000000 in
set_option maxRecDepth 100000 in
theorem c_X2_handOn {l : Launch} {X : ez_X} {B : Nat} {σ : ez_H} {h0 : Nat} {x1 : Int32} {x2 : Int32} {z : Int32 × ez_H} (h : z_X2_handOn σ h0 x1 x2 = some z) : ez_M l X B σ yX2_handOn cX2_handOn 5 (some .boolean) 4 [.ref (B + h0), .int x1, .int x2] (some (.int z.1)) z.2 := by
  refine ez_starti (z := z) (by decide) (Nat.le_of_ble_eq_true rfl) (fun p e R s m args below meth c Q hC hret hS ls hl => ?_)
  have hC : ez_C p R s m args c X B RX2 cX2_handOn 5 4 := hC
  have hx := hC.1.1
  have hb := hC.1.2.1
  have hown := hC.1.2.2.2.1
  have hts := hC.1.2.2.2.2
  have hl : lv_has ls 5 [(0, .ref (B + h0)), (1, .int x1), (2, .int x2)] := hl
  obtain ⟨σ0, eσ⟩ : ∃ σ0 : ez_H, σ0 = σ := ⟨_, rfl⟩
  rw [← eσ] at hret
  have hS : ez_S X B s.heap σ0.length σ s.heap [] := eσ ▸ hS
  obtain ⟨-, h⟩ := ez_in h
  have K_55 : ∀ (σ : ez_H) (H : Heap) (locs : List Loc) (ls : Array Slot), ez_S X B s.heap (σ0.length) σ H locs → z_X2_handOn_55 σ = some z → lv_has ls 5 [] → W p l e R s m args below meth c H locs 0 0 Q (F0 m 55 ls []) := by
    intro σ H locs ls hS h hl
    refine lv_iconst (v := 0) hx hb dX2_handOn_55 (by decide) ?_
    have hn : narrow .boolean (.int 0) = .int 0 := by decide
    exact hret _ _ _ _ _ _ (Option.some.inj h) hn hS dX2_handOn_56
  have K_30 : ∀ (σ : ez_H) (h0 : Nat) (x1 : Int32) (x2 : Int32) (x3 : Int32) (y0 : Int32) (H : Heap) (locs : List Loc) (ls : Array Slot), ez_S X B s.heap (σ0.length) σ H locs → z_X2_handOn_30 σ h0 x1 x2 x3 y0 = some z → lv_has ls 5 [(0, .ref (B + h0)), (1, .int x1), (2, .int x2), (3, .int x3)] → W p l e R s m args below meth c H locs 0 0 Q (F0 m 30 ls [.int y0]) := by
    intro σ h0 x1 x2 x3 y0 H locs ls hS h hl
    refine lv_istore (lv' := [(4, .int y0), (0, .ref (B + h0)), (1, .int x1), (2, .int x2), (3, .int x3)]) hx hb dX2_handOn_30 hl (by decide) rfl (fun ls hl => ?_)
    refine lv_iload hx hb dX2_handOn_32 (lv_at hl 0 rfl) ?_
    refine lv_if_ne (tgt := 55) hx hb dX2_handOn_34 (by decide) (fun c_34 => ?_) (fun c_34 => ?_)
    · replace h := ez_ifn h c_34
      exact K_55  σ _ _ _ hS h (lv_sub hl [] rfl)
    · replace h := ez_ifp h c_34
      refine lv_iload_n hx hb dX2_handOn_37 rfl (lv_at hl 2 rfl) ?_
      refine lv_if_lt (tgt := 55) hx hb dX2_handOn_38 (by decide) (fun c_38 => ?_) (fun c_38 => ?_)
      · replace h := ez_ifp h c_38
        exact K_55  σ _ _ _ hS h (lv_sub hl [] rfl)
      · replace h := ez_ifn h c_38
        refine lv_iload_n hx hb dX2_handOn_41 rfl (lv_at hl 3 rfl) ?_
        refine lv_if_lt (tgt := 55) hx hb dX2_handOn_42 (by decide) (fun c_42 => ?_) (fun c_42 => ?_)
        · replace h := ez_ifp h c_42
          exact K_55  σ _ _ _ hS h (lv_sub hl [] rfl)
        · replace h := ez_ifn h c_42
          refine lv_iload_n hx hb dX2_handOn_45 rfl (lv_at hl 2 rfl) ?_
          refine lv_iconst (v := 4) hx hb dX2_handOn_46 (by decide) ?_
          refine lv_icmp_ge (tgt := 55) hx hb dX2_handOn_47 (by decide) (fun c_47 => ?_) (fun c_47 => ?_)
          · replace h := ez_ifp h c_47
            exact K_55  σ _ _ _ hS h (lv_sub hl [] rfl)
          · replace h := ez_ifn h c_47
            refine lv_iload_n hx hb dX2_handOn_50 rfl (lv_at hl 3 rfl) ?_
            refine lv_iconst (v := 4) hx hb dX2_handOn_51 (by decide) ?_
            refine lv_icmp_lt (tgt := 57) hx hb dX2_handOn_52 (by decide) (fun c_52 => ?_) (fun c_52 => ?_)
            · replace h := ez_ifp h c_52
              refine lv_aload_n hx hb dX2_handOn_57 rfl (lv_at hl 1 rfl) ?_
              refine lv_iload_n hx hb dX2_handOn_58 rfl (lv_at hl 2 rfl) ?_
              refine lv_aload_n hx hb dX2_handOn_59 rfl (lv_at hl 1 rfl) ?_
              refine lv_iload_n hx hb dX2_handOn_60 rfl (lv_at hl 2 rfl) ?_
              refine ez_cVpi (As := [.int x1]) (rest := [.int x1, .ref (B + h0)]) h (fun _ q => c_X2_bunchOf q) hC k_X2_bunchOf ql_RX2_126 rfl (by decide) hS (fun _ q => ez_rcv q) rfl hl.1 rfl (Nat.le_of_ble_eq_true rfl) ⟨Nat.zero_le _, Nat.zero_le _⟩ dX2_handOn_61 (fun t_61 H locs hS h => ?_)
              refine ez_cVpi (As := [.int x1, .int t_61]) (rest := []) h (fun _ q => c_X2_reachWith q) hC k_X2_reachWith ql_RX2_81 rfl (by decide) hS (fun _ q => ez_rcv q) rfl hl.1 rfl (Nat.le_of_ble_eq_true rfl) ⟨Nat.zero_le _, Nat.zero_le _⟩ dX2_handOn_64 (fun t_64 H locs hS h => ?_)
              refine lv_aload_n hx hb dX2_handOn_67 rfl (lv_at hl 1 rfl) ?_
              refine lv_iload_n hx hb dX2_handOn_68 rfl (lv_at hl 3 rfl) ?_
              refine lv_aload_n hx hb dX2_handOn_69 rfl (lv_at hl 1 rfl) ?_
              refine lv_iload_n hx hb dX2_handOn_70 rfl (lv_at hl 3 rfl) ?_
              refine ez_cVpi (As := [.int x2]) (rest := [.int x2, .ref (B + h0), .int t_64]) h (fun _ q => c_X2_bunchOf q) hC k_X2_bunchOf ql_RX2_126 rfl (by decide) hS (fun _ q => ez_rcv q) rfl hl.1 rfl (Nat.le_of_ble_eq_true rfl) ⟨Nat.zero_le _, Nat.zero_le _⟩ dX2_handOn_71 (fun t_71 H locs hS h => ?_)
              refine ez_cVpi (As := [.int x2, .int t_71]) (rest := [.int t_64]) h (fun _ q => c_X2_reachWith q) hC k_X2_reachWith ql_RX2_81 rfl (by decide) hS (fun _ q => ez_rcv q) rfl hl.1 rfl (Nat.le_of_ble_eq_true rfl) ⟨Nat.zero_le _, Nat.zero_le _⟩ dX2_handOn_74 (fun t_74 H locs hS h => ?_)
              refine lv_iand hx hb dX2_handOn_77 ?_
              refine ez_top h (fun t_77 h => ?_)
              refine lv_if_ne (tgt := 83) hx hb dX2_handOn_78 (by decide) (fun c_78 => ?_) (fun c_78 => ?_)
              · replace h := ez_ifn h c_78
                refine lv_aload_n hx hb dX2_handOn_83 rfl (lv_at hl 1 rfl) ?_
                refine eg_RX2_23 hC hS h dX2_handOn_84 (fun t_84 h => ?_)
                refine lv_iload_n hx hb dX2_handOn_87 rfl (lv_at hl 2 rfl) ?_
                refine lv_iload_n hx hb dX2_handOn_88 rfl (lv_at hl 4 rfl) ?_
                refine ez_ias hC hS h dX2_handOn_89 (fun σ H locs hS h => ?_)
                refine lv_aload_n hx hb dX2_handOn_90 rfl (lv_at hl 1 rfl) ?_
                refine eg_RX2_23 hC hS h dX2_handOn_91 (fun t_91 h => ?_)
                refine lv_iload_n hx hb dX2_handOn_94 rfl (lv_at hl 3 rfl) ?_
                refine lv_iload_n hx hb dX2_handOn_95 rfl (lv_at hl 4 rfl) ?_
                refine ez_ias hC hS h dX2_handOn_96 (fun σ H locs hS h => ?_)
                refine lv_iconst (v := 1) hx hb dX2_handOn_97 (by decide) ?_
                have hn : narrow .boolean (.int 1) = .int 1 := by decide
                exact hret _ _ _ _ _ _ (Option.some.inj h) hn hS dX2_handOn_98
              · replace h := ez_ifp h c_78
                refine lv_iconst (v := 0) hx hb dX2_handOn_81 (by decide) ?_
                have hn : narrow .boolean (.int 0) = .int 0 := by decide
                exact hret _ _ _ _ _ _ (Option.some.inj h) hn hS dX2_handOn_82
            · replace h := ez_ifn h c_52
              exact K_55  σ _ _ _ hS h (lv_sub hl [] rfl)
  refine lv_aload_n hx hb dX2_handOn_0 rfl (lv_at hl 0 rfl) ?_
  refine lv_iload_n hx hb dX2_handOn_1 rfl (lv_at hl 1 rfl) ?_
  refine ez_cVpi (As := [.int x1]) (rest := []) h (fun _ q => c_X2_bunchOf q) hC k_X2_bunchOf ql_RX2_126 rfl (by decide) hS (fun _ q => ez_rcv q) rfl hl.1 rfl (Nat.le_of_ble_eq_true rfl) ⟨Nat.zero_le _, Nat.zero_le _⟩ dX2_handOn_2 (fun t_2 H locs hS h => ?_)
  refine lv_aload_n hx hb dX2_handOn_5 rfl (lv_at hl 0 rfl) ?_
  refine lv_iload_n hx hb dX2_handOn_6 rfl (lv_at hl 2 rfl) ?_
  refine ez_cVpi (As := [.int x2]) (rest := [.int t_2]) h (fun _ q => c_X2_bunchOf q) hC k_X2_bunchOf ql_RX2_126 rfl (by decide) hS (fun _ q => ez_rcv q) rfl hl.1 rfl (Nat.le_of_ble_eq_true rfl) ⟨Nat.zero_le _, Nat.zero_le _⟩ dX2_handOn_7 (fun t_7 H locs hS h => ?_)
  refine lv_ior hx hb dX2_handOn_10 ?_
  refine ez_top h (fun t_10 h => ?_)
  refine lv_istore_n (lv' := [(3, .int t_10), (0, .ref (B + h0)), (1, .int x1), (2, .int x2)]) hx hb dX2_handOn_11 rfl hl (by decide) rfl (fun ls hl => ?_)
  refine lv_aload_n hx hb dX2_handOn_12 rfl (lv_at hl 1 rfl) ?_
  refine lv_iload_n hx hb dX2_handOn_13 rfl (lv_at hl 2 rfl) ?_
  refine ez_cVpi (As := [.int x1]) (rest := []) h (fun _ q => c_X2_bunchOf q) hC k_X2_bunchOf ql_RX2_126 rfl (by decide) hS (fun _ q => ez_rcv q) rfl hl.1 rfl (Nat.le_of_ble_eq_true rfl) ⟨Nat.zero_le _, Nat.zero_le _⟩ dX2_handOn_14 (fun t_14 H locs hS h => ?_)
  refine lv_aload_n hx hb dX2_handOn_17 rfl (lv_at hl 1 rfl) ?_
  refine lv_iload_n hx hb dX2_handOn_18 rfl (lv_at hl 3 rfl) ?_
  refine ez_cVpi (As := [.int x2]) (rest := [.int t_14]) h (fun _ q => c_X2_bunchOf q) hC k_X2_bunchOf ql_RX2_126 rfl (by decide) hS (fun _ q => ez_rcv q) rfl hl.1 rfl (Nat.le_of_ble_eq_true rfl) ⟨Nat.zero_le _, Nat.zero_le _⟩ dX2_handOn_19 (fun t_19 H locs hS h => ?_)
  refine lv_icmp_ne (tgt := 29) hx hb dX2_handOn_22 (by decide) (fun c_22 => ?_) (fun c_22 => ?_)
  · replace h := ez_ifn h c_22
    refine lv_iconst (v := 0) hx hb dX2_handOn_29 (by decide) ?_
    exact K_30  σ h0 x1 x2 t_10 (0 : Int32) _ _ _ hS h (lv_sub hl [1, 2, 3, 0] rfl)
  · replace h := ez_ifp h c_22
    refine lv_iconst (v := 1) hx hb dX2_handOn_25 (by decide) ?_
    refine lv_goto (tgt := 30) hx hb dX2_handOn_26 (by decide) ?_
    exact K_30  σ h0 x1 x2 t_10 (1 : Int32) _ _ _ hS h (lv_sub hl [1, 2, 3, 0] rfl)
