set_option maxHeartbeats 4000000 in
set_option maxRecDepth 100000 in
theorem c_X9_readNumber {l : Launch} {X : ez_X} {B : Nat} {σ : ez_H} {h0 : Nat} {z : Unit × ez_H} (h : z_X9_readNumber σ h0 = some z) : ez_M l X B σ yX9_readNumber cX9_readNumber 1 (none) 1 [.ref (B + h0)] (none) z.2 := by
  refine ez_startv (z := z) (by decide) (Nat.le_of_ble_eq_true rfl) (fun p e R s m args below meth c Q hC hret hS ls hl => ?_)
  have hC : ez_C p R s m args c X B RX9 cX9_readNumber 1 1 := hC
  have hx := hC.1.1
  have hb := hC.1.2.1
  have hown := hC.1.2.2.2.1
  have hts := hC.1.2.2.2.2
  have hl : lv_has ls 1 [(0, .ref (B + h0))] := hl
  obtain ⟨σ0, eσ⟩ : ∃ σ0 : ez_H, σ0 = σ := ⟨_, rfl⟩
  rw [← eσ] at hret
  have hS : ez_S X B s.heap σ0.length σ s.heap [] := eσ ▸ hS
  obtain ⟨-, h⟩ := ez_in h
  have K_101 : ∀ (σ : ez_H) (y0 : Nat) (y1 : Int32) (H : Heap) (locs : List Loc) (ls : Array Slot), ez_S X B s.heap (σ0.length) σ H locs → z_X9_readNumber_101 σ y0 y1 = some z → lv_has ls 1 [] → W p l e R s m args below meth c H locs 0 0 Q (F0 m 101 ls [.int y1, .ref (B + y0)]) := by
    intro σ y0 y1 H locs ls hS h hl
    refine ep_RX9_59 hC hS h dX9_readNumber_101 (fun σ H locs hS h => ?_)
    exact hret _ _ _ _ _ _ (Option.some.inj h) hS dX9_readNumber_104
  have K_94 : ∀ (σ : ez_H) (y0 : Nat) (H : Heap) (locs : List Loc) (ls : Array Slot), ez_S X B s.heap (σ0.length) σ H locs → z_X9_readNumber_94 σ y0 = some z → lv_has ls 1 [] → W p l e R s m args below meth c H locs 0 0 Q (F0 m 94 ls [.ref (B + y0)]) := by
    intro σ y0 H locs ls hS h hl
    refine lv_bipush (v := 25) hx hb dX9_readNumber_94 (by decide) ?_
    refine lv_goto (tgt := 101) hx hb dX9_readNumber_96 (by decide) ?_
    exact K_101  σ y0 (25 : Int32) _ _ _ hS h (lv_sub hl [] rfl)
  have K_66 : ∀ (σ : ez_H) (h0 : Nat) (H : Heap) (locs : List Loc) (ls : Array Slot), ez_S X B s.heap (σ0.length) σ H locs → z_X9_readNumber_66 σ h0 = some z → lv_has ls 1 [(0, .ref (B + h0))] → W p l e R s m args below meth c H locs 0 0 Q (F0 m 66 ls []) := by
    intro σ h0 H locs ls hS h hl
    refine lv_aload_n hx hb dX9_readNumber_66 rfl (lv_at hl 0 rfl) ?_
    refine lv_aload_n hx hb dX9_readNumber_67 rfl (lv_at hl 0 rfl) ?_
    refine eg_RX9_44 hC hS h dX9_readNumber_68 (fun t_68 h => ?_)
    refine lv_aload_n hx hb dX9_readNumber_71 rfl (lv_at hl 0 rfl) ?_
    refine eg_RX9_56 hC hS h dX9_readNumber_72 (fun t_72 h => ?_)
    refine lv_isub hx hb dX9_readNumber_75 ?_
    refine ez_top h (fun t_75 h => ?_)
    refine lv_iconst (v := 4) hx hb dX9_readNumber_76 (by decide) ?_
    refine lv_icmp_gt (tgt := 94) hx hb dX9_readNumber_77 (by decide) (fun c_77 => ?_) (fun c_77 => ?_)
    · replace h := ez_ifp h c_77
      exact K_94  σ h0 _ _ _ hS h (lv_sub hl [] rfl)
    · replace h := ez_ifn h c_77
      refine lv_aload_n hx hb dX9_readNumber_80 rfl (lv_at hl 0 rfl) ?_
      refine lv_aload_n hx hb dX9_readNumber_81 rfl (lv_at hl 0 rfl) ?_
      refine eg_RX9_44 hC hS h dX9_readNumber_82 (fun t_82 h => ?_)
      refine ez_cVpi (As := [.int t_82]) (rest := [.ref (B + h0)]) h (fun _ q => c_X9_byteAt q) hC k_X9_byteAt ql_RX9_52 rfl (by decide) hS (fun _ q => ez_rcv q) rfl hl.1 rfl (Nat.le_of_ble_eq_true rfl) ⟨Nat.zero_le _, Nat.zero_le _⟩ dX9_readNumber_85 (fun t_85 H locs hS h => ?_)
      refine ez_cSpi (As := [.int t_85]) (rest := [.ref (B + h0)]) h (fun _ q => c_X9_isLetter q) hC k_X9_isLetter ql_RX9_62 rfl (by decide) hS hl.1 rfl (Nat.le_of_ble_eq_true rfl) ⟨Nat.zero_le _, Nat.zero_le _⟩ dX9_readNumber_88 (fun t_88 H locs hS h => ?_)
      refine lv_if_eq (tgt := 99) hx hb dX9_readNumber_91 (by decide) (fun c_91 => ?_) (fun c_91 => ?_)
      · replace h := ez_ifp h c_91
        refine lv_bipush (v := 24) hx hb dX9_readNumber_99 (by decide) ?_
        exact K_101  σ h0 (24 : Int32) _ _ _ hS h (lv_sub hl [] rfl)
      · replace h := ez_ifn h c_91
        exact K_94  σ h0 _ _ _ hS h (lv_sub hl [] rfl)
  have K_5 : ∀ (k_5 : ez_H → Nat → Option (Unit × ez_H)) (hk_5 : ∀ (σ : ez_H) (h0 : Nat) (H : Heap) (locs : List Loc) (ls : Array Slot), ez_S X B s.heap (σ0.length) σ H locs → k_5 σ h0 = some z → lv_has ls 1 [(0, .ref (B + h0))] → W p l e R s m args below meth c H locs 0 0 Q (F0 m 5 ls [])), ∀ (σ : ez_H) (h0 : Nat) (H : Heap) (locs : List Loc) (ls : Array Slot), ez_S X B s.heap (σ0.length) σ H locs → z_X9_readNumber_5 k_5 σ h0 = some z → lv_has ls 1 [(0, .ref (B + h0))] → W p l e R s m args below meth c H locs 0 0 Q (F0 m 5 ls []) := by
    intro k_5 hk_5 σ h0 H locs ls hS h hl
    refine lv_aload_n hx hb dX9_readNumber_5 rfl (lv_at hl 0 rfl) ?_
    refine eg_RX9_44 hC hS h dX9_readNumber_6 (fun t_6 h => ?_)
    refine lv_aload_n hx hb dX9_readNumber_9 rfl (lv_at hl 0 rfl) ?_
    refine eg_RX9_41 hC hS h dX9_readNumber_10 (fun t_10 h => ?_)
    refine lv_icmp_ge (tgt := 66) hx hb dX9_readNumber_13 (by decide) (fun c_13 => ?_) (fun c_13 => ?_)
    · replace h := ez_ifp h c_13
      exact K_66  σ h0 _ _ _ hS h (lv_sub hl [0] rfl)
    · replace h := ez_ifn h c_13
      refine lv_aload_n hx hb dX9_readNumber_16 rfl (lv_at hl 0 rfl) ?_
      refine lv_aload_n hx hb dX9_readNumber_17 rfl (lv_at hl 0 rfl) ?_
      refine eg_RX9_44 hC hS h dX9_readNumber_18 (fun t_18 h => ?_)
      refine ez_cVpi (As := [.int t_18]) (rest := []) h (fun _ q => c_X9_byteAt q) hC k_X9_byteAt ql_RX9_52 rfl (by decide) hS (fun _ q => ez_rcv q) rfl hl.1 rfl (Nat.le_of_ble_eq_true rfl) ⟨Nat.zero_le _, Nat.zero_le _⟩ dX9_readNumber_21 (fun t_21 H locs hS h => ?_)
      refine ez_cSpi (As := [.int t_21]) (rest := []) h (fun _ q => c_X9_isDigit q) hC k_X9_isDigit ql_RX9_69 rfl (by decide) hS hl.1 rfl (Nat.le_of_ble_eq_true rfl) ⟨Nat.zero_le _, Nat.zero_le _⟩ dX9_readNumber_24 (fun t_24 H locs hS h => ?_)
      refine lv_if_eq (tgt := 66) hx hb dX9_readNumber_27 (by decide) (fun c_27 => ?_) (fun c_27 => ?_)
      · replace h := ez_ifp h c_27
        exact K_66  σ h0 _ _ _ hS h (lv_sub hl [0] rfl)
      · replace h := ez_ifn h c_27
        refine lv_aload_n hx hb dX9_readNumber_30 rfl (lv_at hl 0 rfl) ?_
        refine lv_aload_n hx hb dX9_readNumber_31 rfl (lv_at hl 0 rfl) ?_
        refine eg_RX9_84 hC hS h dX9_readNumber_32 (fun t_32 h => ?_)
        refine lv_bipush (v := 10) hx hb dX9_readNumber_35 (by decide) ?_
        refine lv_imul hx hb dX9_readNumber_37 ?_
        refine ez_top h (fun t_37 h => ?_)
        refine lv_aload_n hx hb dX9_readNumber_38 rfl (lv_at hl 0 rfl) ?_
        refine lv_aload_n hx hb dX9_readNumber_39 rfl (lv_at hl 0 rfl) ?_
        refine eg_RX9_44 hC hS h dX9_readNumber_40 (fun t_40 h => ?_)
        refine ez_cVpi (As := [.int t_40]) (rest := [.int t_37, .ref (B + h0)]) h (fun _ q => c_X9_byteAt q) hC k_X9_byteAt ql_RX9_52 rfl (by decide) hS (fun _ q => ez_rcv q) rfl hl.1 rfl (Nat.le_of_ble_eq_true rfl) ⟨Nat.zero_le _, Nat.zero_le _⟩ dX9_readNumber_43 (fun t_43 H locs hS h => ?_)
        refine lv_bipush (v := 48) hx hb dX9_readNumber_46 (by decide) ?_
        refine lv_isub hx hb dX9_readNumber_48 ?_
        refine ez_top h (fun t_48 h => ?_)
        refine lv_iadd hx hb dX9_readNumber_49 ?_
        refine ez_top h (fun t_49 h => ?_)
        refine ep_RX9_84 hC hS h dX9_readNumber_50 (fun σ H locs hS h => ?_)
        refine lv_aload_n hx hb dX9_readNumber_53 rfl (lv_at hl 0 rfl) ?_
        refine lv_dup hx hb dX9_readNumber_54 rfl ?_
        refine eg_RX9_44 hC hS h dX9_readNumber_55 (fun t_55 h => ?_)
        refine lv_iconst (v := 1) hx hb dX9_readNumber_58 (by decide) ?_
        refine lv_iadd hx hb dX9_readNumber_59 ?_
        refine ez_top h (fun t_59 h => ?_)
        refine ep_RX9_44 hC hS h dX9_readNumber_60 (fun σ H locs hS h => ?_)
        refine lv_goto (tgt := 5) hx hb dX9_readNumber_63 (by decide) ?_
        exact hk_5 σ h0 _ _ _ hS h (lv_sub hl [0] rfl)
  have E_5 : ∀ (σ : ez_H) (h0 : Nat) (H : Heap) (locs : List Loc) (ls : Array Slot), ez_S X B s.heap (σ0.length) σ H locs → (ez_fix (fun _ _ => none) (z_X9_readNumber_5) ez_N) σ h0 = some z → lv_has ls 1 [(0, .ref (B + h0))] → W p l e R s m args below meth c H locs 0 0 Q (F0 m 5 ls []) := ez_fix_ind (fun k_5 : ez_H → Nat → Option (Unit × ez_H) => ∀ (σ : ez_H) (h0 : Nat) (H : Heap) (locs : List Loc) (ls : Array Slot), ez_S X B s.heap (σ0.length) σ H locs → k_5 σ h0 = some z → lv_has ls 1 [(0, .ref (B + h0))] → W p l e R s m args below meth c H locs 0 0 Q (F0 m 5 ls [])) (fun _ _ _ _ _ _ h _ => by cases h) (fun k_5 hk_5 => K_5 k_5 hk_5) ez_N
  refine lv_aload_n hx hb dX9_readNumber_0 rfl (lv_at hl 0 rfl) ?_
  refine lv_iconst (v := 0) hx hb dX9_readNumber_1 (by decide) ?_
  refine ep_RX9_84 hC hS h dX9_readNumber_2 (fun σ H locs hS h => ?_)
  exact E_5  σ h0 _ _ _ hS h (lv_sub hl [0] rfl)
set_option maxHeartbeats 4000000 in
set_option maxRecDepth 100000 in
theorem c_J0_isLatin1_aae02_s1 {l : Launch} {X : ez_X} {B : Nat} {σ : ez_H} {z : Int32} (h : z_J0_isLatin1_aae02_s1 σ = some z) : ez_M l X B σ yJ0_isLatin1_aae02 cJ0_isLatin1_aae02 1 (some .boolean) 0 [.ref (X.2.2.1 1)] (some (.int z)) σ := by
  refine ez_startip (z := z) (by decide) (Nat.le_of_ble_eq_true rfl) (fun p e R s m args below meth c Q hC hret hS ls hl => ?_)
  have hC : ez_C p R s m args c X B RJ0 cJ0_isLatin1_aae02 1 0 := hC
  have hx := hC.1.1
  have hb := hC.1.2.1
  have hown := hC.1.2.2.2.1
  have hts := hC.1.2.2.2.2
  have hl : lv_has ls 1 [(0, .ref (X.2.2.1 1))] := hl
  obtain ⟨n0, e0⟩ : ∃ n0 : Nat, n0 = σ.length := ⟨_, rfl⟩
  rw [← e0] at hret hS
  have K_18 : ∀ (y0 : Int32) (H : Heap) (locs : List Loc) (ls : Array Slot), ez_S X B s.heap (n0) σ H locs → z_J0_isLatin1_aae02_s1_18 σ y0 = some z → lv_has ls 1 [] → W p l e R s m args below meth c H locs 0 0 Q (F0 m 18 ls [.int y0]) := by
    intro y0 H locs ls hS h hl
    obtain ⟨hn, h⟩ := ez_nr_sp rfl h
    exact hret _ _ _ _ _ (Option.some.inj h) hn hS dJ0_isLatin1_aae02_18
  refine va_gets hx hb hC.2.2.2.2.2.2.2.1 hS.2.2 hown (hts _ qs_RJ0_38) (fun _ h9 => h9) dJ0_isLatin1_aae02_0 ?_
  refine lv_if_eq (tgt := 17) hx hb dJ0_isLatin1_aae02_3 (by decide) (fun c_3 => ?_) (fun c_3 => ?_)
  · exact absurd c_3 (by decide)
  · skip
    refine lv_aload_n hx hb dJ0_isLatin1_aae02_6 rfl (lv_at hl 0 rfl) ?_
    refine vk_getf hx hb (hC.2.2.2.2.1.1 1 (by decide)).2.1 hS.2.2 hown (hts _ qs_RJ0_15) (fun _ h9 => h9) dJ0_isLatin1_aae02_7 ?_
    refine lv_if_ne (tgt := 17) hx hb dJ0_isLatin1_aae02_10 (by decide) (fun c_10 => ?_) (fun c_10 => ?_)
    · exact absurd c_10 (by decide)
    · skip
      refine lv_iconst (v := 1) hx hb dJ0_isLatin1_aae02_13 (by decide) ?_
      refine lv_goto (tgt := 18) hx hb dJ0_isLatin1_aae02_14 (by decide) ?_
      exact K_18  (1 : Int32) _ _ _ hS h (lv_sub hl [] rfl)
set_option maxHeartbeats 4000000 in
set_option maxRecDepth 100000 in
theorem c_J0_coder_7d493_s1 {l : Launch} {X : ez_X} {B : Nat} {σ : ez_H} {z : Int32} (h : z_J0_coder_7d493_s1 σ = some z) : ez_M l X B σ yJ0_coder_7d493 cJ0_coder_7d493 1 (some .byte) 0 [.ref (X.2.2.1 1)] (some (.int z)) σ := by
  refine ez_startip (z := z) (by decide) (Nat.le_of_ble_eq_true rfl) (fun p e R s m args below meth c Q hC hret hS ls hl => ?_)
  have hC : ez_C p R s m args c X B RJ0 cJ0_coder_7d493 1 0 := hC
  have hx := hC.1.1
  have hb := hC.1.2.1
  have hown := hC.1.2.2.2.1
  have hts := hC.1.2.2.2.2
  have hl : lv_has ls 1 [(0, .ref (X.2.2.1 1))] := hl
  obtain ⟨n0, e0⟩ : ∃ n0 : Nat, n0 = σ.length := ⟨_, rfl⟩
  rw [← e0] at hret hS
  have K_14 : ∀ (y0 : Int32) (H : Heap) (locs : List Loc) (ls : Array Slot), ez_S X B s.heap (n0) σ H locs → z_J0_coder_7d493_s1_14 σ y0 = some z → lv_has ls 1 [] → W p l e R s m args below meth c H locs 0 0 Q (F0 m 14 ls [.int y0]) := by
    intro y0 H locs ls hS h hl
    obtain ⟨hn, h⟩ := ez_nr_sp rfl h
    exact hret _ _ _ _ _ (Option.some.inj h) hn hS dJ0_coder_7d493_14
  refine va_gets hx hb hC.2.2.2.2.2.2.2.1 hS.2.2 hown (hts _ qs_RJ0_38) (fun _ h9 => h9) dJ0_coder_7d493_0 ?_
  refine lv_if_eq (tgt := 13) hx hb dJ0_coder_7d493_3 (by decide) (fun c_3 => ?_) (fun c_3 => ?_)
  · exact absurd c_3 (by decide)
  · skip
    refine lv_aload_n hx hb dJ0_coder_7d493_6 rfl (lv_at hl 0 rfl) ?_
    refine vk_getf hx hb (hC.2.2.2.2.1.1 1 (by decide)).2.1 hS.2.2 hown (hts _ qs_RJ0_15) (fun _ h9 => h9) dJ0_coder_7d493_7 ?_
    refine lv_goto (tgt := 14) hx hb dJ0_coder_7d493_10 (by decide) ?_
    exact K_14  (0 : Int32) _ _ _ hS h (lv_sub hl [] rfl)
set_option maxHeartbeats 4000000 in
set_option maxRecDepth 100000 in
theorem c_J0_length_8abf5_s1 {l : Launch} {X : ez_X} {B : Nat} {σ : ez_H} {z : Int32} (h : z_J0_length_8abf5_s1 σ = some z) : ez_M l X B σ yJ0_length_8abf5 cJ0_length_8abf5 1 (some .int) 1 [.ref (X.2.2.1 1)] (some (.int z)) σ := by
  refine ez_startip (z := z) (by decide) (Nat.le_of_ble_eq_true rfl) (fun p e R s m args below meth c Q hC hret hS ls hl => ?_)
  have hC : ez_C p R s m args c X B RJ0 cJ0_length_8abf5 1 1 := hC
  have hx := hC.1.1
  have hb := hC.1.2.1
  have hown := hC.1.2.2.2.1
  have hts := hC.1.2.2.2.2
  have hl : lv_has ls 1 [(0, .ref (X.2.2.1 1))] := hl
  obtain ⟨n0, e0⟩ : ∃ n0 : Nat, n0 = σ.length := ⟨_, rfl⟩
  rw [← e0] at hret hS
  refine lv_aload_n hx hb dJ0_length_8abf5_0 rfl (lv_at hl 0 rfl) ?_
  refine vk_getf hx hb (hC.2.2.2.2.1.1 1 (by decide)).2.2.1 hS.2.2 hown (hts _ qs_RJ0_9) (fun _ h9 => h9) dJ0_length_8abf5_1 ?_
  refine va_tlen hx hb (hC.2.2.2.2.1.1 1 (by decide)).2.2.2 hS.2.2 (v := 11) (by decide) dJ0_length_8abf5_4 ?_
  refine lv_aload_n hx hb dJ0_length_8abf5_5 rfl (lv_at hl 0 rfl) ?_
  refine ez_cUpi (As := []) (rest := [.int 11]) h (fun _ q => c_J0_coder_7d493_s1 q) hC k_J0_coder_7d493 ql_RJ0_335 rfl (by decide) hS (vk_recv hC.2.2.2.2.1 (i := 1) (by decide) hS.2.2) hl.1 rfl (Nat.le_of_ble_eq_true rfl) ⟨Nat.zero_le _, Nat.zero_le _⟩ dJ0_length_8abf5_6 (fun t_6 H locs hS h => ?_)
  refine lv_ishr hx hb dJ0_length_8abf5_9 ?_
  refine ez_top h (fun t_9 h => ?_)
  exact hret _ _ _ _ _ (Option.some.inj h) rfl hS dJ0_length_8abf5_10
set_option maxHeartbeats 4000000 in
set_option maxRecDepth 100000 in
theorem c_J1_canEncode_9a6ad {l : Launch} {X : ez_X} {B : Nat} {σ : ez_H} {x0 : Int32} {z : Int32} (h : z_J1_canEncode_9a6ad σ x0 = some z) : ez_M l X B σ yJ1_canEncode_9a6ad cJ1_canEncode_9a6ad 1 (some .boolean) 0 [.int x0] (some (.int z)) σ := by
  refine ez_startip (z := z) (by decide) (Nat.le_of_ble_eq_true rfl) (fun p e R s m args below meth c Q hC hret hS ls hl => ?_)
  have hC : ez_C p R s m args c X B RJ1 cJ1_canEncode_9a6ad 1 0 := hC
  have hx := hC.1.1
  have hb := hC.1.2.1
  have hown := hC.1.2.2.2.1
  have hts := hC.1.2.2.2.2
  have hl : lv_has ls 1 [(0, .int x0)] := hl
  obtain ⟨n0, e0⟩ : ∃ n0 : Nat, n0 = σ.length := ⟨_, rfl⟩
  rw [← e0] at hret hS
  have K_16 : ∀ (y0 : Int32) (H : Heap) (locs : List Loc) (ls : Array Slot), ez_S X B s.heap (n0) σ H locs → z_J1_canEncode_9a6ad_16 σ y0 = some z → lv_has ls 1 [] → W p l e R s m args below meth c H locs 0 0 Q (F0 m 16 ls [.int y0]) := by
    intro y0 H locs ls hS h hl
    obtain ⟨hn, h⟩ := ez_nr_sp rfl h
    exact hret _ _ _ _ _ (Option.some.inj h) hn hS dJ1_canEncode_9a6ad_16
  have K_15 : ∀ (H : Heap) (locs : List Loc) (ls : Array Slot), ez_S X B s.heap (n0) σ H locs → z_J1_canEncode_9a6ad_15 σ = some z → lv_has ls 1 [] → W p l e R s m args below meth c H locs 0 0 Q (F0 m 15 ls []) := by
    intro  H locs ls hS h hl
    refine lv_iconst (v := 0) hx hb dJ1_canEncode_9a6ad_15 (by decide) ?_
    exact K_16  (0 : Int32) _ _ _ hS h (lv_sub hl [] rfl)
  refine lv_iload_n hx hb dJ1_canEncode_9a6ad_0 rfl (lv_at hl 0 rfl) ?_
  refine lv_if_lt (tgt := 15) hx hb dJ1_canEncode_9a6ad_1 (by decide) (fun c_1 => ?_) (fun c_1 => ?_)
  · replace h := ez_ifp h c_1
    exact K_15   _ _ _ hS h (lv_sub hl [] rfl)
  · replace h := ez_ifn h c_1
    refine lv_iload_n hx hb dJ1_canEncode_9a6ad_4 rfl (lv_at hl 0 rfl) ?_
    refine lv_sipush (v := 255) hx hb dJ1_canEncode_9a6ad_5 (by decide) ?_
    refine lv_icmp_gt (tgt := 15) hx hb dJ1_canEncode_9a6ad_8 (by decide) (fun c_8 => ?_) (fun c_8 => ?_)
    · replace h := ez_ifp h c_8
      exact K_15   _ _ _ hS h (lv_sub hl [] rfl)
    · replace h := ez_ifn h c_8
      refine lv_iconst (v := 1) hx hb dJ1_canEncode_9a6ad_11 (by decide) ?_
      refine lv_goto (tgt := 16) hx hb dJ1_canEncode_9a6ad_12 (by decide) ?_
      exact K_16  (1 : Int32) _ _ _ hS h (lv_sub hl [] rfl)
set_option maxHeartbeats 4000000 in
set_option maxRecDepth 100000 in
theorem c_J1_indexOfChar_4cfef_v1 {l : Launch} {X : ez_X} {B : Nat} {σ : ez_H} {x1 : Int32} {x2 : Int32} {x3 : Int32} {z : Int32} (h : z_J1_indexOfChar_4cfef_v1 σ x1 x2 x3 = some z) : ez_M l X B σ yJ1_indexOfChar_4cfef cJ1_indexOfChar_4cfef 6 (some .int) 0 [.ref (X.2.2.2 1), .int x1, .int x2, .int x3] (some (.int z)) σ := by
  refine ez_startip (z := z) (by decide) (Nat.le_of_ble_eq_true rfl) (fun p e R s m args below meth c Q hC hret hS ls hl => ?_)
  have hC : ez_C p R s m args c X B RJ1 cJ1_indexOfChar_4cfef 6 0 := hC
  have hx := hC.1.1
  have hb := hC.1.2.1
  have hown := hC.1.2.2.2.1
  have hts := hC.1.2.2.2.2
  have hl : lv_has ls 6 [(0, .ref (X.2.2.2 1)), (1, .int x1), (2, .int x2), (3, .int x3)] := hl
  obtain ⟨n0, e0⟩ : ∃ n0 : Nat, n0 = σ.length := ⟨_, rfl⟩
  rw [← e0] at hret hS
  have K_7 : ∀ (k_7 : Int32 → Int32 → Int32 → Option (Int32)) (hk_7 : ∀ (x3 : Int32) (x4 : Int32) (x5 : Int32) (H : Heap) (locs : List Loc) (ls : Array Slot), ez_S X B s.heap (n0) σ H locs → k_7 x3 x4 x5 = some z → lv_has ls 6 [(0, .ref (X.2.2.2 1)), (3, .int x3), (4, .int x4), (5, .int x5)] → W p l e R s m args below meth c H locs 0 0 Q (F0 m 7 ls [])), ∀ (x3 : Int32) (x4 : Int32) (x5 : Int32) (H : Heap) (locs : List Loc) (ls : Array Slot), ez_S X B s.heap (n0) σ H locs → z_J1_indexOfChar_4cfef_v1_7 σ k_7 x3 x4 x5 = some z → lv_has ls 6 [(0, .ref (X.2.2.2 1)), (3, .int x3), (4, .int x4), (5, .int x5)] → W p l e R s m args below meth c H locs 0 0 Q (F0 m 7 ls []) := by
    intro k_7 hk_7 x3 x4 x5 H locs ls hS h hl
    refine lv_iload hx hb dJ1_indexOfChar_4cfef_7 (lv_at hl 3 rfl) ?_
    refine lv_iload_n hx hb dJ1_indexOfChar_4cfef_9 rfl (lv_at hl 1 rfl) ?_
    refine lv_icmp_ge (tgt := 31) hx hb dJ1_indexOfChar_4cfef_10 (by decide) (fun c_10 => ?_) (fun c_10 => ?_)
    · replace h := ez_ifp h c_10
      refine lv_iconst (v := -1) hx hb dJ1_indexOfChar_4cfef_31 (by decide) ?_
      exact hret _ _ _ _ _ (Option.some.inj h) rfl hS dJ1_indexOfChar_4cfef_32
    · replace h := ez_ifn h c_10
      refine lv_aload_n hx hb dJ1_indexOfChar_4cfef_13 rfl (lv_at hl 0 rfl) ?_
      refine lv_iload hx hb dJ1_indexOfChar_4cfef_14 (lv_at hl 3 rfl) ?_
      refine ez_tb (t := 1) (by decide) hC hS h dJ1_indexOfChar_4cfef_16 (fun t_16 h => ?_)
      refine lv_iload hx hb dJ1_indexOfChar_4cfef_17 (lv_at hl 2 rfl) ?_
      refine lv_icmp_ne (tgt := 25) hx hb dJ1_indexOfChar_4cfef_19 (by decide) (fun c_19 => ?_) (fun c_19 => ?_)
      · replace h := ez_ifn h c_19
        obtain ⟨t_25, e_25, h⟩ := ez_let_sp h
        refine lv_iinc (v := t_25) (lv' := [(5, .int t_25), (0, .ref (X.2.2.2 1)), (3, .int x3), (4, .int x4)]) hx hb dJ1_indexOfChar_4cfef_25 hl (k := 3) rfl (by rw [e_25]; rfl) (by decide) rfl (fun ls hl => ?_)
        refine lv_goto (tgt := 7) hx hb dJ1_indexOfChar_4cfef_28 (by decide) ?_
        exact hk_7 x3 x4 t_25 _ _ _ hS h (lv_sub hl [1, 2, 3, 0] rfl)
      · replace h := ez_ifp h c_19
        refine lv_iload hx hb dJ1_indexOfChar_4cfef_22 (lv_at hl 3 rfl) ?_
        exact hret _ _ _ _ _ (Option.some.inj h) rfl hS dJ1_indexOfChar_4cfef_24
  have E_7 : ∀ (x3 : Int32) (x4 : Int32) (x5 : Int32) (H : Heap) (locs : List Loc) (ls : Array Slot), ez_S X B s.heap (n0) σ H locs → (ez_fix (fun _ _ _ => none) (z_J1_indexOfChar_4cfef_v1_7 σ) ez_N) x3 x4 x5 = some z → lv_has ls 6 [(0, .ref (X.2.2.2 1)), (3, .int x3), (4, .int x4), (5, .int x5)] → W p l e R s m args below meth c H locs 0 0 Q (F0 m 7 ls []) := ez_fix_ind (fun k_7 : Int32 → Int32 → Int32 → Option (Int32) => ∀ (x3 : Int32) (x4 : Int32) (x5 : Int32) (H : Heap) (locs : List Loc) (ls : Array Slot), ez_S X B s.heap (n0) σ H locs → k_7 x3 x4 x5 = some z → lv_has ls 6 [(0, .ref (X.2.2.2 1)), (3, .int x3), (4, .int x4), (5, .int x5)] → W p l e R s m args below meth c H locs 0 0 Q (F0 m 7 ls [])) (fun _ _ _ _ _ _ _ h _ => by cases h) (fun k_7 hk_7 => K_7 k_7 hk_7) ez_N
  refine lv_iload_n hx hb dJ1_indexOfChar_4cfef_0 rfl (lv_at hl 1 rfl) ?_
  refine lv_i2b hx hb dJ1_indexOfChar_4cfef_1 rfl ?_
  refine ez_top h (fun t_1 h => ?_)
  refine lv_istore (lv' := [(4, .int t_1), (0, .ref (X.2.2.2 1)), (1, .int x1), (2, .int x2), (3, .int x3)]) hx hb dJ1_indexOfChar_4cfef_2 hl (by decide) rfl (fun ls hl => ?_)
  refine lv_iload_n hx hb dJ1_indexOfChar_4cfef_4 rfl (lv_at hl 3 rfl) ?_
  refine lv_istore (lv' := [(5, .int x2), (4, .int t_1), (0, .ref (X.2.2.2 1)), (1, .int x1), (2, .int x2), (3, .int x3)]) hx hb dJ1_indexOfChar_4cfef_5 hl (by decide) rfl (fun ls hl => ?_)
  exact E_7  x3 t_1 x2 _ _ _ hS h (lv_sub hl [2, 5, 1, 0] rfl)
set_option maxHeartbeats 4000000 in
set_option maxRecDepth 100000 in
theorem c_J1_indexOf_4cfef_v1 {l : Launch} {X : ez_X} {B : Nat} {σ : ez_H} {x1 : Int32} {x2 : Int32} {x3 : Int32} {z : Int32} (h : z_J1_indexOf_4cfef_v1 σ x1 x2 x3 = some z) : ez_M l X B σ yJ1_indexOf_4cfef cJ1_indexOf_4cfef 4 (some .int) 1 [.ref (X.2.2.2 1), .int x1, .int x2, .int x3] (some (.int z)) σ := by
  refine ez_startip (z := z) (by decide) (Nat.le_of_ble_eq_true rfl) (fun p e R s m args below meth c Q hC hret hS ls hl => ?_)
  have hC : ez_C p R s m args c X B RJ1 cJ1_indexOf_4cfef 4 1 := hC
  have hx := hC.1.1
  have hb := hC.1.2.1
  have hown := hC.1.2.2.2.1
  have hts := hC.1.2.2.2.2
  have hl : lv_has ls 4 [(0, .ref (X.2.2.2 1)), (1, .int x1), (2, .int x2), (3, .int x3)] := hl
  obtain ⟨n0, e0⟩ : ∃ n0 : Nat, n0 = σ.length := ⟨_, rfl⟩
  rw [← e0] at hret hS
  refine lv_iload_n hx hb dJ1_indexOf_4cfef_0 rfl (lv_at hl 1 rfl) ?_
  refine ez_cSpi (As := [.int x1]) (rest := []) h (fun _ q => c_J1_canEncode_9a6ad q) hC k_J1_canEncode_9a6ad ql_RJ1_88 rfl (by decide) hS hl.1 rfl (Nat.le_of_ble_eq_true rfl) ⟨Nat.zero_le _, Nat.zero_le _⟩ dJ1_indexOf_4cfef_1 (fun t_1 H locs hS h => ?_)
  refine lv_if_ne (tgt := 9) hx hb dJ1_indexOf_4cfef_4 (by decide) (fun c_4 => ?_) (fun c_4 => ?_)
  · replace h := ez_ifn h c_4
    refine lv_iload_n hx hb dJ1_indexOf_4cfef_9 rfl (lv_at hl 2 rfl) ?_
    refine lv_iconst (v := 0) hx hb dJ1_indexOf_4cfef_10 (by decide) ?_
    refine va_mmax hx hb (hC.1.2.2.1.trans hl.1.symm) hown (hts _ ql_RJ1_92) (hts _ qm_max_s) (hts _ qm_i) (hts _ qm_max_c) (Nat.le_trans (by decide) hC.2.2.1) (Nat.le_trans (Nat.le_of_ble_eq_true rfl) hC.2.2.2.1) (Nat.zero_le _) (Nat.zero_le _) dJ1_indexOf_4cfef_11 ?_
    refine ez_top h (fun t_11 h => ?_)
    refine lv_istore_n (lv' := [(2, .int t_11), (0, .ref (X.2.2.2 1)), (1, .int x1), (3, .int x3)]) hx hb dJ1_indexOf_4cfef_14 rfl hl (by decide) rfl (fun ls hl => ?_)
    refine lv_iload_n hx hb dJ1_indexOf_4cfef_15 rfl (lv_at hl 3 rfl) ?_
    refine lv_aload_n hx hb dJ1_indexOf_4cfef_16 rfl (lv_at hl 1 rfl) ?_
    refine va_tlen hx hb (hC.2.2.2.2.1.1 1 (by decide)).2.2.2 hS.2.2 (v := 11) (by decide) dJ1_indexOf_4cfef_17 ?_
    refine va_mmin hx hb (hC.1.2.2.1.trans hl.1.symm) hown (hts _ ql_RJ1_38) (hts _ qm_min_s) (hts _ qm_i) (hts _ qm_min_c) (Nat.le_trans (by decide) hC.2.2.1) (Nat.le_trans (Nat.le_of_ble_eq_true rfl) hC.2.2.2.1) (Nat.zero_le _) (Nat.zero_le _) dJ1_indexOf_4cfef_18 ?_
    refine ez_top h (fun t_18 h => ?_)
    refine lv_istore_n (lv' := [(3, .int t_18), (2, .int t_11), (0, .ref (X.2.2.2 1)), (1, .int x1)]) hx hb dJ1_indexOf_4cfef_21 rfl hl (by decide) rfl (fun ls hl => ?_)
    refine lv_iload_n hx hb dJ1_indexOf_4cfef_22 rfl (lv_at hl 1 rfl) ?_
    refine lv_iload_n hx hb dJ1_indexOf_4cfef_23 rfl (lv_at hl 0 rfl) ?_
    refine lv_icmp_lt (tgt := 29) hx hb dJ1_indexOf_4cfef_24 (by decide) (fun c_24 => ?_) (fun c_24 => ?_)
    · replace h := ez_ifp h c_24
      refine lv_aload_n hx hb dJ1_indexOf_4cfef_29 rfl (lv_at hl 2 rfl) ?_
      refine lv_iload_n hx hb dJ1_indexOf_4cfef_30 rfl (lv_at hl 3 rfl) ?_
      refine lv_iload_n hx hb dJ1_indexOf_4cfef_31 rfl (lv_at hl 1 rfl) ?_
      refine lv_iload_n hx hb dJ1_indexOf_4cfef_32 rfl (lv_at hl 0 rfl) ?_
      refine ez_cSpi (As := [.ref (X.2.2.2 1), .int x1, .int t_11, .int t_18]) (rest := []) h (fun _ q => c_J1_indexOfChar_4cfef_v1 q) hC k_J1_indexOfChar_4cfef ql_RJ1_95 rfl (by decide) hS hl.1 rfl (Nat.le_of_ble_eq_true rfl) ⟨Nat.zero_le _, Nat.zero_le _⟩ dJ1_indexOf_4cfef_33 (fun t_33 H locs hS h => ?_)
      exact hret _ _ _ _ _ (Option.some.inj h) rfl hS dJ1_indexOf_4cfef_36
    · replace h := ez_ifn h c_24
      refine lv_iconst (v := -1) hx hb dJ1_indexOf_4cfef_27 (by decide) ?_
      exact hret _ _ _ _ _ (Option.some.inj h) rfl hS dJ1_indexOf_4cfef_28
  · replace h := ez_ifp h c_4
    refine lv_iconst (v := -1) hx hb dJ1_indexOf_4cfef_7 (by decide) ?_
    exact hret _ _ _ _ _ (Option.some.inj h) rfl hS dJ1_indexOf_4cfef_8
set_option maxHeartbeats 4000000 in
set_option maxRecDepth 100000 in
theorem c_J0_indexOf_7cf53_s1 {l : Launch} {X : ez_X} {B : Nat} {σ : ez_H} {x1 : Int32} {x2 : Int32} {z : Int32} (h : z_J0_indexOf_7cf53_s1 σ x1 x2 = some z) : ez_M l X B σ yJ0_indexOf_7cf53 cJ0_indexOf_7cf53 3 (some .int) 2 [.ref (X.2.2.1 1), .int x1, .int x2] (some (.int z)) σ := by
  refine ez_startip (z := z) (by decide) (Nat.le_of_ble_eq_true rfl) (fun p e R s m args below meth c Q hC hret hS ls hl => ?_)
  have hC : ez_C p R s m args c X B RJ0 cJ0_indexOf_7cf53 3 2 := hC
  have hx := hC.1.1
  have hb := hC.1.2.1
  have hown := hC.1.2.2.2.1
  have hts := hC.1.2.2.2.2
  have hl : lv_has ls 3 [(0, .ref (X.2.2.1 1)), (1, .int x1), (2, .int x2)] := hl
  obtain ⟨n0, e0⟩ : ∃ n0 : Nat, n0 = σ.length := ⟨_, rfl⟩
  rw [← e0] at hret hS
  have K_36 : ∀ (y0 : Int32) (H : Heap) (locs : List Loc) (ls : Array Slot), ez_S X B s.heap (n0) σ H locs → z_J0_indexOf_7cf53_s1_36 σ y0 = some z → lv_has ls 3 [] → W p l e R s m args below meth c H locs 0 0 Q (F0 m 36 ls [.int y0]) := by
    intro y0 H locs ls hS h hl
    exact hret _ _ _ _ _ (Option.some.inj h) rfl hS dJ0_indexOf_7cf53_36
  refine lv_aload_n hx hb dJ0_indexOf_7cf53_0 rfl (lv_at hl 0 rfl) ?_
  refine ez_cUpi (As := []) (rest := []) h (fun _ q => c_J0_isLatin1_aae02_s1 q) hC k_J0_isLatin1_aae02 ql_RJ0_492 rfl (by decide) hS (vk_recv hC.2.2.2.2.1 (i := 1) (by decide) hS.2.2) hl.1 rfl (Nat.le_of_ble_eq_true rfl) ⟨Nat.zero_le _, Nat.zero_le _⟩ dJ0_indexOf_7cf53_1 (fun t_1 H locs hS h => ?_)
  refine lv_if_eq (tgt := 23) hx hb dJ0_indexOf_7cf53_4 (by decide) (fun c_4 => ?_) (fun c_4 => ?_)
  · replace h := ez_ifp h c_4
    refine lv_aload_n hx hb dJ0_indexOf_7cf53_23 rfl (lv_at hl 0 rfl) ?_
    refine vk_getf hx hb (hC.2.2.2.2.1.1 1 (by decide)).2.2.1 hS.2.2 hown (hts _ qs_RJ0_9) (fun _ h9 => h9) dJ0_indexOf_7cf53_24 ?_
    refine lv_iload_n hx hb dJ0_indexOf_7cf53_27 rfl (lv_at hl 1 rfl) ?_
    refine lv_iload_n hx hb dJ0_indexOf_7cf53_28 rfl (lv_at hl 2 rfl) ?_
    refine lv_aload_n hx hb dJ0_indexOf_7cf53_29 rfl (lv_at hl 0 rfl) ?_
    refine ez_cUpi (As := []) (rest := [.int x2, .int x1, .ref (X.2.2.2 1)]) h (fun _ q => c_J0_length_8abf5_s1 q) hC k_J0_length_8abf5 ql_RJ0_505 rfl (by decide) hS (vk_recv hC.2.2.2.2.1 (i := 1) (by decide) hS.2.2) hl.1 rfl (Nat.le_of_ble_eq_true rfl) ⟨Nat.zero_le _, Nat.zero_le _⟩ dJ0_indexOf_7cf53_30 (fun t_30 H locs hS h => ?_)
    cases h
  · replace h := ez_ifn h c_4
    refine lv_aload_n hx hb dJ0_indexOf_7cf53_7 rfl (lv_at hl 0 rfl) ?_
    refine vk_getf hx hb (hC.2.2.2.2.1.1 1 (by decide)).2.2.1 hS.2.2 hown (hts _ qs_RJ0_9) (fun _ h9 => h9) dJ0_indexOf_7cf53_8 ?_
    refine lv_iload_n hx hb dJ0_indexOf_7cf53_11 rfl (lv_at hl 1 rfl) ?_
    refine lv_iload_n hx hb dJ0_indexOf_7cf53_12 rfl (lv_at hl 2 rfl) ?_
    refine lv_aload_n hx hb dJ0_indexOf_7cf53_13 rfl (lv_at hl 0 rfl) ?_
    refine ez_cUpi (As := []) (rest := [.int x2, .int x1, .ref (X.2.2.2 1)]) h (fun _ q => c_J0_length_8abf5_s1 q) hC k_J0_length_8abf5 ql_RJ0_505 rfl (by decide) hS (vk_recv hC.2.2.2.2.1 (i := 1) (by decide) hS.2.2) hl.1 rfl (Nat.le_of_ble_eq_true rfl) ⟨Nat.zero_le _, Nat.zero_le _⟩ dJ0_indexOf_7cf53_14 (fun t_14 H locs hS h => ?_)
    refine ez_cSpi (As := [.ref (X.2.2.2 1), .int x1, .int x2, .int t_14]) (rest := []) h (fun _ q => c_J1_indexOf_4cfef_v1 q) hC k_J1_indexOf_4cfef ql_RJ0_637 rfl (by decide) hS hl.1 rfl (Nat.le_of_ble_eq_true rfl) ⟨Nat.zero_le _, Nat.zero_le _⟩ dJ0_indexOf_7cf53_17 (fun t_17 H locs hS h => ?_)
    refine lv_goto (tgt := 36) hx hb dJ0_indexOf_7cf53_20 (by decide) ?_
    exact K_36  t_17 _ _ _ hS h (lv_sub hl [] rfl)
set_option maxHeartbeats 4000000 in
set_option maxRecDepth 100000 in
theorem c_J0_indexOf_0f7a4_s1 {l : Launch} {X : ez_X} {B : Nat} {σ : ez_H} {x1 : Int32} {z : Int32} (h : z_J0_indexOf_0f7a4_s1 σ x1 = some z) : ez_M l X B σ yJ0_indexOf_0f7a4 cJ0_indexOf_0f7a4 2 (some .int) 3 [.ref (X.2.2.1 1), .int x1] (some (.int z)) σ := by
  refine ez_startip (z := z) (by decide) (Nat.le_of_ble_eq_true rfl) (fun p e R s m args below meth c Q hC hret hS ls hl => ?_)
  have hC : ez_C p R s m args c X B RJ0 cJ0_indexOf_0f7a4 2 3 := hC
  have hx := hC.1.1
  have hb := hC.1.2.1
  have hown := hC.1.2.2.2.1
  have hts := hC.1.2.2.2.2
  have hl : lv_has ls 2 [(0, .ref (X.2.2.1 1)), (1, .int x1)] := hl
  obtain ⟨n0, e0⟩ : ∃ n0 : Nat, n0 = σ.length := ⟨_, rfl⟩
  rw [← e0] at hret hS
  refine lv_aload_n hx hb dJ0_indexOf_0f7a4_0 rfl (lv_at hl 0 rfl) ?_
  refine lv_iload_n hx hb dJ0_indexOf_0f7a4_1 rfl (lv_at hl 1 rfl) ?_
  refine lv_iconst (v := 0) hx hb dJ0_indexOf_0f7a4_2 (by decide) ?_
  refine ez_cUpi (As := [.int x1, .int 0]) (rest := []) h (fun _ q => c_J0_indexOf_7cf53_s1 q) hC k_J0_indexOf_7cf53 ql_RJ0_633 rfl (by decide) hS (vk_recv hC.2.2.2.2.1 (i := 1) (by decide) hS.2.2) hl.1 rfl (Nat.le_of_ble_eq_true rfl) ⟨Nat.zero_le _, Nat.zero_le _⟩ dJ0_indexOf_0f7a4_3 (fun t_3 H locs hS h => ?_)
  exact hret _ _ _ _ _ (Option.some.inj h) rfl hS dJ0_indexOf_0f7a4_6
set_option maxHeartbeats 4000000 in
set_option maxRecDepth 100000 in
theorem c_X9_advance {l : Launch} {X : ez_X} {B : Nat} {σ : ez_H} {h0 : Nat} {z : Unit × ez_H} (h : z_X9_advance σ h0 = some z) : ez_M l X B σ yX9_advance cX9_advance 2 (none) 4 [.ref (B + h0)] (none) z.2 := by
  refine ez_startv (z := z) (by decide) (Nat.le_of_ble_eq_true rfl) (fun p e R s m args below meth c Q hC hret hS ls hl => ?_)
  have hC : ez_C p R s m args c X B RX9 cX9_advance 2 4 := hC
  have hx := hC.1.1
  have hb := hC.1.2.1
  have hown := hC.1.2.2.2.1
  have hts := hC.1.2.2.2.2
  have hl : lv_has ls 2 [(0, .ref (B + h0))] := hl
  obtain ⟨σ0, eσ⟩ : ∃ σ0 : ez_H, σ0 = σ := ⟨_, rfl⟩
  rw [← eσ] at hret
  have hS : ez_S X B s.heap σ0.length σ s.heap [] := eσ ▸ hS
  obtain ⟨-, h⟩ := ez_in h
  have K_152 : ∀ (σ : ez_H) (H : Heap) (locs : List Loc) (ls : Array Slot), ez_S X B s.heap (σ0.length) σ H locs → z_X9_advance_152 σ = some z → lv_has ls 2 [] → W p l e R s m args below meth c H locs 0 0 Q (F0 m 152 ls []) := by
    intro σ H locs ls hS h hl
    exact hret _ _ _ _ _ _ (Option.some.inj h) hS dX9_advance_152
  have K_139 : ∀ (σ : ez_H) (h0 : Nat) (y0 : Nat) (y1 : Int32) (H : Heap) (locs : List Loc) (ls : Array Slot), ez_S X B s.heap (σ0.length) σ H locs → z_X9_advance_139 σ h0 y0 y1 = some z → lv_has ls 2 [(0, .ref (B + h0))] → W p l e R s m args below meth c H locs 0 0 Q (F0 m 139 ls [.int y1, .ref (B + y0)]) := by
    intro σ h0 y0 y1 H locs ls hS h hl
    refine ep_RX9_59 hC hS h dX9_advance_139 (fun σ H locs hS h => ?_)
    refine lv_aload_n hx hb dX9_advance_142 rfl (lv_at hl 0 rfl) ?_
    refine lv_dup hx hb dX9_advance_143 rfl ?_
    refine eg_RX9_44 hC hS h dX9_advance_144 (fun t_144 h => ?_)
    refine lv_iconst (v := 1) hx hb dX9_advance_147 (by decide) ?_
    refine lv_iadd hx hb dX9_advance_148 ?_
    refine ez_top h (fun t_148 h => ?_)
    refine ep_RX9_44 hC hS h dX9_advance_149 (fun σ H locs hS h => ?_)
    exact K_152  σ _ _ _ hS h (lv_sub hl [] rfl)
  have K_137 : ∀ (σ : ez_H) (h0 : Nat) (y0 : Nat) (H : Heap) (locs : List Loc) (ls : Array Slot), ez_S X B s.heap (σ0.length) σ H locs → z_X9_advance_137 σ h0 y0 = some z → lv_has ls 2 [(0, .ref (B + h0))] → W p l e R s m args below meth c H locs 0 0 Q (F0 m 137 ls [.ref (B + y0)]) := by
    intro σ h0 y0 H locs ls hS h hl
    refine lv_bipush (v := 25) hx hb dX9_advance_137 (by decide) ?_
    exact K_139  σ h0 y0 (25 : Int32) _ _ _ hS h (lv_sub hl [0] rfl)
  have K_50 : ∀ (σ : ez_H) (h0 : Nat) (H : Heap) (locs : List Loc) (ls : Array Slot), ez_S X B s.heap (σ0.length) σ H locs → z_X9_advance_50 σ h0 = some z → lv_has ls 2 [(0, .ref (B + h0))] → W p l e R s m args below meth c H locs 0 0 Q (F0 m 50 ls []) := by
    intro σ h0 H locs ls hS h hl
    refine lv_aload_n hx hb dX9_advance_50 rfl (lv_at hl 0 rfl) ?_
    refine lv_aload_n hx hb dX9_advance_51 rfl (lv_at hl 0 rfl) ?_
    refine eg_RX9_44 hC hS h dX9_advance_52 (fun t_52 h => ?_)
    refine ep_RX9_56 hC hS h dX9_advance_55 (fun σ H locs hS h => ?_)
    refine lv_aload_n hx hb dX9_advance_58 rfl (lv_at hl 0 rfl) ?_
    refine lv_aload_n hx hb dX9_advance_59 rfl (lv_at hl 0 rfl) ?_
    refine eg_RX9_44 hC hS h dX9_advance_60 (fun t_60 h => ?_)
    refine ez_cVpi (As := [.int t_60]) (rest := []) h (fun _ q => c_X9_byteAt q) hC k_X9_byteAt ql_RX9_52 rfl (by decide) hS (fun _ q => ez_rcv q) rfl hl.1 rfl (Nat.le_of_ble_eq_true rfl) ⟨Nat.zero_le _, Nat.zero_le _⟩ dX9_advance_63 (fun t_63 H locs hS h => ?_)
    refine lv_istore_n (lv' := [(1, .int t_63), (0, .ref (B + h0))]) hx hb dX9_advance_66 rfl hl (by decide) rfl (fun ls hl => ?_)
    refine lv_aload_n hx hb dX9_advance_67 rfl (lv_at hl 1 rfl) ?_
    refine eg_RX9_44 hC hS h dX9_advance_68 (fun t_68 h => ?_)
    refine lv_aload_n hx hb dX9_advance_71 rfl (lv_at hl 1 rfl) ?_
    refine eg_RX9_41 hC hS h dX9_advance_72 (fun t_72 h => ?_)
    refine lv_icmp_lt (tgt := 87) hx hb dX9_advance_75 (by decide) (fun c_75 => ?_) (fun c_75 => ?_)
    · replace h := ez_ifp h c_75
      refine lv_iload_n hx hb dX9_advance_87 rfl (lv_at hl 0 rfl) ?_
      refine ez_cSpi (As := [.int t_63]) (rest := []) h (fun _ q => c_X9_isLetter q) hC k_X9_isLetter ql_RX9_62 rfl (by decide) hS hl.1 rfl (Nat.le_of_ble_eq_true rfl) ⟨Nat.zero_le _, Nat.zero_le _⟩ dX9_advance_88 (fun t_88 H locs hS h => ?_)
      refine lv_if_eq (tgt := 101) hx hb dX9_advance_91 (by decide) (fun c_91 => ?_) (fun c_91 => ?_)
      · replace h := ez_ifp h c_91
        refine lv_iload_n hx hb dX9_advance_101 rfl (lv_at hl 0 rfl) ?_
        refine ez_cSpi (As := [.int t_63]) (rest := []) h (fun _ q => c_X9_isDigit q) hC k_X9_isDigit ql_RX9_69 rfl (by decide) hS hl.1 rfl (Nat.le_of_ble_eq_true rfl) ⟨Nat.zero_le _, Nat.zero_le _⟩ dX9_advance_102 (fun t_102 H locs hS h => ?_)
        refine lv_if_eq (tgt := 115) hx hb dX9_advance_105 (by decide) (fun c_105 => ?_) (fun c_105 => ?_)
        · replace h := ez_ifp h c_105
          refine lv_aload_n hx hb dX9_advance_115 rfl (lv_at hl 1 rfl) ?_
          refine lv_iload_n hx hb dX9_advance_116 rfl (lv_at hl 0 rfl) ?_
          refine lv_sipush (v := 128) hx hb dX9_advance_117 (by decide) ?_
          refine lv_icmp_ge (tgt := 137) hx hb dX9_advance_120 (by decide) (fun c_120 => ?_) (fun c_120 => ?_)
          · replace h := ez_ifp h c_120
            exact K_137  σ h0 h0 _ _ _ hS h (lv_sub hl [1] rfl)
          · replace h := ez_ifn h c_120
            refine va_ldcS hx hb hown hC.2.2.2.2.2.2.1 dX9_advance_123 ?_
            refine lv_iload_n hx hb dX9_advance_125 rfl (lv_at hl 0 rfl) ?_
            refine lv_i2c hx hb dX9_advance_126 rfl ?_
            refine ez_top h (fun t_126 h => ?_)
            refine ez_cUpi (As := [.int t_126]) (rest := [.ref (B + h0)]) h (fun _ q => c_J0_indexOf_0f7a4_s1 q) hC k_J0_indexOf_0f7a4 ql_RX9_77 rfl (by decide) hS (vk_recv hC.2.2.2.2.1 (i := 1) (by decide) hS.2.2) hl.1 rfl (Nat.le_of_ble_eq_true rfl) ⟨Nat.zero_le _, Nat.zero_le _⟩ dX9_advance_127 (fun t_127 H locs hS h => ?_)
            refine lv_if_lt (tgt := 137) hx hb dX9_advance_130 (by decide) (fun c_130 => ?_) (fun c_130 => ?_)
            · replace h := ez_ifp h c_130
              exact K_137  σ h0 h0 _ _ _ hS h (lv_sub hl [1] rfl)
            · replace h := ez_ifn h c_130
              refine lv_iload_n hx hb dX9_advance_133 rfl (lv_at hl 0 rfl) ?_
              refine lv_goto (tgt := 139) hx hb dX9_advance_134 (by decide) ?_
              exact K_139  σ h0 h0 t_63 _ _ _ hS h (lv_sub hl [1] rfl)
        · replace h := ez_ifn h c_105
          refine lv_aload_n hx hb dX9_advance_108 rfl (lv_at hl 1 rfl) ?_
          refine ez_cVv (As := []) (rest := []) h (fun _ q => c_X9_readNumber q) hC k_X9_readNumber ql_RX9_72 rfl (by decide) hS (fun _ q => ez_rcv q) rfl hl.1 rfl (Nat.le_of_ble_eq_true rfl) ⟨Nat.zero_le _, Nat.zero_le _⟩ dX9_advance_109 (fun _ σ H locs hS h => ?_)
          refine lv_goto (tgt := 152) hx hb dX9_advance_112 (by decide) ?_
          exact K_152  σ _ _ _ hS h (lv_sub hl [] rfl)
      · replace h := ez_ifn h c_91
        refine lv_aload_n hx hb dX9_advance_94 rfl (lv_at hl 1 rfl) ?_
        refine ez_cVv (As := []) (rest := []) h (fun _ q => c_X9_readWord q) hC k_X9_readWord ql_RX9_66 rfl (by decide) hS (fun _ q => ez_rcv q) rfl hl.1 rfl (Nat.le_of_ble_eq_true rfl) ⟨Nat.zero_le _, Nat.zero_le _⟩ dX9_advance_95 (fun _ σ H locs hS h => ?_)
        refine lv_goto (tgt := 152) hx hb dX9_advance_98 (by decide) ?_
        exact K_152  σ _ _ _ hS h (lv_sub hl [] rfl)
    · replace h := ez_ifn h c_75
      refine lv_aload_n hx hb dX9_advance_78 rfl (lv_at hl 1 rfl) ?_
      refine lv_bipush (v := 26) hx hb dX9_advance_79 (by decide) ?_
      refine ep_RX9_59 hC hS h dX9_advance_81 (fun σ H locs hS h => ?_)
      refine lv_goto (tgt := 152) hx hb dX9_advance_84 (by decide) ?_
      exact K_152  σ _ _ _ hS h (lv_sub hl [] rfl)
  have K_37 : ∀ (k_0 : ez_H → Nat → Option (Unit × ez_H)) (hk_0 : ∀ (σ : ez_H) (h0 : Nat) (H : Heap) (locs : List Loc) (ls : Array Slot), ez_S X B s.heap (σ0.length) σ H locs → k_0 σ h0 = some z → lv_has ls 2 [(0, .ref (B + h0))] → W p l e R s m args below meth c H locs 0 0 Q (F0 m 0 ls [])), ∀ (σ : ez_H) (h0 : Nat) (H : Heap) (locs : List Loc) (ls : Array Slot), ez_S X B s.heap (σ0.length) σ H locs → z_X9_advance_37 k_0 σ h0 = some z → lv_has ls 2 [(0, .ref (B + h0))] → W p l e R s m args below meth c H locs 0 0 Q (F0 m 37 ls []) := by
    intro k_0 hk_0 σ h0 H locs ls hS h hl
    refine lv_aload_n hx hb dX9_advance_37 rfl (lv_at hl 0 rfl) ?_
    refine lv_dup hx hb dX9_advance_38 rfl ?_
    refine eg_RX9_44 hC hS h dX9_advance_39 (fun t_39 h => ?_)
    refine lv_iconst (v := 1) hx hb dX9_advance_42 (by decide) ?_
    refine lv_iadd hx hb dX9_advance_43 ?_
    refine ez_top h (fun t_43 h => ?_)
    refine ep_RX9_44 hC hS h dX9_advance_44 (fun σ H locs hS h => ?_)
    refine lv_goto (tgt := 0) hx hb dX9_advance_47 (by decide) ?_
    exact hk_0 σ h0 _ _ _ hS h (lv_sub hl [0] rfl)
  have K_0 : ∀ (k_0 : ez_H → Nat → Option (Unit × ez_H)) (hk_0 : ∀ (σ : ez_H) (h0 : Nat) (H : Heap) (locs : List Loc) (ls : Array Slot), ez_S X B s.heap (σ0.length) σ H locs → k_0 σ h0 = some z → lv_has ls 2 [(0, .ref (B + h0))] → W p l e R s m args below meth c H locs 0 0 Q (F0 m 0 ls [])), ∀ (σ : ez_H) (h0 : Nat) (H : Heap) (locs : List Loc) (ls : Array Slot), ez_S X B s.heap (σ0.length) σ H locs → z_X9_advance_0 k_0 σ h0 = some z → lv_has ls 2 [(0, .ref (B + h0))] → W p l e R s m args below meth c H locs 0 0 Q (F0 m 0 ls []) := by
    intro k_0 hk_0 σ h0 H locs ls hS h hl
    refine lv_aload_n hx hb dX9_advance_0 rfl (lv_at hl 0 rfl) ?_
    refine eg_RX9_44 hC hS h dX9_advance_1 (fun t_1 h => ?_)
    refine lv_aload_n hx hb dX9_advance_4 rfl (lv_at hl 0 rfl) ?_
    refine eg_RX9_41 hC hS h dX9_advance_5 (fun t_5 h => ?_)
    refine lv_icmp_ge (tgt := 50) hx hb dX9_advance_8 (by decide) (fun c_8 => ?_) (fun c_8 => ?_)
    · replace h := ez_ifp h c_8
      exact K_50  σ h0 _ _ _ hS h (lv_sub hl [0] rfl)
    · replace h := ez_ifn h c_8
      refine lv_aload_n hx hb dX9_advance_11 rfl (lv_at hl 0 rfl) ?_
      refine lv_aload_n hx hb dX9_advance_12 rfl (lv_at hl 0 rfl) ?_
      refine eg_RX9_44 hC hS h dX9_advance_13 (fun t_13 h => ?_)
      refine ez_cVpi (As := [.int t_13]) (rest := []) h (fun _ q => c_X9_byteAt q) hC k_X9_byteAt ql_RX9_52 rfl (by decide) hS (fun _ q => ez_rcv q) rfl hl.1 rfl (Nat.le_of_ble_eq_true rfl) ⟨Nat.zero_le _, Nat.zero_le _⟩ dX9_advance_16 (fun t_16 H locs hS h => ?_)
      refine lv_bipush (v := 32) hx hb dX9_advance_19 (by decide) ?_
      refine lv_icmp_eq (tgt := 37) hx hb dX9_advance_21 (by decide) (fun c_21 => ?_) (fun c_21 => ?_)
      · replace h := ez_ifp h c_21
        exact K_37 k_0 hk_0 σ h0 _ _ _ hS h (lv_sub hl [0] rfl)
      · replace h := ez_ifn h c_21
        refine lv_aload_n hx hb dX9_advance_24 rfl (lv_at hl 0 rfl) ?_
        refine lv_aload_n hx hb dX9_advance_25 rfl (lv_at hl 0 rfl) ?_
        refine eg_RX9_44 hC hS h dX9_advance_26 (fun t_26 h => ?_)
        refine ez_cVpi (As := [.int t_26]) (rest := []) h (fun _ q => c_X9_byteAt q) hC k_X9_byteAt ql_RX9_52 rfl (by decide) hS (fun _ q => ez_rcv q) rfl hl.1 rfl (Nat.le_of_ble_eq_true rfl) ⟨Nat.zero_le _, Nat.zero_le _⟩ dX9_advance_29 (fun t_29 H locs hS h => ?_)
        refine lv_bipush (v := 10) hx hb dX9_advance_32 (by decide) ?_
        refine lv_icmp_ne (tgt := 50) hx hb dX9_advance_34 (by decide) (fun c_34 => ?_) (fun c_34 => ?_)
        · replace h := ez_ifn h c_34
          exact K_50  σ h0 _ _ _ hS h (lv_sub hl [0] rfl)
        · replace h := ez_ifp h c_34
          exact K_37 k_0 hk_0 σ h0 _ _ _ hS h (lv_sub hl [0] rfl)
  have E_0 : ∀ (σ : ez_H) (h0 : Nat) (H : Heap) (locs : List Loc) (ls : Array Slot), ez_S X B s.heap (σ0.length) σ H locs → (ez_fix (fun _ _ => none) (z_X9_advance_0) ez_N) σ h0 = some z → lv_has ls 2 [(0, .ref (B + h0))] → W p l e R s m args below meth c H locs 0 0 Q (F0 m 0 ls []) := ez_fix_ind (fun k_0 : ez_H → Nat → Option (Unit × ez_H) => ∀ (σ : ez_H) (h0 : Nat) (H : Heap) (locs : List Loc) (ls : Array Slot), ez_S X B s.heap (σ0.length) σ H locs → k_0 σ h0 = some z → lv_has ls 2 [(0, .ref (B + h0))] → W p l e R s m args below meth c H locs 0 0 Q (F0 m 0 ls [])) (fun _ _ _ _ _ _ h _ => by cases h) (fun k_0 hk_0 => K_0 k_0 hk_0) ez_N
  exact E_0  σ h0 _ _ _ hS h (lv_sub hl [0] rfl)
set_option maxHeartbeats 4000000 in
set_option maxRecDepth 100000 in
theorem c_X9_begin {l : Launch} {X : ez_X} {B : Nat} {σ : ez_H} {h0 : Nat} {x1 : Int32} {z : Unit × ez_H} (h : z_X9_begin σ h0 x1 = some z) : ez_M l X B σ yX9_begin cX9_begin 2 (none) 5 [.ref (B + h0), .int x1] (none) z.2 := by
  refine ez_startv (z := z) (by decide) (Nat.le_of_ble_eq_true rfl) (fun p e R s m args below meth c Q hC hret hS ls hl => ?_)
  have hC : ez_C p R s m args c X B RX9 cX9_begin 2 5 := hC
  have hx := hC.1.1
  have hb := hC.1.2.1
  have hown := hC.1.2.2.2.1
  have hts := hC.1.2.2.2.2
  have hl : lv_has ls 2 [(0, .ref (B + h0)), (1, .int x1)] := hl
  obtain ⟨σ0, eσ⟩ : ∃ σ0 : ez_H, σ0 = σ := ⟨_, rfl⟩
  rw [← eσ] at hret
  have hS : ez_S X B s.heap σ0.length σ s.heap [] := eσ ▸ hS
  obtain ⟨-, h⟩ := ez_in h
  refine lv_aload_n hx hb dX9_begin_0 rfl (lv_at hl 0 rfl) ?_
  refine lv_iload_n hx hb dX9_begin_1 rfl (lv_at hl 1 rfl) ?_
  refine lv_aload_n hx hb dX9_begin_2 rfl (lv_at hl 0 rfl) ?_
  refine eg_RX9_9 hC hS h dX9_begin_3 (fun t_3 h => ?_)
  refine ez_lnB hC hS h dX9_begin_6 (fun t_6 h => ?_)
  refine va_mmin hx hb (hC.1.2.2.1.trans hl.1.symm) hown (hts _ ql_RX9_35) (hts _ qm_min_s) (hts _ qm_i) (hts _ qm_min_c) (Nat.le_trans (by decide) hC.2.2.1) (Nat.le_trans (Nat.le_of_ble_eq_true rfl) hC.2.2.2.1) (Nat.zero_le _) (Nat.zero_le _) dX9_begin_7 ?_
  refine ez_top h (fun t_7 h => ?_)
  refine ep_RX9_41 hC hS h dX9_begin_10 (fun σ H locs hS h => ?_)
  refine lv_aload_n hx hb dX9_begin_13 rfl (lv_at hl 0 rfl) ?_
  refine lv_iconst (v := 0) hx hb dX9_begin_14 (by decide) ?_
  refine ep_RX9_44 hC hS h dX9_begin_15 (fun σ H locs hS h => ?_)
  refine lv_aload_n hx hb dX9_begin_18 rfl (lv_at hl 0 rfl) ?_
  refine ez_cVv (As := []) (rest := []) h (fun _ q => c_X9_advance q) hC k_X9_advance ql_RX9_47 rfl (by decide) hS (fun _ q => ez_rcv q) rfl hl.1 rfl (Nat.le_of_ble_eq_true rfl) ⟨Nat.zero_le _, Nat.zero_le _⟩ dX9_begin_19 (fun _ σ H locs hS h => ?_)
  exact hret _ _ _ _ _ _ (Option.some.inj h) hS dX9_begin_22
set_option maxHeartbeats 4000000 in
set_option maxRecDepth 100000 in
theorem c_X4_blame {l : Launch} {X : ez_X} {B : Nat} {σ : ez_H} {h0 : Nat} {x1 : Int32} {z : Int32 × ez_H} (h : z_X4_blame σ h0 x1 = some z) : ez_M l X B σ yX4_blame cX4_blame 2 (some .boolean) 0 [.ref (B + h0), .int x1] (some (.int z.1)) z.2 := by
  refine ez_starti (z := z) (by decide) (Nat.le_of_ble_eq_true rfl) (fun p e R s m args below meth c Q hC hret hS ls hl => ?_)
  have hC : ez_C p R s m args c X B RX4 cX4_blame 2 0 := hC
  have hx := hC.1.1
  have hb := hC.1.2.1
  have hown := hC.1.2.2.2.1
  have hts := hC.1.2.2.2.2
  have hl : lv_has ls 2 [(0, .ref (B + h0)), (1, .int x1)] := hl
  obtain ⟨σ0, eσ⟩ : ∃ σ0 : ez_H, σ0 = σ := ⟨_, rfl⟩
  rw [← eσ] at hret
  have hS : ez_S X B s.heap σ0.length σ s.heap [] := eσ ▸ hS
  obtain ⟨-, h⟩ := ez_in h
  refine lv_aload_n hx hb dX4_blame_0 rfl (lv_at hl 0 rfl) ?_
  refine lv_iload_n hx hb dX4_blame_1 rfl (lv_at hl 1 rfl) ?_
  refine ep_RX4_18 hC hS h dX4_blame_2 (fun σ H locs hS h => ?_)
  refine lv_aload_n hx hb dX4_blame_5 rfl (lv_at hl 0 rfl) ?_
  refine lv_aload_n hx hb dX4_blame_6 rfl (lv_at hl 0 rfl) ?_
  refine eg_RX4_30 hC hS h dX4_blame_7 (fun t_7 h => ?_)
  refine eg_RX4_56 hC hS h dX4_blame_10 (fun t_10 h => ?_)
  refine ep_RX4_22 hC hS h dX4_blame_13 (fun σ H locs hS h => ?_)
  refine lv_iconst (v := 0) hx hb dX4_blame_16 (by decide) ?_
  have hn : narrow .boolean (.int 0) = .int 0 := by decide
  exact hret _ _ _ _ _ _ (Option.some.inj h) hn hS dX4_blame_17
set_option maxHeartbeats 4000000 in
set_option maxRecDepth 100000 in
theorem c_X4_refuse {l : Launch} {X : ez_X} {B : Nat} {σ : ez_H} {h0 : Nat} {z : Int32 × ez_H} (h : z_X4_refuse σ h0 = some z) : ez_M l X B σ yX4_refuse cX4_refuse 1 (some .boolean) 1 [.ref (B + h0)] (some (.int z.1)) z.2 := by
  refine ez_starti (z := z) (by decide) (Nat.le_of_ble_eq_true rfl) (fun p e R s m args below meth c Q hC hret hS ls hl => ?_)
  have hC : ez_C p R s m args c X B RX4 cX4_refuse 1 1 := hC
  have hx := hC.1.1
  have hb := hC.1.2.1
  have hown := hC.1.2.2.2.1
  have hts := hC.1.2.2.2.2
  have hl : lv_has ls 1 [(0, .ref (B + h0))] := hl
  obtain ⟨σ0, eσ⟩ : ∃ σ0 : ez_H, σ0 = σ := ⟨_, rfl⟩
  rw [← eσ] at hret
  have hS : ez_S X B s.heap σ0.length σ s.heap [] := eσ ▸ hS
  obtain ⟨-, h⟩ := ez_in h
  have K_18 : ∀ (σ : ez_H) (y0 : Nat) (y1 : Int32) (H : Heap) (locs : List Loc) (ls : Array Slot), ez_S X B s.heap (σ0.length) σ H locs → z_X4_refuse_18 σ y0 y1 = some z → lv_has ls 1 [] → W p l e R s m args below meth c H locs 0 0 Q (F0 m 18 ls [.int y1, .ref (B + y0)]) := by
    intro σ y0 y1 H locs ls hS h hl
    refine ez_cVi (As := [.int y1]) (rest := []) h (fun _ q => c_X4_blame q) hC k_X4_blame ql_RX4_59 rfl (by decide) hS (fun _ q => ez_rcv q) rfl hl.1 rfl (Nat.le_of_ble_eq_true rfl) ⟨Nat.zero_le _, Nat.zero_le _⟩ dX4_refuse_18 (fun t_18 σ H locs hS h => ?_)
    obtain ⟨hn, h⟩ := ez_nr_sp rfl h
    exact hret _ _ _ _ _ _ (Option.some.inj h) hn hS dX4_refuse_21
  refine lv_aload_n hx hb dX4_refuse_0 rfl (lv_at hl 0 rfl) ?_
  refine lv_aload_n hx hb dX4_refuse_1 rfl (lv_at hl 0 rfl) ?_
  refine eg_RX4_30 hC hS h dX4_refuse_2 (fun t_2 h => ?_)
  refine eg_RX4_49 hC hS h dX4_refuse_5 (fun t_5 h => ?_)
  refine lv_bipush (v := 25) hx hb dX4_refuse_8 (by decide) ?_
  refine lv_icmp_ne (tgt := 17) hx hb dX4_refuse_10 (by decide) (fun c_10 => ?_) (fun c_10 => ?_)
  · replace h := ez_ifn h c_10
    refine lv_iconst (v := 2) hx hb dX4_refuse_17 (by decide) ?_
    exact K_18  σ h0 (2 : Int32) _ _ _ hS h (lv_sub hl [] rfl)
  · replace h := ez_ifp h c_10
    refine lv_iconst (v := 1) hx hb dX4_refuse_13 (by decide) ?_
    refine lv_goto (tgt := 18) hx hb dX4_refuse_14 (by decide) ?_
    exact K_18  σ h0 (1 : Int32) _ _ _ hS h (lv_sub hl [] rfl)
set_option maxHeartbeats 4000000 in
set_option maxRecDepth 100000 in
theorem c_X4_beginOnce {l : Launch} {X : ez_X} {B : Nat} {σ : ez_H} {h0 : Nat} {z : Int32 × ez_H} (h : z_X4_beginOnce σ h0 = some z) : ez_M l X B σ yX4_beginOnce cX4_beginOnce 2 (some .boolean) 5 [.ref (B + h0)] (some (.int z.1)) z.2 := by
  refine ez_starti (z := z) (by decide) (Nat.le_of_ble_eq_true rfl) (fun p e R s m args below meth c Q hC hret hS ls hl => ?_)
  have hC : ez_C p R s m args c X B RX4 cX4_beginOnce 2 5 := hC
  have hx := hC.1.1
  have hb := hC.1.2.1
  have hown := hC.1.2.2.2.1
  have hts := hC.1.2.2.2.2
  have hl : lv_has ls 2 [(0, .ref (B + h0))] := hl
  obtain ⟨σ0, eσ⟩ : ∃ σ0 : ez_H, σ0 = σ := ⟨_, rfl⟩
  rw [← eσ] at hret
  have hS : ez_S X B s.heap σ0.length σ s.heap [] := eσ ▸ hS
  obtain ⟨-, h⟩ := ez_in h
  refine lv_iconst (v := 1) hx hb dX4_beginOnce_0 (by decide) ?_
  refine lv_aload_n hx hb dX4_beginOnce_1 rfl (lv_at hl 0 rfl) ?_
  refine eg_RX4_30 hC hS h dX4_beginOnce_2 (fun t_2 h => ?_)
  refine eg_RX4_49 hC hS h dX4_beginOnce_5 (fun t_5 h => ?_)
  refine lv_ishl hx hb dX4_beginOnce_8 ?_
  refine ez_top h (fun t_8 h => ?_)
  refine lv_istore_n (lv' := [(1, .int t_8), (0, .ref (B + h0))]) hx hb dX4_beginOnce_9 rfl hl (by decide) rfl (fun ls hl => ?_)
  refine lv_aload_n hx hb dX4_beginOnce_10 rfl (lv_at hl 1 rfl) ?_
  refine eg_RX4_42 hC hS h dX4_beginOnce_11 (fun t_11 h => ?_)
  refine lv_iload_n hx hb dX4_beginOnce_14 rfl (lv_at hl 0 rfl) ?_
  refine lv_iand hx hb dX4_beginOnce_15 ?_
  refine ez_top h (fun t_15 h => ?_)
  refine lv_if_eq (tgt := 24) hx hb dX4_beginOnce_16 (by decide) (fun c_16 => ?_) (fun c_16 => ?_)
  · replace h := ez_ifp h c_16
    refine lv_aload_n hx hb dX4_beginOnce_24 rfl (lv_at hl 1 rfl) ?_
    refine lv_dup hx hb dX4_beginOnce_25 rfl ?_
    refine eg_RX4_42 hC hS h dX4_beginOnce_26 (fun t_26 h => ?_)
    refine lv_iload_n hx hb dX4_beginOnce_29 rfl (lv_at hl 0 rfl) ?_
    refine lv_ior hx hb dX4_beginOnce_30 ?_
    refine ez_top h (fun t_30 h => ?_)
    refine ep_RX4_42 hC hS h dX4_beginOnce_31 (fun σ H locs hS h => ?_)
    refine lv_aload_n hx hb dX4_beginOnce_34 rfl (lv_at hl 1 rfl) ?_
    refine eg_RX4_30 hC hS h dX4_beginOnce_35 (fun t_35 h => ?_)
    refine ez_cVv (As := []) (rest := []) h (fun _ q => c_X9_advance q) hC k_X9_advance ql_RX4_66 rfl (by decide) hS (fun _ q => ez_rcv q) rfl hl.1 rfl (Nat.le_of_ble_eq_true rfl) ⟨Nat.zero_le _, Nat.zero_le _⟩ dX4_beginOnce_38 (fun _ σ H locs hS h => ?_)
    refine lv_iconst (v := 1) hx hb dX4_beginOnce_41 (by decide) ?_
    have hn : narrow .boolean (.int 1) = .int 1 := by decide
    exact hret _ _ _ _ _ _ (Option.some.inj h) hn hS dX4_beginOnce_42
  · replace h := ez_ifn h c_16
    refine lv_aload_n hx hb dX4_beginOnce_19 rfl (lv_at hl 1 rfl) ?_
    refine ez_cVi (As := []) (rest := []) h (fun _ q => c_X4_refuse q) hC k_X4_refuse ql_RX4_63 rfl (by decide) hS (fun _ q => ez_rcv q) rfl hl.1 rfl (Nat.le_of_ble_eq_true rfl) ⟨Nat.zero_le _, Nat.zero_le _⟩ dX4_beginOnce_20 (fun t_20 σ H locs hS h => ?_)
    obtain ⟨hn, h⟩ := ez_nr_sp rfl h
    exact hret _ _ _ _ _ _ (Option.some.inj h) hn hS dX4_beginOnce_23
set_option maxHeartbeats 4000000 in
set_option maxRecDepth 100000 in
theorem c_X4_expect {l : Launch} {X : ez_X} {B : Nat} {σ : ez_H} {h0 : Nat} {x1 : Int32} {z : Int32 × ez_H} (h : z_X4_expect σ h0 x1 = some z) : ez_M l X B σ yX4_expect cX4_expect 2 (some .boolean) 5 [.ref (B + h0), .int x1] (some (.int z.1)) z.2 := by
  refine ez_starti (z := z) (by decide) (Nat.le_of_ble_eq_true rfl) (fun p e R s m args below meth c Q hC hret hS ls hl => ?_)
  have hC : ez_C p R s m args c X B RX4 cX4_expect 2 5 := hC
  have hx := hC.1.1
  have hb := hC.1.2.1
  have hown := hC.1.2.2.2.1
  have hts := hC.1.2.2.2.2
  have hl : lv_has ls 2 [(0, .ref (B + h0)), (1, .int x1)] := hl
  obtain ⟨σ0, eσ⟩ : ∃ σ0 : ez_H, σ0 = σ := ⟨_, rfl⟩
  rw [← eσ] at hret
  have hS : ez_S X B s.heap σ0.length σ s.heap [] := eσ ▸ hS
  obtain ⟨-, h⟩ := ez_in h
  refine lv_aload_n hx hb dX4_expect_0 rfl (lv_at hl 0 rfl) ?_
  refine eg_RX4_30 hC hS h dX4_expect_1 (fun t_1 h => ?_)
  refine eg_RX4_49 hC hS h dX4_expect_4 (fun t_4 h => ?_)
  refine lv_iload_n hx hb dX4_expect_7 rfl (lv_at hl 1 rfl) ?_
  refine lv_icmp_eq (tgt := 16) hx hb dX4_expect_8 (by decide) (fun c_8 => ?_) (fun c_8 => ?_)
  · replace h := ez_ifp h c_8
    refine lv_aload_n hx hb dX4_expect_16 rfl (lv_at hl 0 rfl) ?_
    refine eg_RX4_30 hC hS h dX4_expect_17 (fun t_17 h => ?_)
    refine ez_cVv (As := []) (rest := []) h (fun _ q => c_X9_advance q) hC k_X9_advance ql_RX4_66 rfl (by decide) hS (fun _ q => ez_rcv q) rfl hl.1 rfl (Nat.le_of_ble_eq_true rfl) ⟨Nat.zero_le _, Nat.zero_le _⟩ dX4_expect_20 (fun _ σ H locs hS h => ?_)
    refine lv_iconst (v := 1) hx hb dX4_expect_23 (by decide) ?_
    have hn : narrow .boolean (.int 1) = .int 1 := by decide
    exact hret _ _ _ _ _ _ (Option.some.inj h) hn hS dX4_expect_24
  · replace h := ez_ifn h c_8
    refine lv_aload_n hx hb dX4_expect_11 rfl (lv_at hl 0 rfl) ?_
    refine ez_cVi (As := []) (rest := []) h (fun _ q => c_X4_refuse q) hC k_X4_refuse ql_RX4_63 rfl (by decide) hS (fun _ q => ez_rcv q) rfl hl.1 rfl (Nat.le_of_ble_eq_true rfl) ⟨Nat.zero_le _, Nat.zero_le _⟩ dX4_expect_12 (fun t_12 σ H locs hS h => ?_)
    obtain ⟨hn, h⟩ := ez_nr_sp rfl h
    exact hret _ _ _ _ _ _ (Option.some.inj h) hn hS dX4_expect_15
set_option maxHeartbeats 4000000 in
set_option maxRecDepth 100000 in
theorem c_X4_readOnce {l : Launch} {X : ez_X} {B : Nat} {σ : ez_H} {h0 : Nat} {x1 : Int32} {x2 : Int32} {z : Int32 × ez_H} (h : z_X4_readOnce σ h0 x1 x2 = some z) : ez_M l X B σ yX4_readOnce cX4_readOnce 6 (some .boolean) 6 [.ref (B + h0), .int x1, .int x2] (some (.int z.1)) z.2 := by
  refine ez_starti (z := z) (by decide) (Nat.le_of_ble_eq_true rfl) (fun p e R s m args below meth c Q hC hret hS ls hl => ?_)
  have hC : ez_C p R s m args c X B RX4 cX4_readOnce 6 6 := hC
  have hx := hC.1.1
  have hb := hC.1.2.1
  have hown := hC.1.2.2.2.1
  have hts := hC.1.2.2.2.2
  have hl : lv_has ls 6 [(0, .ref (B + h0)), (1, .int x1), (2, .int x2)] := hl
  obtain ⟨σ0, eσ⟩ : ∃ σ0 : ez_H, σ0 = σ := ⟨_, rfl⟩
  rw [← eσ] at hret
  have hS : ez_S X B s.heap σ0.length σ s.heap [] := eσ ▸ hS
  obtain ⟨-, h⟩ := ez_in h
  have K_98 : ∀ (σ : ez_H) (h0 : Nat) (H : Heap) (locs : List Loc) (ls : Array Slot), ez_S X B s.heap (σ0.length) σ H locs → z_X4_readOnce_98 σ h0 = some z → lv_has ls 6 [(0, .ref (B + h0))] → W p l e R s m args below meth c H locs 0 0 Q (F0 m 98 ls []) := by
    intro σ h0 H locs ls hS h hl
    refine lv_aload_n hx hb dX4_readOnce_98 rfl (lv_at hl 0 rfl) ?_
    refine lv_iconst (v := 4) hx hb dX4_readOnce_99 (by decide) ?_
    refine ez_cVi (As := [.int 4]) (rest := []) h (fun _ q => c_X4_blame q) hC k_X4_blame ql_RX4_59 rfl (by decide) hS (fun _ q => ez_rcv q) rfl hl.1 rfl (Nat.le_of_ble_eq_true rfl) ⟨Nat.zero_le _, Nat.zero_le _⟩ dX4_readOnce_100 (fun t_100 σ H locs hS h => ?_)
    obtain ⟨hn, h⟩ := ez_nr_sp rfl h
    exact hret _ _ _ _ _ _ (Option.some.inj h) hn hS dX4_readOnce_103
  have K_175 : ∀ (σ : ez_H) (h0 : Nat) (H : Heap) (locs : List Loc) (ls : Array Slot), ez_S X B s.heap (σ0.length) σ H locs → z_X4_readOnce_175 σ h0 = some z → lv_has ls 6 [(0, .ref (B + h0))] → W p l e R s m args below meth c H locs 0 0 Q (F0 m 175 ls []) := by
    intro σ h0 H locs ls hS h hl
    refine lv_aload_n hx hb dX4_readOnce_175 rfl (lv_at hl 0 rfl) ?_
    refine eg_RX4_30 hC hS h dX4_readOnce_176 (fun t_176 h => ?_)
    refine ez_cVv (As := []) (rest := []) h (fun _ q => c_X9_advance q) hC k_X9_advance ql_RX4_66 rfl (by decide) hS (fun _ q => ez_rcv q) rfl hl.1 rfl (Nat.le_of_ble_eq_true rfl) ⟨Nat.zero_le _, Nat.zero_le _⟩ dX4_readOnce_179 (fun _ σ H locs hS h => ?_)
    refine lv_aload_n hx hb dX4_readOnce_182 rfl (lv_at hl 0 rfl) ?_
    refine lv_bipush (v := 59) hx hb dX4_readOnce_183 (by decide) ?_
    refine ez_cVi (As := [.int 59]) (rest := []) h (fun _ q => c_X4_expect q) hC k_X4_expect ql_RX4_97 rfl (by decide) hS (fun _ q => ez_rcv q) rfl hl.1 rfl (Nat.le_of_ble_eq_true rfl) ⟨Nat.zero_le _, Nat.zero_le _⟩ dX4_readOnce_185 (fun t_185 σ H locs hS h => ?_)
    obtain ⟨hn, h⟩ := ez_nr_sp rfl h
    exact hret _ _ _ _ _ _ (Option.some.inj h) hn hS dX4_readOnce_188
  have K_51 : ∀ (σ : ez_H) (h0 : Nat) (x1 : Int32) (x2 : Int32) (x3 : Int32) (H : Heap) (locs : List Loc) (ls : Array Slot), ez_S X B s.heap (σ0.length) σ H locs → z_X4_readOnce_51 σ h0 x1 x2 x3 = some z → lv_has ls 6 [(0, .ref (B + h0)), (1, .int x1), (2, .int x2), (3, .int x3)] → W p l e R s m args below meth c H locs 0 0 Q (F0 m 51 ls []) := by
    intro σ h0 x1 x2 x3 H locs ls hS h hl
    refine lv_aload_n hx hb dX4_readOnce_51 rfl (lv_at hl 0 rfl) ?_
    refine ez_cVi (As := []) (rest := []) h (fun _ q => c_X4_beginOnce q) hC k_X4_beginOnce ql_RX4_91 rfl (by decide) hS (fun _ q => ez_rcv q) rfl hl.1 rfl (Nat.le_of_ble_eq_true rfl) ⟨Nat.zero_le _, Nat.zero_le _⟩ dX4_readOnce_52 (fun t_52 σ H locs hS h => ?_)
    refine lv_if_ne (tgt := 60) hx hb dX4_readOnce_55 (by decide) (fun c_55 => ?_) (fun c_55 => ?_)
    · replace h := ez_ifn h c_55
      refine lv_aload_n hx hb dX4_readOnce_60 rfl (lv_at hl 0 rfl) ?_
      refine eg_RX4_30 hC hS h dX4_readOnce_61 (fun t_61 h => ?_)
      refine eg_RX4_49 hC hS h dX4_readOnce_64 (fun t_64 h => ?_)
      refine lv_bipush (v := 24) hx hb dX4_readOnce_67 (by decide) ?_
      refine lv_icmp_eq (tgt := 77) hx hb dX4_readOnce_69 (by decide) (fun c_69 => ?_) (fun c_69 => ?_)
      · replace h := ez_ifp h c_69
        refine lv_aload_n hx hb dX4_readOnce_77 rfl (lv_at hl 0 rfl) ?_
        refine eg_RX4_30 hC hS h dX4_readOnce_78 (fun t_78 h => ?_)
        refine eg_RX4_106 hC hS h dX4_readOnce_81 (fun t_81 h => ?_)
        refine lv_istore (lv' := [(5, .int t_81), (0, .ref (B + h0)), (1, .int x1), (2, .int x2), (3, .int x3)]) hx hb dX4_readOnce_84 hl (by decide) rfl (fun ls hl => ?_)
        refine lv_iload hx hb dX4_readOnce_86 (lv_at hl 0 rfl) ?_
        refine lv_iload_n hx hb dX4_readOnce_88 rfl (lv_at hl 2 rfl) ?_
        refine lv_icmp_lt (tgt := 98) hx hb dX4_readOnce_89 (by decide) (fun c_89 => ?_) (fun c_89 => ?_)
        · replace h := ez_ifp h c_89
          exact K_98  σ h0 _ _ _ hS h (lv_sub hl [1] rfl)
        · replace h := ez_ifn h c_89
          refine lv_iload hx hb dX4_readOnce_92 (lv_at hl 0 rfl) ?_
          refine lv_iload_n hx hb dX4_readOnce_94 rfl (lv_at hl 3 rfl) ?_
          refine lv_icmp_le (tgt := 104) hx hb dX4_readOnce_95 (by decide) (fun c_95 => ?_) (fun c_95 => ?_)
          · replace h := ez_ifp h c_95
            refine lv_iload_n hx hb dX4_readOnce_104 rfl (lv_at hl 4 rfl) ?_
            refine lv_if_ne (tgt := 123) hx hb dX4_readOnce_105 (by decide) (fun c_105 => ?_) (fun c_105 => ?_)
            · replace h := ez_ifn h c_105
              refine lv_iload_n hx hb dX4_readOnce_123 rfl (lv_at hl 4 rfl) ?_
              refine lv_iconst (v := 1) hx hb dX4_readOnce_124 (by decide) ?_
              refine lv_icmp_ne (tgt := 143) hx hb dX4_readOnce_125 (by decide) (fun c_125 => ?_) (fun c_125 => ?_)
              · replace h := ez_ifn h c_125
                refine lv_iload_n hx hb dX4_readOnce_143 rfl (lv_at hl 4 rfl) ?_
                refine lv_iconst (v := 2) hx hb dX4_readOnce_144 (by decide) ?_
                refine lv_icmp_ne (tgt := 163) hx hb dX4_readOnce_145 (by decide) (fun c_145 => ?_) (fun c_145 => ?_)
                · replace h := ez_ifn h c_145
                  refine lv_aload_n hx hb dX4_readOnce_163 rfl (lv_at hl 1 rfl) ?_
                  refine eg_RX4_12 hC hS h dX4_readOnce_164 (fun t_164 h => ?_)
                  refine eg_RX4_124 hC hS h dX4_readOnce_167 (fun t_167 h => ?_)
                  refine lv_iload hx hb dX4_readOnce_170 (lv_at hl 0 rfl) ?_
                  refine ez_cVv (As := [.int t_81]) (rest := []) h (fun _ q => c_X7_putSeed q) hC k_X7_putSeed ql_RX4_128 rfl (by decide) hS (fun _ q => ez_rcv q) rfl hl.1 rfl (Nat.le_of_ble_eq_true rfl) ⟨Nat.zero_le _, Nat.zero_le _⟩ dX4_readOnce_172 (fun _ σ H locs hS h => ?_)
                  exact K_175  σ h0 _ _ _ hS h (lv_sub hl [1] rfl)
                · replace h := ez_ifp h c_145
                  refine lv_aload_n hx hb dX4_readOnce_148 rfl (lv_at hl 1 rfl) ?_
                  refine eg_RX4_12 hC hS h dX4_readOnce_149 (fun t_149 h => ?_)
                  refine eg_RX4_109 hC hS h dX4_readOnce_152 (fun t_152 h => ?_)
                  refine lv_iload hx hb dX4_readOnce_155 (lv_at hl 0 rfl) ?_
                  refine ep_RX4_121 hC hS h dX4_readOnce_157 (fun σ H locs hS h => ?_)
                  refine lv_goto (tgt := 175) hx hb dX4_readOnce_160 (by decide) ?_
                  exact K_175  σ h0 _ _ _ hS h (lv_sub hl [1] rfl)
              · replace h := ez_ifp h c_125
                refine lv_aload_n hx hb dX4_readOnce_128 rfl (lv_at hl 1 rfl) ?_
                refine eg_RX4_12 hC hS h dX4_readOnce_129 (fun t_129 h => ?_)
                refine eg_RX4_109 hC hS h dX4_readOnce_132 (fun t_132 h => ?_)
                refine lv_iload hx hb dX4_readOnce_135 (lv_at hl 0 rfl) ?_
                refine ep_RX4_118 hC hS h dX4_readOnce_137 (fun σ H locs hS h => ?_)
                refine lv_goto (tgt := 175) hx hb dX4_readOnce_140 (by decide) ?_
                exact K_175  σ h0 _ _ _ hS h (lv_sub hl [1] rfl)
            · replace h := ez_ifp h c_105
              refine lv_aload_n hx hb dX4_readOnce_108 rfl (lv_at hl 1 rfl) ?_
              refine eg_RX4_12 hC hS h dX4_readOnce_109 (fun t_109 h => ?_)
              refine eg_RX4_109 hC hS h dX4_readOnce_112 (fun t_112 h => ?_)
              refine lv_iload hx hb dX4_readOnce_115 (lv_at hl 0 rfl) ?_
              refine ep_RX4_113 hC hS h dX4_readOnce_117 (fun σ H locs hS h => ?_)
              refine lv_goto (tgt := 175) hx hb dX4_readOnce_120 (by decide) ?_
              exact K_175  σ h0 _ _ _ hS h (lv_sub hl [1] rfl)
          · replace h := ez_ifn h c_95
            exact K_98  σ h0 _ _ _ hS h (lv_sub hl [1] rfl)
      · replace h := ez_ifn h c_69
        refine lv_aload_n hx hb dX4_readOnce_72 rfl (lv_at hl 0 rfl) ?_
        refine ez_cVi (As := []) (rest := []) h (fun _ q => c_X4_refuse q) hC k_X4_refuse ql_RX4_63 rfl (by decide) hS (fun _ q => ez_rcv q) rfl hl.1 rfl (Nat.le_of_ble_eq_true rfl) ⟨Nat.zero_le _, Nat.zero_le _⟩ dX4_readOnce_73 (fun t_73 σ H locs hS h => ?_)
        obtain ⟨hn, h⟩ := ez_nr_sp rfl h
        exact hret _ _ _ _ _ _ (Option.some.inj h) hn hS dX4_readOnce_76
    · replace h := ez_ifp h c_55
      refine lv_iconst (v := 0) hx hb dX4_readOnce_58 (by decide) ?_
      have hn : narrow .boolean (.int 0) = .int 0 := by decide
      exact hret _ _ _ _ _ _ (Option.some.inj h) hn hS dX4_readOnce_59
  have K_33 : ∀ (σ : ez_H) (h0 : Nat) (x1 : Int32) (x2 : Int32) (x3 : Int32) (y0 : Int32) (H : Heap) (locs : List Loc) (ls : Array Slot), ez_S X B s.heap (σ0.length) σ H locs → z_X4_readOnce_33 σ h0 x1 x2 x3 y0 = some z → lv_has ls 6 [(0, .ref (B + h0)), (1, .int x1), (2, .int x2), (3, .int x3)] → W p l e R s m args below meth c H locs 0 0 Q (F0 m 33 ls [.int y0]) := by
    intro σ h0 x1 x2 x3 y0 H locs ls hS h hl
    refine lv_istore (lv' := [(4, .int y0), (0, .ref (B + h0)), (1, .int x1), (2, .int x2), (3, .int x3)]) hx hb dX4_readOnce_33 hl (by decide) rfl (fun ls hl => ?_)
    refine lv_iload hx hb dX4_readOnce_35 (lv_at hl 0 rfl) ?_
    refine lv_if_eq (tgt := 51) hx hb dX4_readOnce_37 (by decide) (fun c_37 => ?_) (fun c_37 => ?_)
    · replace h := ez_ifp h c_37
      exact K_51  σ h0 x1 x2 x3 _ _ _ hS h (lv_sub hl [1, 2, 3, 4] rfl)
    · replace h := ez_ifn h c_37
      refine lv_iload_n hx hb dX4_readOnce_40 rfl (lv_at hl 4 rfl) ?_
      refine lv_bipush (v := 11) hx hb dX4_readOnce_41 (by decide) ?_
      refine lv_icmp_eq (tgt := 51) hx hb dX4_readOnce_43 (by decide) (fun c_43 => ?_) (fun c_43 => ?_)
      · replace h := ez_ifp h c_43
        exact K_51  σ h0 x1 x2 x3 _ _ _ hS h (lv_sub hl [1, 2, 3, 4] rfl)
      · replace h := ez_ifn h c_43
        refine lv_aload_n hx hb dX4_readOnce_46 rfl (lv_at hl 1 rfl) ?_
        refine ez_cVi (As := []) (rest := []) h (fun _ q => c_X4_refuse q) hC k_X4_refuse ql_RX4_63 rfl (by decide) hS (fun _ q => ez_rcv q) rfl hl.1 rfl (Nat.le_of_ble_eq_true rfl) ⟨Nat.zero_le _, Nat.zero_le _⟩ dX4_readOnce_47 (fun t_47 σ H locs hS h => ?_)
        obtain ⟨hn, h⟩ := ez_nr_sp rfl h
        exact hret _ _ _ _ _ _ (Option.some.inj h) hn hS dX4_readOnce_50
  have K_28 : ∀ (σ : ez_H) (h0 : Nat) (x1 : Int32) (x2 : Int32) (x3 : Int32) (H : Heap) (locs : List Loc) (ls : Array Slot), ez_S X B s.heap (σ0.length) σ H locs → z_X4_readOnce_28 σ h0 x1 x2 x3 = some z → lv_has ls 6 [(0, .ref (B + h0)), (1, .int x1), (2, .int x2), (3, .int x3)] → W p l e R s m args below meth c H locs 0 0 Q (F0 m 28 ls []) := by
    intro σ h0 x1 x2 x3 H locs ls hS h hl
    refine lv_iconst (v := 1) hx hb dX4_readOnce_28 (by decide) ?_
    refine lv_goto (tgt := 33) hx hb dX4_readOnce_29 (by decide) ?_
    exact K_33  σ h0 x1 x2 x3 (1 : Int32) _ _ _ hS h (lv_sub hl [0, 1, 2, 3] rfl)
  refine lv_aload_n hx hb dX4_readOnce_0 rfl (lv_at hl 0 rfl) ?_
  refine eg_RX4_30 hC hS h dX4_readOnce_1 (fun t_1 h => ?_)
  refine eg_RX4_49 hC hS h dX4_readOnce_4 (fun t_4 h => ?_)
  refine lv_istore_n (lv' := [(3, .int t_4), (0, .ref (B + h0)), (1, .int x1), (2, .int x2)]) hx hb dX4_readOnce_7 rfl hl (by decide) rfl (fun ls hl => ?_)
  refine lv_aload_n hx hb dX4_readOnce_8 rfl (lv_at hl 1 rfl) ?_
  refine eg_RX4_12 hC hS h dX4_readOnce_9 (fun t_9 h => ?_)
  refine eg_RX4_100 hC hS h dX4_readOnce_12 (fun t_12 h => ?_)
  refine lv_if_gt (tgt := 28) hx hb dX4_readOnce_15 (by decide) (fun c_15 => ?_) (fun c_15 => ?_)
  · replace h := ez_ifp h c_15
    exact K_28  σ h0 x1 x2 t_4 _ _ _ hS h (lv_sub hl [1, 2, 3, 0] rfl)
  · replace h := ez_ifn h c_15
    refine lv_aload_n hx hb dX4_readOnce_18 rfl (lv_at hl 1 rfl) ?_
    refine eg_RX4_12 hC hS h dX4_readOnce_19 (fun t_19 h => ?_)
    refine eg_RX4_103 hC hS h dX4_readOnce_22 (fun t_22 h => ?_)
    refine lv_if_le (tgt := 32) hx hb dX4_readOnce_25 (by decide) (fun c_25 => ?_) (fun c_25 => ?_)
    · replace h := ez_ifp h c_25
      refine lv_iconst (v := 0) hx hb dX4_readOnce_32 (by decide) ?_
      exact K_33  σ h0 x1 x2 t_4 (0 : Int32) _ _ _ hS h (lv_sub hl [1, 2, 3, 0] rfl)
    · replace h := ez_ifn h c_25
      exact K_28  σ h0 x1 x2 t_4 _ _ _ hS h (lv_sub hl [1, 2, 3, 0] rfl)
set_option maxHeartbeats 4000000 in
set_option maxRecDepth 100000 in
theorem c_X4_unitHere {l : Launch} {X : ez_X} {B : Nat} {σ : ez_H} {h0 : Nat} {z : Int32} (h : z_X4_unitHere σ h0 = some z) : ez_M l X B σ yX4_unitHere cX4_unitHere 1 (some .int) 0 [.ref (B + h0)] (some (.int z)) σ := by
  refine ez_startip (z := z) (by decide) (Nat.le_of_ble_eq_true rfl) (fun p e R s m args below meth c Q hC hret hS ls hl => ?_)
  have hC : ez_C p R s m args c X B RX4 cX4_unitHere 1 0 := hC
  have hx := hC.1.1
  have hb := hC.1.2.1
  have hown := hC.1.2.2.2.1
  have hts := hC.1.2.2.2.2
  have hl : lv_has ls 1 [(0, .ref (B + h0))] := hl
  obtain ⟨n0, e0⟩ : ∃ n0 : Nat, n0 = σ.length := ⟨_, rfl⟩
  rw [← e0] at hret hS
  obtain ⟨-, h⟩ := ez_in h
  have K_54 : ∀ (H : Heap) (locs : List Loc) (ls : Array Slot), ez_S X B s.heap (n0) σ H locs → z_X4_unitHere_54 σ = some z → lv_has ls 1 [] → W p l e R s m args below meth c H locs 0 0 Q (F0 m 54 ls []) := by
    intro  H locs ls hS h hl
    refine lv_iconst (v := -1) hx hb dX4_unitHere_54 (by decide) ?_
    exact hret _ _ _ _ _ (Option.some.inj h) rfl hS dX4_unitHere_55
  refine lv_aload_n hx hb dX4_unitHere_0 rfl (lv_at hl 0 rfl) ?_
  refine eg_RX4_30 hC hS h dX4_unitHere_1 (fun t_1 h => ?_)
  refine eg_RX4_49 hC hS h dX4_unitHere_4 (fun t_4 h => ?_)
  by_cases s_7_0 : t_4 = 19
  · replace h := ez_ifp h s_7_0
    refine lv_tableIn (tgt := 46) hx hb dX4_unitHere_7 (by rw [s_7_0]; decide) (by rw [s_7_0]; decide) (by first | (rw [s_7_0]; done) | (rw [s_7_0]; rfl)) (by decide) ?_
    refine lv_iconst (v := 1) hx hb dX4_unitHere_46 (by decide) ?_
    exact hret _ _ _ _ _ (Option.some.inj h) rfl hS dX4_unitHere_47
  replace h := ez_ifn h s_7_0
  by_cases s_7_1 : t_4 = 20
  · replace h := ez_ifp h s_7_1
    refine lv_tableIn (tgt := 48) hx hb dX4_unitHere_7 (by rw [s_7_1]; decide) (by rw [s_7_1]; decide) (by first | (rw [s_7_1]; done) | (rw [s_7_1]; rfl)) (by decide) ?_
    refine lv_iconst (v := 2) hx hb dX4_unitHere_48 (by decide) ?_
    exact hret _ _ _ _ _ (Option.some.inj h) rfl hS dX4_unitHere_49
  replace h := ez_ifn h s_7_1
  by_cases s_7_2 : t_4 = 21
  · replace h := ez_ifp h s_7_2
    refine lv_tableIn (tgt := 50) hx hb dX4_unitHere_7 (by rw [s_7_2]; decide) (by rw [s_7_2]; decide) (by first | (rw [s_7_2]; done) | (rw [s_7_2]; rfl)) (by decide) ?_
    refine lv_iconst (v := 3) hx hb dX4_unitHere_50 (by decide) ?_
    exact hret _ _ _ _ _ (Option.some.inj h) rfl hS dX4_unitHere_51
  replace h := ez_ifn h s_7_2
  by_cases s_7_3 : t_4 = 22
  · replace h := ez_ifp h s_7_3
    refine lv_tableIn (tgt := 52) hx hb dX4_unitHere_7 (by rw [s_7_3]; decide) (by rw [s_7_3]; decide) (by first | (rw [s_7_3]; done) | (rw [s_7_3]; rfl)) (by decide) ?_
    refine lv_iconst (v := 4) hx hb dX4_unitHere_52 (by decide) ?_
    exact hret _ _ _ _ _ (Option.some.inj h) rfl hS dX4_unitHere_53
  replace h := ez_ifn h s_7_3
  by_cases s_7_4 : t_4 = 23
  · replace h := ez_ifp h s_7_4
    refine lv_tableIn (tgt := 54) hx hb dX4_unitHere_7 (by rw [s_7_4]; decide) (by rw [s_7_4]; decide) (by first | (rw [s_7_4]; done) | (rw [s_7_4]; rfl)) (by decide) ?_
    exact K_54   _ _ _ hS h (lv_sub hl [] rfl)
  replace h := ez_ifn h s_7_4
  by_cases s_7_5 : t_4 = 24
  · replace h := ez_ifp h s_7_5
    refine lv_tableIn (tgt := 44) hx hb dX4_unitHere_7 (by rw [s_7_5]; decide) (by rw [s_7_5]; decide) (by first | (rw [s_7_5]; done) | (rw [s_7_5]; rfl)) (by decide) ?_
    refine lv_iconst (v := 0) hx hb dX4_unitHere_44 (by decide) ?_
    exact hret _ _ _ _ _ (Option.some.inj h) rfl hS dX4_unitHere_45
  replace h := ez_ifn h s_7_5
  have w_7 : Int32.toInt t_4 < 19 ∨ 24 < Int32.toInt t_4 := by
    have q_0 := ez_toNe (k := 19) s_7_0 (by decide)
    have q_1 := ez_toNe (k := 20) s_7_1 (by decide)
    have q_2 := ez_toNe (k := 21) s_7_2 (by decide)
    have q_3 := ez_toNe (k := 22) s_7_3 (by decide)
    have q_4 := ez_toNe (k := 23) s_7_4 (by decide)
    have q_5 := ez_toNe (k := 24) s_7_5 (by decide)
    omega
  refine lv_tableOut (tgt := 54) hx hb dX4_unitHere_7 w_7 (by decide) ?_
  exact K_54   _ _ _ hS h (lv_sub hl [] rfl)
set_option maxHeartbeats 4000000 in
set_option maxRecDepth 100000 in
theorem c_X0_append {l : Launch} {X : ez_X} {B : Nat} {σ : ez_H} {h0 : Nat} {x1 : Int32} {x2 : Int32} {z : Unit × ez_H} (h : z_X0_append σ h0 x1 x2 = some z) : ez_M l X B σ yX0_append cX0_append 3 (none) 0 [.ref (B + h0), .int x1, .int x2] (none) z.2 := by
  refine ez_startv (z := z) (by decide) (Nat.le_of_ble_eq_true rfl) (fun p e R s m args below meth c Q hC hret hS ls hl => ?_)
  have hC : ez_C p R s m args c X B RX0 cX0_append 3 0 := hC
  have hx := hC.1.1
  have hb := hC.1.2.1
  have hown := hC.1.2.2.2.1
  have hts := hC.1.2.2.2.2
  have hl : lv_has ls 3 [(0, .ref (B + h0)), (1, .int x1), (2, .int x2)] := hl
  obtain ⟨σ0, eσ⟩ : ∃ σ0 : ez_H, σ0 = σ := ⟨_, rfl⟩
  rw [← eσ] at hret
  have hS : ez_S X B s.heap σ0.length σ s.heap [] := eσ ▸ hS
  obtain ⟨-, h⟩ := ez_in h
  have K_47 : ∀ (σ : ez_H) (H : Heap) (locs : List Loc) (ls : Array Slot), ez_S X B s.heap (σ0.length) σ H locs → z_X0_append_47 σ = some z → lv_has ls 3 [] → W p l e R s m args below meth c H locs 0 0 Q (F0 m 47 ls []) := by
    intro σ H locs ls hS h hl
    exact hret _ _ _ _ _ _ (Option.some.inj h) hS dX0_append_47
  refine lv_aload_n hx hb dX0_append_0 rfl (lv_at hl 0 rfl) ?_
  refine eg_RX0_13 hC hS h dX0_append_1 (fun t_1 h => ?_)
  refine lv_if_lt (tgt := 47) hx hb dX0_append_4 (by decide) (fun c_4 => ?_) (fun c_4 => ?_)
  · replace h := ez_ifp h c_4
    exact K_47  σ _ _ _ hS h (lv_sub hl [] rfl)
  · replace h := ez_ifn h c_4
    refine lv_aload_n hx hb dX0_append_7 rfl (lv_at hl 0 rfl) ?_
    refine eg_RX0_13 hC hS h dX0_append_8 (fun t_8 h => ?_)
    refine lv_sipush (v := 270) hx hb dX0_append_11 (by decide) ?_
    refine lv_icmp_ge (tgt := 47) hx hb dX0_append_14 (by decide) (fun c_14 => ?_) (fun c_14 => ?_)
    · replace h := ez_ifp h c_14
      exact K_47  σ _ _ _ hS h (lv_sub hl [] rfl)
    · replace h := ez_ifn h c_14
      refine lv_aload_n hx hb dX0_append_17 rfl (lv_at hl 0 rfl) ?_
      refine eg_RX0_16 hC hS h dX0_append_18 (fun t_18 h => ?_)
      refine lv_aload_n hx hb dX0_append_21 rfl (lv_at hl 0 rfl) ?_
      refine eg_RX0_13 hC hS h dX0_append_22 (fun t_22 h => ?_)
      refine lv_iload_n hx hb dX0_append_25 rfl (lv_at hl 1 rfl) ?_
      refine ez_ias hC hS h dX0_append_26 (fun σ H locs hS h => ?_)
      refine lv_aload_n hx hb dX0_append_27 rfl (lv_at hl 0 rfl) ?_
      refine eg_RX0_20 hC hS h dX0_append_28 (fun t_28 h => ?_)
      refine lv_aload_n hx hb dX0_append_31 rfl (lv_at hl 0 rfl) ?_
      refine eg_RX0_13 hC hS h dX0_append_32 (fun t_32 h => ?_)
      refine lv_iload_n hx hb dX0_append_35 rfl (lv_at hl 2 rfl) ?_
      refine ez_ias hC hS h dX0_append_36 (fun σ H locs hS h => ?_)
      refine lv_aload_n hx hb dX0_append_37 rfl (lv_at hl 0 rfl) ?_
      refine lv_dup hx hb dX0_append_38 rfl ?_
      refine eg_RX0_13 hC hS h dX0_append_39 (fun t_39 h => ?_)
      refine lv_iconst (v := 1) hx hb dX0_append_42 (by decide) ?_
      refine lv_iadd hx hb dX0_append_43 ?_
      refine ez_top h (fun t_43 h => ?_)
      refine ep_RX0_13 hC hS h dX0_append_44 (fun σ H locs hS h => ?_)
      exact K_47  σ _ _ _ hS h (lv_sub hl [] rfl)
set_option maxHeartbeats 4000000 in
set_option maxRecDepth 100000 in
theorem c_X4_readUnit_k7 {l : Launch} {X : ez_X} {B : Nat} {σ : ez_H} {h0 : Nat} {z : Int32 × ez_H} (h : z_X4_readUnit_k7 σ h0 = some z) : ez_M l X B σ yX4_readUnit cX4_readUnit 4 (some .boolean) 5 [.ref (B + h0), .int 7] (some (.int z.1)) z.2 := by
  refine ez_starti (z := z) (by decide) (Nat.le_of_ble_eq_true rfl) (fun p e R s m args below meth c Q hC hret hS ls hl => ?_)
  have hC : ez_C p R s m args c X B RX4 cX4_readUnit 4 5 := hC
  have hx := hC.1.1
  have hb := hC.1.2.1
  have hown := hC.1.2.2.2.1
  have hts := hC.1.2.2.2.2
  have hl : lv_has ls 4 [(0, .ref (B + h0)), (1, .int 7)] := hl
  obtain ⟨σ0, eσ⟩ : ∃ σ0 : ez_H, σ0 = σ := ⟨_, rfl⟩
  rw [← eσ] at hret
  have hS : ez_S X B s.heap σ0.length σ s.heap [] := eσ ▸ hS
  obtain ⟨-, h⟩ := ez_in h
  have K_140 : ∀ (σ : ez_H) (y0 : Int32) (H : Heap) (locs : List Loc) (ls : Array Slot), ez_S X B s.heap (σ0.length) σ H locs → z_X4_readUnit_k7_140 σ y0 = some z → lv_has ls 4 [] → W p l e R s m args below meth c H locs 0 0 Q (F0 m 140 ls [.int y0]) := by
    intro σ y0 H locs ls hS h hl
    obtain ⟨hn, h⟩ := ez_nr_sp rfl h
    exact hret _ _ _ _ _ _ (Option.some.inj h) hn hS dX4_readUnit_140
  have K_135 : ∀ (σ : ez_H) (H : Heap) (locs : List Loc) (ls : Array Slot), ez_S X B s.heap (σ0.length) σ H locs → z_X4_readUnit_k7_135 σ = some z → lv_has ls 4 [] → W p l e R s m args below meth c H locs 0 0 Q (F0 m 135 ls []) := by
    intro σ H locs ls hS h hl
    refine lv_iconst (v := 1) hx hb dX4_readUnit_135 (by decide) ?_
    refine lv_goto (tgt := 140) hx hb dX4_readUnit_136 (by decide) ?_
    exact K_140  σ (1 : Int32) _ _ _ hS h (lv_sub hl [] rfl)
  have K_105 : ∀ (σ : ez_H) (h0 : Nat) (x2 : Int32) (H : Heap) (locs : List Loc) (ls : Array Slot), ez_S X B s.heap (σ0.length) σ H locs → z_X4_readUnit_k7_105 σ h0 x2 = some z → lv_has ls 4 [(0, .ref (B + h0)), (1, .int 7), (2, .int x2)] → W p l e R s m args below meth c H locs 0 0 Q (F0 m 105 ls []) := by
    intro σ h0 x2 H locs ls hS h hl
    refine lv_aload_n hx hb dX4_readUnit_105 rfl (lv_at hl 0 rfl) ?_
    refine eg_RX4_30 hC hS h dX4_readUnit_106 (fun t_106 h => ?_)
    refine ez_cVv (As := []) (rest := []) h (fun _ q => c_X9_advance q) hC k_X9_advance ql_RX4_66 rfl (by decide) hS (fun _ q => ez_rcv q) rfl hl.1 rfl (Nat.le_of_ble_eq_true rfl) ⟨Nat.zero_le _, Nat.zero_le _⟩ dX4_readUnit_109 (fun _ σ H locs hS h => ?_)
    refine lv_iload_n hx hb dX4_readUnit_112 rfl (lv_at hl 2 rfl) ?_
    refine lv_if_eq (tgt := 135) hx hb dX4_readUnit_113 (by decide) (fun c_113 => ?_) (fun c_113 => ?_)
    · replace h := ez_ifp h c_113
      exact K_135  σ _ _ _ hS h (lv_sub hl [] rfl)
    · replace h := ez_ifn h c_113
      cases h
  have K_67 : ∀ (σ : ez_H) (h0 : Nat) (x2 : Int32) (x3 : Int32) (H : Heap) (locs : List Loc) (ls : Array Slot), ez_S X B s.heap (σ0.length) σ H locs → z_X4_readUnit_k7_67 σ h0 x2 x3 = some z → lv_has ls 4 [(0, .ref (B + h0)), (1, .int 7), (2, .int x2), (3, .int x3)] → W p l e R s m args below meth c H locs 0 0 Q (F0 m 67 ls []) := by
    intro σ h0 x2 x3 H locs ls hS h hl
    refine lv_aload_n hx hb dX4_readUnit_67 rfl (lv_at hl 0 rfl) ?_
    refine eg_RX4_12 hC hS h dX4_readUnit_68 (fun t_68 h => ?_)
    refine eg_RX4_214 hC hS h dX4_readUnit_71 (fun t_71 h => ?_)
    refine lv_dup hx hb dX4_readUnit_74 rfl ?_
    refine eg_RX4_244 hC hS h dX4_readUnit_75 (fun t_75 h => ?_)
    refine lv_iconst (v := 1) hx hb dX4_readUnit_78 (by decide) ?_
    refine lv_iadd hx hb dX4_readUnit_79 ?_
    refine ez_top h (fun t_79 h => ?_)
    refine ep_RX4_244 hC hS h dX4_readUnit_80 (fun σ H locs hS h => ?_)
    refine lv_iload_n hx hb dX4_readUnit_83 rfl (lv_at hl 2 rfl) ?_
    refine lv_if_ne (tgt := 105) hx hb dX4_readUnit_84 (by decide) (fun c_84 => ?_) (fun c_84 => ?_)
    · replace h := ez_ifn h c_84
      exact K_105  σ h0 x2 _ _ _ hS h (lv_sub hl [0, 1, 2] rfl)
    · replace h := ez_ifp h c_84
      refine lv_aload_n hx hb dX4_readUnit_87 rfl (lv_at hl 0 rfl) ?_
      refine eg_RX4_12 hC hS h dX4_readUnit_88 (fun t_88 h => ?_)
      refine eg_RX4_214 hC hS h dX4_readUnit_91 (fun t_91 h => ?_)
      refine lv_iload_n hx hb dX4_readUnit_94 rfl (lv_at hl 3 rfl) ?_
      refine lv_aload_n hx hb dX4_readUnit_95 rfl (lv_at hl 0 rfl) ?_
      refine eg_RX4_30 hC hS h dX4_readUnit_96 (fun t_96 h => ?_)
      refine eg_RX4_106 hC hS h dX4_readUnit_99 (fun t_99 h => ?_)
      refine ez_cVv (As := [.int x3, .int t_99]) (rest := []) h (fun _ q => c_X0_append q) hC k_X0_append ql_RX4_220 rfl (by decide) hS (fun _ q => ez_rcv q) rfl hl.1 rfl (Nat.le_of_ble_eq_true rfl) ⟨Nat.zero_le _, Nat.zero_le _⟩ dX4_readUnit_102 (fun _ σ H locs hS h => ?_)
      exact K_105  σ h0 x2 _ _ _ hS h (lv_sub hl [0, 1, 2] rfl)
  have K_47 : ∀ (σ : ez_H) (h0 : Nat) (H : Heap) (locs : List Loc) (ls : Array Slot), ez_S X B s.heap (σ0.length) σ H locs → z_X4_readUnit_k7_47 σ h0 = some z → lv_has ls 4 [(0, .ref (B + h0))] → W p l e R s m args below meth c H locs 0 0 Q (F0 m 47 ls []) := by
    intro σ h0 H locs ls hS h hl
    refine lv_aload_n hx hb dX4_readUnit_47 rfl (lv_at hl 0 rfl) ?_
    refine ez_cVi (As := []) (rest := []) h (fun _ q => c_X4_refuse q) hC k_X4_refuse ql_RX4_63 rfl (by decide) hS (fun _ q => ez_rcv q) rfl hl.1 rfl (Nat.le_of_ble_eq_true rfl) ⟨Nat.zero_le _, Nat.zero_le _⟩ dX4_readUnit_48 (fun t_48 σ H locs hS h => ?_)
    obtain ⟨hn, h⟩ := ez_nr_sp rfl h
    exact hret _ _ _ _ _ _ (Option.some.inj h) hn hS dX4_readUnit_51
  have K_32 : ∀ (σ : ez_H) (h0 : Nat) (x2 : Int32) (x3 : Int32) (H : Heap) (locs : List Loc) (ls : Array Slot), ez_S X B s.heap (σ0.length) σ H locs → z_X4_readUnit_k7_32 σ h0 x2 x3 = some z → lv_has ls 4 [(0, .ref (B + h0)), (1, .int 7), (2, .int x2), (3, .int x3)] → W p l e R s m args below meth c H locs 0 0 Q (F0 m 32 ls []) := by
    intro σ h0 x2 x3 H locs ls hS h hl
    refine lv_aload_n hx hb dX4_readUnit_32 rfl (lv_at hl 0 rfl) ?_
    refine eg_RX4_12 hC hS h dX4_readUnit_33 (fun t_33 h => ?_)
    refine eg_RX4_214 hC hS h dX4_readUnit_36 (fun t_36 h => ?_)
    refine eg_RX4_244 hC hS h dX4_readUnit_39 (fun t_39 h => ?_)
    refine lv_bipush (v := 30) hx hb dX4_readUnit_42 (by decide) ?_
    refine lv_icmp_lt (tgt := 52) hx hb dX4_readUnit_44 (by decide) (fun c_44 => ?_) (fun c_44 => ?_)
    · replace h := ez_ifp h c_44
      refine lv_iload_n hx hb dX4_readUnit_52 rfl (lv_at hl 2 rfl) ?_
      refine lv_if_eq (tgt := 67) hx hb dX4_readUnit_53 (by decide) (fun c_53 => ?_) (fun c_53 => ?_)
      · replace h := ez_ifp h c_53
        exact K_67  σ h0 x2 x3 _ _ _ hS h (lv_sub hl [0, 1, 2, 3] rfl)
      · replace h := ez_ifn h c_53
        refine lv_iload_n hx hb dX4_readUnit_56 rfl (lv_at hl 1 rfl) ?_
        refine lv_bipush (v := 6) hx hb dX4_readUnit_57 (by decide) ?_
        refine lv_icmp_le (tgt := 67) hx hb dX4_readUnit_59 (by decide) (fun c_59 => ?_) (fun c_59 => ?_)
        · exact absurd c_59 (by decide)
        · skip
          refine lv_aload_n hx hb dX4_readUnit_62 rfl (lv_at hl 0 rfl) ?_
          refine ez_cVi (As := []) (rest := []) h (fun _ q => c_X4_refuse q) hC k_X4_refuse ql_RX4_63 rfl (by decide) hS (fun _ q => ez_rcv q) rfl hl.1 rfl (Nat.le_of_ble_eq_true rfl) ⟨Nat.zero_le _, Nat.zero_le _⟩ dX4_readUnit_63 (fun t_63 σ H locs hS h => ?_)
          obtain ⟨hn, h⟩ := ez_nr_sp rfl h
          exact hret _ _ _ _ _ _ (Option.some.inj h) hn hS dX4_readUnit_66
    · replace h := ez_ifn h c_44
      exact K_47  σ h0 _ _ _ hS h (lv_sub hl [0] rfl)
  have K_17 : ∀ (σ : ez_H) (h0 : Nat) (y0 : Int32) (H : Heap) (locs : List Loc) (ls : Array Slot), ez_S X B s.heap (σ0.length) σ H locs → z_X4_readUnit_k7_17 σ h0 y0 = some z → lv_has ls 4 [(0, .ref (B + h0)), (1, .int 7)] → W p l e R s m args below meth c H locs 0 0 Q (F0 m 17 ls [.int y0]) := by
    intro σ h0 y0 H locs ls hS h hl
    refine lv_istore_n (lv' := [(2, .int y0), (0, .ref (B + h0)), (1, .int 7)]) hx hb dX4_readUnit_17 rfl hl (by decide) rfl (fun ls hl => ?_)
    refine lv_aload_n hx hb dX4_readUnit_18 rfl (lv_at hl 1 rfl) ?_
    refine ez_cVpi (As := []) (rest := []) h (fun _ q => c_X4_unitHere q) hC k_X4_unitHere ql_RX4_241 rfl (by decide) hS (fun _ q => ez_rcv q) rfl hl.1 rfl (Nat.le_of_ble_eq_true rfl) ⟨Nat.zero_le _, Nat.zero_le _⟩ dX4_readUnit_19 (fun t_19 H locs hS h => ?_)
    refine lv_istore_n (lv' := [(3, .int t_19), (2, .int y0), (0, .ref (B + h0)), (1, .int 7)]) hx hb dX4_readUnit_22 rfl hl (by decide) rfl (fun ls hl => ?_)
    refine lv_iload_n hx hb dX4_readUnit_23 rfl (lv_at hl 1 rfl) ?_
    refine lv_if_ne (tgt := 32) hx hb dX4_readUnit_24 (by decide) (fun c_24 => ?_) (fun c_24 => ?_)
    · replace h := ez_ifn h c_24
      exact K_32  σ h0 y0 t_19 _ _ _ hS h (lv_sub hl [2, 3, 1, 0] rfl)
    · replace h := ez_ifp h c_24
      refine lv_iload_n hx hb dX4_readUnit_27 rfl (lv_at hl 0 rfl) ?_
      refine lv_iconst (v := -1) hx hb dX4_readUnit_28 (by decide) ?_
      refine lv_icmp_eq (tgt := 47) hx hb dX4_readUnit_29 (by decide) (fun c_29 => ?_) (fun c_29 => ?_)
      · replace h := ez_ifp h c_29
        exact K_47  σ h0 _ _ _ hS h (lv_sub hl [2] rfl)
      · replace h := ez_ifn h c_29
        exact K_32  σ h0 y0 t_19 _ _ _ hS h (lv_sub hl [2, 3, 1, 0] rfl)
  refine lv_aload_n hx hb dX4_readUnit_0 rfl (lv_at hl 0 rfl) ?_
  refine eg_RX4_30 hC hS h dX4_readUnit_1 (fun t_1 h => ?_)
  refine eg_RX4_49 hC hS h dX4_readUnit_4 (fun t_4 h => ?_)
  refine lv_bipush (v := 40) hx hb dX4_readUnit_7 (by decide) ?_
  refine lv_icmp_ne (tgt := 16) hx hb dX4_readUnit_9 (by decide) (fun c_9 => ?_) (fun c_9 => ?_)
  · replace h := ez_ifn h c_9
    refine lv_iconst (v := 0) hx hb dX4_readUnit_16 (by decide) ?_
    exact K_17  σ h0 (0 : Int32) _ _ _ hS h (lv_sub hl [0, 1] rfl)
  · replace h := ez_ifp h c_9
    refine lv_iconst (v := 1) hx hb dX4_readUnit_12 (by decide) ?_
    refine lv_goto (tgt := 17) hx hb dX4_readUnit_13 (by decide) ?_
    exact K_17  σ h0 (1 : Int32) _ _ _ hS h (lv_sub hl [0, 1] rfl)
set_option maxHeartbeats 4000000 in
set_option maxRecDepth 100000 in
theorem c_X4_productHere {l : Launch} {X : ez_X} {B : Nat} {σ : ez_H} {h0 : Nat} {z : Int32} (h : z_X4_productHere σ h0 = some z) : ez_M l X B σ yX4_productHere cX4_productHere 1 (some .int) 0 [.ref (B + h0)] (some (.int z)) σ := by
  refine ez_startip (z := z) (by decide) (Nat.le_of_ble_eq_true rfl) (fun p e R s m args below meth c Q hC hret hS ls hl => ?_)
  have hC : ez_C p R s m args c X B RX4 cX4_productHere 1 0 := hC
  have hx := hC.1.1
  have hb := hC.1.2.1
  have hown := hC.1.2.2.2.1
  have hts := hC.1.2.2.2.2
  have hl : lv_has ls 1 [(0, .ref (B + h0))] := hl
  obtain ⟨n0, e0⟩ : ∃ n0 : Nat, n0 = σ.length := ⟨_, rfl⟩
  rw [← e0] at hret hS
  obtain ⟨-, h⟩ := ez_in h
  refine lv_aload_n hx hb dX4_productHere_0 rfl (lv_at hl 0 rfl) ?_
  refine eg_RX4_30 hC hS h dX4_productHere_1 (fun t_1 h => ?_)
  refine eg_RX4_49 hC hS h dX4_productHere_4 (fun t_4 h => ?_)
  by_cases s_7_0 : t_4 = 37
  · replace h := ez_ifp h s_7_0
    refine lv_lookup (tgt := 46) hx hb dX4_productHere_7 (by decide) (by first | (rw [s_7_0]; done) | (rw [s_7_0]; rfl)) (by decide) ?_
    refine lv_bipush (v := 15) hx hb dX4_productHere_46 (by decide) ?_
    exact hret _ _ _ _ _ (Option.some.inj h) rfl hS dX4_productHere_48
  replace h := ez_ifn h s_7_0
  by_cases s_7_1 : t_4 = 42
  · replace h := ez_ifp h s_7_1
    refine lv_lookup (tgt := 40) hx hb dX4_productHere_7 (by decide) (by first | (rw [s_7_1]; done) | (rw [s_7_1]; rfl)) (by decide) ?_
    refine lv_bipush (v := 13) hx hb dX4_productHere_40 (by decide) ?_
    exact hret _ _ _ _ _ (Option.some.inj h) rfl hS dX4_productHere_42
  replace h := ez_ifn h s_7_1
  by_cases s_7_2 : t_4 = 47
  · replace h := ez_ifp h s_7_2
    refine lv_lookup (tgt := 43) hx hb dX4_productHere_7 (by decide) (by first | (rw [s_7_2]; done) | (rw [s_7_2]; rfl)) (by decide) ?_
    refine lv_bipush (v := 14) hx hb dX4_productHere_43 (by decide) ?_
    exact hret _ _ _ _ _ (Option.some.inj h) rfl hS dX4_productHere_45
  replace h := ez_ifn h s_7_2
  refine lv_lookup (off := 42) (tgt := 49) hx hb dX4_productHere_7 (by decide) (by simp only [Op.lookupswitch.offset_cons, Op.lookupswitch.offset_nil]; rw [if_neg (fun q => ez_toNe (k := 37) s_7_0 (by decide) q.symm), if_neg (fun q => ez_toNe (k := 42) s_7_1 (by decide) q.symm), if_neg (fun q => ez_toNe (k := 47) s_7_2 (by decide) q.symm)]) (by decide) ?_
  refine lv_iconst (v := -1) hx hb dX4_productHere_49 (by decide) ?_
  exact hret _ _ _ _ _ (Option.some.inj h) rfl hS dX4_productHere_50
set_option maxHeartbeats 4000000 in
set_option maxRecDepth 100000 in
theorem c_X4_readTerm_k7 {l : Launch} {X : ez_X} {B : Nat} {σ : ez_H} {h0 : Nat} {z : Int32 × ez_H} (h : z_X4_readTerm_k7 σ h0 = some z) : ez_M l X B σ yX4_readTerm cX4_readTerm 5 (some .boolean) 6 [.ref (B + h0), .int 7] (some (.int z.1)) z.2 := by
  refine ez_starti (z := z) (by decide) (Nat.le_of_ble_eq_true rfl) (fun p e R s m args below meth c Q hC hret hS ls hl => ?_)
  have hC : ez_C p R s m args c X B RX4 cX4_readTerm 5 6 := hC
  have hx := hC.1.1
  have hb := hC.1.2.1
  have hown := hC.1.2.2.2.1
  have hts := hC.1.2.2.2.2
  have hl : lv_has ls 5 [(0, .ref (B + h0)), (1, .int 7)] := hl
  obtain ⟨σ0, eσ⟩ : ∃ σ0 : ez_H, σ0 = σ := ⟨_, rfl⟩
  rw [← eσ] at hret
  have hS : ez_S X B s.heap σ0.length σ s.heap [] := eσ ▸ hS
  obtain ⟨-, h⟩ := ez_in h
  have K_65 : ∀ (σ : ez_H) (x2 : Int32) (H : Heap) (locs : List Loc) (ls : Array Slot), ez_S X B s.heap (σ0.length) σ H locs → z_X4_readTerm_k7_65 σ x2 = some z → lv_has ls 5 [(2, .int x2)] → W p l e R s m args below meth c H locs 0 0 Q (F0 m 65 ls []) := by
    intro σ x2 H locs ls hS h hl
    refine lv_iload_n hx hb dX4_readTerm_65 rfl (lv_at hl 0 rfl) ?_
    obtain ⟨hn, h⟩ := ez_nr_sp rfl h
    exact hret _ _ _ _ _ _ (Option.some.inj h) hn hS dX4_readTerm_66
  have K_8 : ∀ (k_8 : ez_H → Nat → Int32 → Int32 → Option (Int32 × ez_H)) (hk_8 : ∀ (σ : ez_H) (h0 : Nat) (x2 : Int32) (x3 : Int32) (H : Heap) (locs : List Loc) (ls : Array Slot), ez_S X B s.heap (σ0.length) σ H locs → k_8 σ h0 x2 x3 = some z → lv_has ls 5 [(0, .ref (B + h0)), (1, .int 7), (2, .int x2), (3, .int x3)] → W p l e R s m args below meth c H locs 0 0 Q (F0 m 8 ls [])), ∀ (σ : ez_H) (h0 : Nat) (x2 : Int32) (x3 : Int32) (H : Heap) (locs : List Loc) (ls : Array Slot), ez_S X B s.heap (σ0.length) σ H locs → z_X4_readTerm_k7_8 k_8 σ h0 x2 x3 = some z → lv_has ls 5 [(0, .ref (B + h0)), (1, .int 7), (2, .int x2), (3, .int x3)] → W p l e R s m args below meth c H locs 0 0 Q (F0 m 8 ls []) := by
    intro k_8 hk_8 σ h0 x2 x3 H locs ls hS h hl
    refine lv_iload_n hx hb dX4_readTerm_8 rfl (lv_at hl 3 rfl) ?_
    refine lv_sipush (v := 1600) hx hb dX4_readTerm_9 (by decide) ?_
    refine lv_icmp_ge (tgt := 65) hx hb dX4_readTerm_12 (by decide) (fun c_12 => ?_) (fun c_12 => ?_)
    · replace h := ez_ifp h c_12
      exact K_65  σ x2 _ _ _ hS h (lv_sub hl [2] rfl)
    · replace h := ez_ifn h c_12
      refine lv_iload_n hx hb dX4_readTerm_15 rfl (lv_at hl 2 rfl) ?_
      refine lv_if_eq (tgt := 65) hx hb dX4_readTerm_16 (by decide) (fun c_16 => ?_) (fun c_16 => ?_)
      · replace h := ez_ifp h c_16
        exact K_65  σ x2 _ _ _ hS h (lv_sub hl [2] rfl)
      · replace h := ez_ifn h c_16
        refine lv_aload_n hx hb dX4_readTerm_19 rfl (lv_at hl 0 rfl) ?_
        refine ez_cVpi (As := []) (rest := []) h (fun _ q => c_X4_productHere q) hC k_X4_productHere ql_RX4_238 rfl (by decide) hS (fun _ q => ez_rcv q) rfl hl.1 rfl (Nat.le_of_ble_eq_true rfl) ⟨Nat.zero_le _, Nat.zero_le _⟩ dX4_readTerm_20 (fun t_20 H locs hS h => ?_)
        refine lv_iconst (v := -1) hx hb dX4_readTerm_23 (by decide) ?_
        refine lv_icmp_eq (tgt := 65) hx hb dX4_readTerm_24 (by decide) (fun c_24 => ?_) (fun c_24 => ?_)
        · replace h := ez_ifp h c_24
          exact K_65  σ x2 _ _ _ hS h (lv_sub hl [2] rfl)
        · replace h := ez_ifn h c_24
          refine lv_aload_n hx hb dX4_readTerm_27 rfl (lv_at hl 0 rfl) ?_
          refine ez_cVpi (As := []) (rest := []) h (fun _ q => c_X4_productHere q) hC k_X4_productHere ql_RX4_238 rfl (by decide) hS (fun _ q => ez_rcv q) rfl hl.1 rfl (Nat.le_of_ble_eq_true rfl) ⟨Nat.zero_le _, Nat.zero_le _⟩ dX4_readTerm_28 (fun t_28 H locs hS h => ?_)
          refine lv_istore (lv' := [(4, .int t_28), (0, .ref (B + h0)), (1, .int 7), (2, .int x2), (3, .int x3)]) hx hb dX4_readTerm_31 hl (by decide) rfl (fun ls hl => ?_)
          refine lv_aload_n hx hb dX4_readTerm_33 rfl (lv_at hl 1 rfl) ?_
          refine eg_RX4_30 hC hS h dX4_readTerm_34 (fun t_34 h => ?_)
          refine ez_cVv (As := []) (rest := []) h (fun _ q => c_X9_advance q) hC k_X9_advance ql_RX4_66 rfl (by decide) hS (fun _ q => ez_rcv q) rfl hl.1 rfl (Nat.le_of_ble_eq_true rfl) ⟨Nat.zero_le _, Nat.zero_le _⟩ dX4_readTerm_37 (fun _ σ H locs hS h => ?_)
          refine lv_aload_n hx hb dX4_readTerm_40 rfl (lv_at hl 1 rfl) ?_
          refine lv_iload_n hx hb dX4_readTerm_41 rfl (lv_at hl 2 rfl) ?_
          refine ez_cVi (As := [.int 7]) (rest := []) h (fun _ q => c_X4_readUnit_k7 q) hC k_X4_readUnit ql_RX4_235 rfl (by decide) hS (fun _ q => ez_rcv q) rfl hl.1 rfl (Nat.le_of_ble_eq_true rfl) ⟨Nat.zero_le _, Nat.zero_le _⟩ dX4_readTerm_42 (fun t_42 σ H locs hS h => ?_)
          refine lv_istore_n (lv' := [(2, .int t_42), (4, .int t_28), (0, .ref (B + h0)), (1, .int 7), (3, .int x3)]) hx hb dX4_readTerm_45 rfl hl (by decide) rfl (fun ls hl => ?_)
          refine lv_aload_n hx hb dX4_readTerm_46 rfl (lv_at hl 2 rfl) ?_
          refine eg_RX4_12 hC hS h dX4_readTerm_47 (fun t_47 h => ?_)
          refine eg_RX4_214 hC hS h dX4_readTerm_50 (fun t_50 h => ?_)
          refine lv_iload hx hb dX4_readTerm_53 (lv_at hl 1 rfl) ?_
          refine lv_iconst (v := 0) hx hb dX4_readTerm_55 (by decide) ?_
          refine ez_cVv (As := [.int t_28, .int 0]) (rest := []) h (fun _ q => c_X0_append q) hC k_X0_append ql_RX4_220 rfl (by decide) hS (fun _ q => ez_rcv q) rfl hl.1 rfl (Nat.le_of_ble_eq_true rfl) ⟨Nat.zero_le _, Nat.zero_le _⟩ dX4_readTerm_56 (fun _ σ H locs hS h => ?_)
          obtain ⟨t_59, e_59, h⟩ := ez_let_sp h
          refine lv_iinc (v := t_59) (lv' := [(3, .int t_59), (2, .int t_42), (4, .int t_28), (0, .ref (B + h0)), (1, .int 7)]) hx hb dX4_readTerm_59 hl (k := 4) rfl (by rw [e_59]; rfl) (by decide) rfl (fun ls hl => ?_)
          refine lv_goto (tgt := 8) hx hb dX4_readTerm_62 (by decide) ?_
          exact hk_8 σ h0 t_42 t_59 _ _ _ hS h (lv_sub hl [3, 4, 1, 0] rfl)
  have E_8 : ∀ (σ : ez_H) (h0 : Nat) (x2 : Int32) (x3 : Int32) (H : Heap) (locs : List Loc) (ls : Array Slot), ez_S X B s.heap (σ0.length) σ H locs → (ez_fix (fun _ _ _ _ => none) (z_X4_readTerm_k7_8) ez_N) σ h0 x2 x3 = some z → lv_has ls 5 [(0, .ref (B + h0)), (1, .int 7), (2, .int x2), (3, .int x3)] → W p l e R s m args below meth c H locs 0 0 Q (F0 m 8 ls []) := ez_fix_ind (fun k_8 : ez_H → Nat → Int32 → Int32 → Option (Int32 × ez_H) => ∀ (σ : ez_H) (h0 : Nat) (x2 : Int32) (x3 : Int32) (H : Heap) (locs : List Loc) (ls : Array Slot), ez_S X B s.heap (σ0.length) σ H locs → k_8 σ h0 x2 x3 = some z → lv_has ls 5 [(0, .ref (B + h0)), (1, .int 7), (2, .int x2), (3, .int x3)] → W p l e R s m args below meth c H locs 0 0 Q (F0 m 8 ls [])) (fun _ _ _ _ _ _ _ _ h _ => by cases h) (fun k_8 hk_8 => K_8 k_8 hk_8) ez_N
  refine lv_aload_n hx hb dX4_readTerm_0 rfl (lv_at hl 0 rfl) ?_
  refine lv_iload_n hx hb dX4_readTerm_1 rfl (lv_at hl 1 rfl) ?_
  refine ez_cVi (As := [.int 7]) (rest := []) h (fun _ q => c_X4_readUnit_k7 q) hC k_X4_readUnit ql_RX4_235 rfl (by decide) hS (fun _ q => ez_rcv q) rfl hl.1 rfl (Nat.le_of_ble_eq_true rfl) ⟨Nat.zero_le _, Nat.zero_le _⟩ dX4_readTerm_2 (fun t_2 σ H locs hS h => ?_)
  refine lv_istore_n (lv' := [(2, .int t_2), (0, .ref (B + h0)), (1, .int 7)]) hx hb dX4_readTerm_5 rfl hl (by decide) rfl (fun ls hl => ?_)
  refine lv_iconst (v := 0) hx hb dX4_readTerm_6 (by decide) ?_
  refine lv_istore_n (lv' := [(3, .int 0), (2, .int t_2), (0, .ref (B + h0)), (1, .int 7)]) hx hb dX4_readTerm_7 rfl hl (by decide) rfl (fun ls hl => ?_)
  exact E_8  σ h0 t_2 (0 : Int32) _ _ _ hS h (lv_sub hl [2, 3, 1, 0] rfl)
set_option maxHeartbeats 4000000 in
set_option maxRecDepth 100000 in
theorem c_X4_readSum_k7 {l : Launch} {X : ez_X} {B : Nat} {σ : ez_H} {h0 : Nat} {z : Int32 × ez_H} (h : z_X4_readSum_k7 σ h0 = some z) : ez_M l X B σ yX4_readSum cX4_readSum 5 (some .boolean) 7 [.ref (B + h0), .int 7] (some (.int z.1)) z.2 := by
  refine ez_starti (z := z) (by decide) (Nat.le_of_ble_eq_true rfl) (fun p e R s m args below meth c Q hC hret hS ls hl => ?_)
  have hC : ez_C p R s m args c X B RX4 cX4_readSum 5 7 := hC
  have hx := hC.1.1
  have hb := hC.1.2.1
  have hown := hC.1.2.2.2.1
  have hts := hC.1.2.2.2.2
  have hl : lv_has ls 5 [(0, .ref (B + h0)), (1, .int 7)] := hl
  obtain ⟨σ0, eσ⟩ : ∃ σ0 : ez_H, σ0 = σ := ⟨_, rfl⟩
  rw [← eσ] at hret
  have hS : ez_S X B s.heap σ0.length σ s.heap [] := eσ ▸ hS
  obtain ⟨-, h⟩ := ez_in h
  have K_96 : ∀ (σ : ez_H) (x2 : Int32) (H : Heap) (locs : List Loc) (ls : Array Slot), ez_S X B s.heap (σ0.length) σ H locs → z_X4_readSum_k7_96 σ x2 = some z → lv_has ls 5 [(2, .int x2)] → W p l e R s m args below meth c H locs 0 0 Q (F0 m 96 ls []) := by
    intro σ x2 H locs ls hS h hl
    refine lv_iload_n hx hb dX4_readSum_96 rfl (lv_at hl 0 rfl) ?_
    obtain ⟨hn, h⟩ := ez_nr_sp rfl h
    exact hret _ _ _ _ _ _ (Option.some.inj h) hn hS dX4_readSum_97
  have K_62 : ∀ (k_8 : ez_H → Nat → Int32 → Int32 → Option (Int32 × ez_H)) (hk_8 : ∀ (σ : ez_H) (h0 : Nat) (x2 : Int32) (x3 : Int32) (H : Heap) (locs : List Loc) (ls : Array Slot), ez_S X B s.heap (σ0.length) σ H locs → k_8 σ h0 x2 x3 = some z → lv_has ls 5 [(0, .ref (B + h0)), (1, .int 7), (2, .int x2), (3, .int x3)] → W p l e R s m args below meth c H locs 0 0 Q (F0 m 8 ls [])), ∀ (σ : ez_H) (h0 : Nat) (x3 : Int32) (y0 : Int32) (H : Heap) (locs : List Loc) (ls : Array Slot), ez_S X B s.heap (σ0.length) σ H locs → z_X4_readSum_k7_62 k_8 σ h0 x3 y0 = some z → lv_has ls 5 [(0, .ref (B + h0)), (1, .int 7), (3, .int x3)] → W p l e R s m args below meth c H locs 0 0 Q (F0 m 62 ls [.int y0]) := by
    intro k_8 hk_8 σ h0 x3 y0 H locs ls hS h hl
    refine lv_istore (lv' := [(4, .int y0), (0, .ref (B + h0)), (1, .int 7), (3, .int x3)]) hx hb dX4_readSum_62 hl (by decide) rfl (fun ls hl => ?_)
    refine lv_aload_n hx hb dX4_readSum_64 rfl (lv_at hl 1 rfl) ?_
    refine eg_RX4_30 hC hS h dX4_readSum_65 (fun t_65 h => ?_)
    refine ez_cVv (As := []) (rest := []) h (fun _ q => c_X9_advance q) hC k_X9_advance ql_RX4_66 rfl (by decide) hS (fun _ q => ez_rcv q) rfl hl.1 rfl (Nat.le_of_ble_eq_true rfl) ⟨Nat.zero_le _, Nat.zero_le _⟩ dX4_readSum_68 (fun _ σ H locs hS h => ?_)
    refine lv_aload_n hx hb dX4_readSum_71 rfl (lv_at hl 1 rfl) ?_
    refine lv_iload_n hx hb dX4_readSum_72 rfl (lv_at hl 2 rfl) ?_
    refine ez_cVi (As := [.int 7]) (rest := []) h (fun _ q => c_X4_readTerm_k7 q) hC k_X4_readTerm ql_RX4_232 rfl (by decide) hS (fun _ q => ez_rcv q) rfl hl.1 rfl (Nat.le_of_ble_eq_true rfl) ⟨Nat.zero_le _, Nat.zero_le _⟩ dX4_readSum_73 (fun t_73 σ H locs hS h => ?_)
    refine lv_istore_n (lv' := [(2, .int t_73), (4, .int y0), (0, .ref (B + h0)), (1, .int 7), (3, .int x3)]) hx hb dX4_readSum_76 rfl hl (by decide) rfl (fun ls hl => ?_)
    refine lv_aload_n hx hb dX4_readSum_77 rfl (lv_at hl 2 rfl) ?_
    refine eg_RX4_12 hC hS h dX4_readSum_78 (fun t_78 h => ?_)
    refine eg_RX4_214 hC hS h dX4_readSum_81 (fun t_81 h => ?_)
    refine lv_iload hx hb dX4_readSum_84 (lv_at hl 1 rfl) ?_
    refine lv_iconst (v := 0) hx hb dX4_readSum_86 (by decide) ?_
    refine ez_cVv (As := [.int y0, .int 0]) (rest := []) h (fun _ q => c_X0_append q) hC k_X0_append ql_RX4_220 rfl (by decide) hS (fun _ q => ez_rcv q) rfl hl.1 rfl (Nat.le_of_ble_eq_true rfl) ⟨Nat.zero_le _, Nat.zero_le _⟩ dX4_readSum_87 (fun _ σ H locs hS h => ?_)
    obtain ⟨t_90, e_90, h⟩ := ez_let_sp h
    refine lv_iinc (v := t_90) (lv' := [(3, .int t_90), (2, .int t_73), (4, .int y0), (0, .ref (B + h0)), (1, .int 7)]) hx hb dX4_readSum_90 hl (k := 4) rfl (by rw [e_90]; rfl) (by decide) rfl (fun ls hl => ?_)
    refine lv_goto (tgt := 8) hx hb dX4_readSum_93 (by decide) ?_
    exact hk_8 σ h0 t_73 t_90 _ _ _ hS h (lv_sub hl [3, 4, 1, 0] rfl)
  have K_43 : ∀ (k_8 : ez_H → Nat → Int32 → Int32 → Option (Int32 × ez_H)) (hk_8 : ∀ (σ : ez_H) (h0 : Nat) (x2 : Int32) (x3 : Int32) (H : Heap) (locs : List Loc) (ls : Array Slot), ez_S X B s.heap (σ0.length) σ H locs → k_8 σ h0 x2 x3 = some z → lv_has ls 5 [(0, .ref (B + h0)), (1, .int 7), (2, .int x2), (3, .int x3)] → W p l e R s m args below meth c H locs 0 0 Q (F0 m 8 ls [])), ∀ (σ : ez_H) (h0 : Nat) (x3 : Int32) (H : Heap) (locs : List Loc) (ls : Array Slot), ez_S X B s.heap (σ0.length) σ H locs → z_X4_readSum_k7_43 k_8 σ h0 x3 = some z → lv_has ls 5 [(0, .ref (B + h0)), (1, .int 7), (3, .int x3)] → W p l e R s m args below meth c H locs 0 0 Q (F0 m 43 ls []) := by
    intro k_8 hk_8 σ h0 x3 H locs ls hS h hl
    refine lv_aload_n hx hb dX4_readSum_43 rfl (lv_at hl 0 rfl) ?_
    refine eg_RX4_30 hC hS h dX4_readSum_44 (fun t_44 h => ?_)
    refine eg_RX4_49 hC hS h dX4_readSum_47 (fun t_47 h => ?_)
    refine lv_bipush (v := 43) hx hb dX4_readSum_50 (by decide) ?_
    refine lv_icmp_ne (tgt := 60) hx hb dX4_readSum_52 (by decide) (fun c_52 => ?_) (fun c_52 => ?_)
    · replace h := ez_ifn h c_52
      refine lv_bipush (v := 12) hx hb dX4_readSum_60 (by decide) ?_
      exact K_62 k_8 hk_8 σ h0 x3 (12 : Int32) _ _ _ hS h (lv_sub hl [0, 1, 2] rfl)
    · replace h := ez_ifp h c_52
      refine lv_bipush (v := 11) hx hb dX4_readSum_55 (by decide) ?_
      refine lv_goto (tgt := 62) hx hb dX4_readSum_57 (by decide) ?_
      exact K_62 k_8 hk_8 σ h0 x3 (11 : Int32) _ _ _ hS h (lv_sub hl [0, 1, 2] rfl)
  have K_8 : ∀ (k_8 : ez_H → Nat → Int32 → Int32 → Option (Int32 × ez_H)) (hk_8 : ∀ (σ : ez_H) (h0 : Nat) (x2 : Int32) (x3 : Int32) (H : Heap) (locs : List Loc) (ls : Array Slot), ez_S X B s.heap (σ0.length) σ H locs → k_8 σ h0 x2 x3 = some z → lv_has ls 5 [(0, .ref (B + h0)), (1, .int 7), (2, .int x2), (3, .int x3)] → W p l e R s m args below meth c H locs 0 0 Q (F0 m 8 ls [])), ∀ (σ : ez_H) (h0 : Nat) (x2 : Int32) (x3 : Int32) (H : Heap) (locs : List Loc) (ls : Array Slot), ez_S X B s.heap (σ0.length) σ H locs → z_X4_readSum_k7_8 k_8 σ h0 x2 x3 = some z → lv_has ls 5 [(0, .ref (B + h0)), (1, .int 7), (2, .int x2), (3, .int x3)] → W p l e R s m args below meth c H locs 0 0 Q (F0 m 8 ls []) := by
    intro k_8 hk_8 σ h0 x2 x3 H locs ls hS h hl
    refine lv_iload_n hx hb dX4_readSum_8 rfl (lv_at hl 3 rfl) ?_
    refine lv_sipush (v := 1600) hx hb dX4_readSum_9 (by decide) ?_
    refine lv_icmp_ge (tgt := 96) hx hb dX4_readSum_12 (by decide) (fun c_12 => ?_) (fun c_12 => ?_)
    · replace h := ez_ifp h c_12
      exact K_96  σ x2 _ _ _ hS h (lv_sub hl [2] rfl)
    · replace h := ez_ifn h c_12
      refine lv_iload_n hx hb dX4_readSum_15 rfl (lv_at hl 2 rfl) ?_
      refine lv_if_eq (tgt := 96) hx hb dX4_readSum_16 (by decide) (fun c_16 => ?_) (fun c_16 => ?_)
      · replace h := ez_ifp h c_16
        exact K_96  σ x2 _ _ _ hS h (lv_sub hl [2] rfl)
      · replace h := ez_ifn h c_16
        refine lv_aload_n hx hb dX4_readSum_19 rfl (lv_at hl 0 rfl) ?_
        refine eg_RX4_30 hC hS h dX4_readSum_20 (fun t_20 h => ?_)
        refine eg_RX4_49 hC hS h dX4_readSum_23 (fun t_23 h => ?_)
        refine lv_bipush (v := 43) hx hb dX4_readSum_26 (by decide) ?_
        refine lv_icmp_eq (tgt := 43) hx hb dX4_readSum_28 (by decide) (fun c_28 => ?_) (fun c_28 => ?_)
        · replace h := ez_ifp h c_28
          exact K_43 k_8 hk_8 σ h0 x3 _ _ _ hS h (lv_sub hl [0, 1, 3] rfl)
        · replace h := ez_ifn h c_28
          refine lv_aload_n hx hb dX4_readSum_31 rfl (lv_at hl 0 rfl) ?_
          refine eg_RX4_30 hC hS h dX4_readSum_32 (fun t_32 h => ?_)
          refine eg_RX4_49 hC hS h dX4_readSum_35 (fun t_35 h => ?_)
          refine lv_bipush (v := 45) hx hb dX4_readSum_38 (by decide) ?_
          refine lv_icmp_ne (tgt := 96) hx hb dX4_readSum_40 (by decide) (fun c_40 => ?_) (fun c_40 => ?_)
          · replace h := ez_ifn h c_40
            exact K_96  σ x2 _ _ _ hS h (lv_sub hl [2] rfl)
          · replace h := ez_ifp h c_40
            exact K_43 k_8 hk_8 σ h0 x3 _ _ _ hS h (lv_sub hl [0, 1, 3] rfl)
  have E_8 : ∀ (σ : ez_H) (h0 : Nat) (x2 : Int32) (x3 : Int32) (H : Heap) (locs : List Loc) (ls : Array Slot), ez_S X B s.heap (σ0.length) σ H locs → (ez_fix (fun _ _ _ _ => none) (z_X4_readSum_k7_8) ez_N) σ h0 x2 x3 = some z → lv_has ls 5 [(0, .ref (B + h0)), (1, .int 7), (2, .int x2), (3, .int x3)] → W p l e R s m args below meth c H locs 0 0 Q (F0 m 8 ls []) := ez_fix_ind (fun k_8 : ez_H → Nat → Int32 → Int32 → Option (Int32 × ez_H) => ∀ (σ : ez_H) (h0 : Nat) (x2 : Int32) (x3 : Int32) (H : Heap) (locs : List Loc) (ls : Array Slot), ez_S X B s.heap (σ0.length) σ H locs → k_8 σ h0 x2 x3 = some z → lv_has ls 5 [(0, .ref (B + h0)), (1, .int 7), (2, .int x2), (3, .int x3)] → W p l e R s m args below meth c H locs 0 0 Q (F0 m 8 ls [])) (fun _ _ _ _ _ _ _ _ h _ => by cases h) (fun k_8 hk_8 => K_8 k_8 hk_8) ez_N
  refine lv_aload_n hx hb dX4_readSum_0 rfl (lv_at hl 0 rfl) ?_
  refine lv_iload_n hx hb dX4_readSum_1 rfl (lv_at hl 1 rfl) ?_
  refine ez_cVi (As := [.int 7]) (rest := []) h (fun _ q => c_X4_readTerm_k7 q) hC k_X4_readTerm ql_RX4_232 rfl (by decide) hS (fun _ q => ez_rcv q) rfl hl.1 rfl (Nat.le_of_ble_eq_true rfl) ⟨Nat.zero_le _, Nat.zero_le _⟩ dX4_readSum_2 (fun t_2 σ H locs hS h => ?_)
  refine lv_istore_n (lv' := [(2, .int t_2), (0, .ref (B + h0)), (1, .int 7)]) hx hb dX4_readSum_5 rfl hl (by decide) rfl (fun ls hl => ?_)
  refine lv_iconst (v := 0) hx hb dX4_readSum_6 (by decide) ?_
  refine lv_istore_n (lv' := [(3, .int 0), (2, .int t_2), (0, .ref (B + h0)), (1, .int 7)]) hx hb dX4_readSum_7 rfl hl (by decide) rfl (fun ls hl => ?_)
  exact E_8  σ h0 t_2 (0 : Int32) _ _ _ hS h (lv_sub hl [2, 3, 1, 0] rfl)
