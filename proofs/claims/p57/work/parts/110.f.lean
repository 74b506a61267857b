set_option maxRecDepth 100000 in
noncomputable def z_X9_readNumber_101 (σ : ez_H) (y0 : Nat) (y1 : Int32) : Option (Unit × ez_H) :=
  ez_bd (ez_pf σ 9 y0 4 (.inl y1)) fun σ =>
  some ((), σ)
set_option maxRecDepth 100000 in
noncomputable def z_X9_readNumber_94 (σ : ez_H) (y0 : Nat) : Option (Unit × ez_H) :=
  z_X9_readNumber_101  σ y0 (25 : Int32)
set_option maxRecDepth 100000 in
noncomputable def z_X9_readNumber_66 (σ : ez_H) (h0 : Nat) : Option (Unit × ez_H) :=
  ez_bd (ez_gi σ 9 h0 3) fun t_68 =>
  ez_bd (ez_gi σ 9 h0 5) fun t_72 =>
  ez_let (t_68 - t_72) fun t_75 =>
  if (4 : Int32) < t_75 then (
  z_X9_readNumber_94  σ h0
  ) else (
  ez_bd (ez_gi σ 9 h0 3) fun t_82 =>
  ez_bd (z_X9_byteAt σ h0 t_82) fun t_85 =>
  ez_bd (z_X9_isLetter σ t_85) fun t_88 =>
  if t_88 = (0 : Int32) then (
  z_X9_readNumber_101  σ h0 (24 : Int32)
  ) else (
  z_X9_readNumber_94  σ h0
  )
  )
set_option maxRecDepth 100000 in
noncomputable def z_X9_readNumber_5 (k_5 : ez_H → Nat → Option (Unit × ez_H)) (σ : ez_H) (h0 : Nat) : Option (Unit × ez_H) :=
  ez_bd (ez_gi σ 9 h0 3) fun t_6 =>
  ez_bd (ez_gi σ 9 h0 2) fun t_10 =>
  if t_10 ≤ t_6 then (
  z_X9_readNumber_66  σ h0
  ) else (
  ez_bd (ez_gi σ 9 h0 3) fun t_18 =>
  ez_bd (z_X9_byteAt σ h0 t_18) fun t_21 =>
  ez_bd (z_X9_isDigit σ t_21) fun t_24 =>
  if t_24 = (0 : Int32) then (
  z_X9_readNumber_66  σ h0
  ) else (
  ez_bd (ez_gi σ 9 h0 6) fun t_32 =>
  ez_let (t_32 * (10 : Int32)) fun t_37 =>
  ez_bd (ez_gi σ 9 h0 3) fun t_40 =>
  ez_bd (z_X9_byteAt σ h0 t_40) fun t_43 =>
  ez_let (t_43 - (48 : Int32)) fun t_48 =>
  ez_let (t_37 + t_48) fun t_49 =>
  ez_bd (ez_pf σ 9 h0 6 (.inl t_49)) fun σ =>
  ez_bd (ez_gi σ 9 h0 3) fun t_55 =>
  ez_let (t_55 + (1 : Int32)) fun t_59 =>
  ez_bd (ez_pf σ 9 h0 3 (.inl t_59)) fun σ =>
  k_5 σ h0
  )
  )
set_option maxRecDepth 100000 in
noncomputable def z_X9_readNumber (σ : ez_H) (h0 : Nat) : Option (Unit × ez_H) :=
  ez_bd (ez_ob σ 9 h0) fun _ =>
  ez_bd (ez_pf σ 9 h0 6 (.inl (0 : Int32))) fun σ =>
  ez_fix (fun _ _ => none) (z_X9_readNumber_5 ) ez_N σ h0
set_option maxHeartbeats 4000000 in
set_option maxRecDepth 100000 in
theorem c_X9_readNumber {l : Launch} {X : ez_X} {B : Nat} {σ : ez_H} {h0 : Nat} {z : Unit × ez_H} (h : z_X9_readNumber σ h0 = some z) : ez_M l X B σ yX9_readNumber cX9_readNumber 1 (none) 1 [.ref (B + h0)] (none) z.2 := by
  refine ez_startv (z := z) (by decide) (Nat.le_of_ble_eq_true rfl) (fun p e R s m args below meth c Q hC hret hS ls hl => ?_)
  have hC : ez_C p R s m args c X B RX9 cX9_readNumber 1 1 := hC
  have hx := hC.1.1
  have hb := hC.1.2.1
  have hown := hC.1.2.2.2.1
  have hts := hC.1.2.2.2.2
  have hl : lv_has ls 1 [(0, .ref (B + h0))] := hl
  obtain ⟨σ0, eσ⟩ : ∃ σ0 : ez_H, σ0 = σ := ⟨_, rfl⟩
  rw [← eσ] at hret
  have hS : ez_S X B s.heap σ0.length σ s.heap [] := eσ ▸ hS
  obtain ⟨-, h⟩ := ez_in h
  have K_101 : ∀ (σ : ez_H) (y0 : Nat) (y1 : Int32) (H : Heap) (locs : List Loc) (ls : Array Slot), ez_S X B s.heap (σ0.length) σ H locs → z_X9_readNumber_101 σ y0 y1 = some z → lv_has ls 1 [] → W p l e R s m args below meth c H locs 0 0 Q (F0 m 101 ls [.int y1, .ref (B + y0)]) := by
    intro σ y0 y1 H locs ls hS h hl
    refine ep_RX9_59 hC hS h dX9_readNumber_101 (fun σ H locs hS h => ?_)
    exact hret _ _ _ _ _ _ (Option.some.inj h) hS dX9_readNumber_104
  have K_94 : ∀ (σ : ez_H) (y0 : Nat) (H : Heap) (locs : List Loc) (ls : Array Slot), ez_S X B s.heap (σ0.length) σ H locs → z_X9_readNumber_94 σ y0 = some z → lv_has ls 1 [] → W p l e R s m args below meth c H locs 0 0 Q (F0 m 94 ls [.ref (B + y0)]) := by
    intro σ y0 H locs ls hS h hl
    refine lv_bipush (v := 25) hx hb dX9_readNumber_94 (by decide) ?_
    refine lv_goto (tgt := 101) hx hb dX9_readNumber_96 (by decide) ?_
    exact K_101  σ y0 (25 : Int32) _ _ _ hS h (lv_sub hl [] rfl)
  have K_66 : ∀ (σ : ez_H) (h0 : Nat) (H : Heap) (locs : List Loc) (ls : Array Slot), ez_S X B s.heap (σ0.length) σ H locs → z_X9_readNumber_66 σ h0 = some z → lv_has ls 1 [(0, .ref (B + h0))] → W p l e R s m args below meth c H locs 0 0 Q (F0 m 66 ls []) := by
    intro σ h0 H locs ls hS h hl
    refine lv_aload_n hx hb dX9_readNumber_66 rfl (lv_at hl 0 rfl) ?_
    refine lv_aload_n hx hb dX9_readNumber_67 rfl (lv_at hl 0 rfl) ?_
    refine eg_RX9_44 hC hS h dX9_readNumber_68 (fun t_68 h => ?_)
    refine lv_aload_n hx hb dX9_readNumber_71 rfl (lv_at hl 0 rfl) ?_
    refine eg_RX9_56 hC hS h dX9_readNumber_72 (fun t_72 h => ?_)
    refine lv_isub hx hb dX9_readNumber_75 ?_
    refine ez_top h (fun t_75 h => ?_)
    refine lv_iconst (v := 4) hx hb dX9_readNumber_76 (by decide) ?_
    refine lv_icmp_gt (tgt := 94) hx hb dX9_readNumber_77 (by decide) (fun c_77 => ?_) (fun c_77 => ?_)
    · replace h := ez_ifp h c_77
      exact K_94  σ h0 _ _ _ hS h (lv_sub hl [] rfl)
    · replace h := ez_ifn h c_77
      refine lv_aload_n hx hb dX9_readNumber_80 rfl (lv_at hl 0 rfl) ?_
      refine lv_aload_n hx hb dX9_readNumber_81 rfl (lv_at hl 0 rfl) ?_
      refine eg_RX9_44 hC hS h dX9_readNumber_82 (fun t_82 h => ?_)
      refine ez_cVpi (As := [.int t_82]) (rest := [.ref (B + h0)]) h (fun _ q => c_X9_byteAt q) hC k_X9_byteAt ql_RX9_52 rfl (by decide) hS (fun _ q => ez_rcv q) rfl hl.1 rfl (Nat.le_of_ble_eq_true rfl) ⟨Nat.zero_le _, Nat.zero_le _⟩ dX9_readNumber_85 (fun t_85 H locs hS h => ?_)
      refine ez_cSpi (As := [.int t_85]) (rest := [.ref (B + h0)]) h (fun _ q => c_X9_isLetter q) hC k_X9_isLetter ql_RX9_62 rfl (by decide) hS hl.1 rfl (Nat.le_of_ble_eq_true rfl) ⟨Nat.zero_le _, Nat.zero_le _⟩ dX9_readNumber_88 (fun t_88 H locs hS h => ?_)
      refine lv_if_eq (tgt := 99) hx hb dX9_readNumber_91 (by decide) (fun c_91 => ?_) (fun c_91 => ?_)
      · replace h := ez_ifp h c_91
        refine lv_bipush (v := 24) hx hb dX9_readNumber_99 (by decide) ?_
        exact K_101  σ h0 (24 : Int32) _ _ _ hS h (lv_sub hl [] rfl)
      · replace h := ez_ifn h c_91
        exact K_94  σ h0 _ _ _ hS h (lv_sub hl [] rfl)
  have K_5 : ∀ (k_5 : ez_H → Nat → Option (Unit × ez_H)) (hk_5 : ∀ (σ : ez_H) (h0 : Nat) (H : Heap) (locs : List Loc) (ls : Array Slot), ez_S X B s.heap (σ0.length) σ H locs → k_5 σ h0 = some z → lv_has ls 1 [(0, .ref (B + h0))] → W p l e R s m args below meth c H locs 0 0 Q (F0 m 5 ls [])), ∀ (σ : ez_H) (h0 : Nat) (H : Heap) (locs : List Loc) (ls : Array Slot), ez_S X B s.heap (σ0.length) σ H locs → z_X9_readNumber_5 k_5 σ h0 = some z → lv_has ls 1 [(0, .ref (B + h0))] → W p l e R s m args below meth c H locs 0 0 Q (F0 m 5 ls []) := by
    intro k_5 hk_5 σ h0 H locs ls hS h hl
    refine lv_aload_n hx hb dX9_readNumber_5 rfl (lv_at hl 0 rfl) ?_
    refine eg_RX9_44 hC hS h dX9_readNumber_6 (fun t_6 h => ?_)
    refine lv_aload_n hx hb dX9_readNumber_9 rfl (lv_at hl 0 rfl) ?_
    refine eg_RX9_41 hC hS h dX9_readNumber_10 (fun t_10 h => ?_)
    refine lv_icmp_ge (tgt := 66) hx hb dX9_readNumber_13 (by decide) (fun c_13 => ?_) (fun c_13 => ?_)
    · replace h := ez_ifp h c_13
      exact K_66  σ h0 _ _ _ hS h (lv_sub hl [0] rfl)
    · replace h := ez_ifn h c_13
      refine lv_aload_n hx hb dX9_readNumber_16 rfl (lv_at hl 0 rfl) ?_
      refine lv_aload_n hx hb dX9_readNumber_17 rfl (lv_at hl 0 rfl) ?_
      refine eg_RX9_44 hC hS h dX9_readNumber_18 (fun t_18 h => ?_)
      refine ez_cVpi (As := [.int t_18]) (rest := []) h (fun _ q => c_X9_byteAt q) hC k_X9_byteAt ql_RX9_52 rfl (by decide) hS (fun _ q => ez_rcv q) rfl hl.1 rfl (Nat.le_of_ble_eq_true rfl) ⟨Nat.zero_le _, Nat.zero_le _⟩ dX9_readNumber_21 (fun t_21 H locs hS h => ?_)
      refine ez_cSpi (As := [.int t_21]) (rest := []) h (fun _ q => c_X9_isDigit q) hC k_X9_isDigit ql_RX9_69 rfl (by decide) hS hl.1 rfl (Nat.le_of_ble_eq_true rfl) ⟨Nat.zero_le _, Nat.zero_le _⟩ dX9_readNumber_24 (fun t_24 H locs hS h => ?_)
      refine lv_if_eq (tgt := 66) hx hb dX9_readNumber_27 (by decide) (fun c_27 => ?_) (fun c_27 => ?_)
      · replace h := ez_ifp h c_27
        exact K_66  σ h0 _ _ _ hS h (lv_sub hl [0] rfl)
      · replace h := ez_ifn h c_27
        refine lv_aload_n hx hb dX9_readNumber_30 rfl (lv_at hl 0 rfl) ?_
        refine lv_aload_n hx hb dX9_readNumber_31 rfl (lv_at hl 0 rfl) ?_
        refine eg_RX9_84 hC hS h dX9_readNumber_32 (fun t_32 h => ?_)
        refine lv_bipush (v := 10) hx hb dX9_readNumber_35 (by decide) ?_
        refine lv_imul hx hb dX9_readNumber_37 ?_
        refine ez_top h (fun t_37 h => ?_)
        refine lv_aload_n hx hb dX9_readNumber_38 rfl (lv_at hl 0 rfl) ?_
        refine lv_aload_n hx hb dX9_readNumber_39 rfl (lv_at hl 0 rfl) ?_
        refine eg_RX9_44 hC hS h dX9_readNumber_40 (fun t_40 h => ?_)
        refine ez_cVpi (As := [.int t_40]) (rest := [.int t_37, .ref (B + h0)]) h (fun _ q => c_X9_byteAt q) hC k_X9_byteAt ql_RX9_52 rfl (by decide) hS (fun _ q => ez_rcv q) rfl hl.1 rfl (Nat.le_of_ble_eq_true rfl) ⟨Nat.zero_le _, Nat.zero_le _⟩ dX9_readNumber_43 (fun t_43 H locs hS h => ?_)
        refine lv_bipush (v := 48) hx hb dX9_readNumber_46 (by decide) ?_
        refine lv_isub hx hb dX9_readNumber_48 ?_
        refine ez_top h (fun t_48 h => ?_)
        refine lv_iadd hx hb dX9_readNumber_49 ?_
        refine ez_top h (fun t_49 h => ?_)
        refine ep_RX9_84 hC hS h dX9_readNumber_50 (fun σ H locs hS h => ?_)
        refine lv_aload_n hx hb dX9_readNumber_53 rfl (lv_at hl 0 rfl) ?_
        refine lv_dup hx hb dX9_readNumber_54 rfl ?_
        refine eg_RX9_44 hC hS h dX9_readNumber_55 (fun t_55 h => ?_)
        refine lv_iconst (v := 1) hx hb dX9_readNumber_58 (by decide) ?_
        refine lv_iadd hx hb dX9_readNumber_59 ?_
        refine ez_top h (fun t_59 h => ?_)
        refine ep_RX9_44 hC hS h dX9_readNumber_60 (fun σ H locs hS h => ?_)
        refine lv_goto (tgt := 5) hx hb dX9_readNumber_63 (by decide) ?_
        exact hk_5 σ h0 _ _ _ hS h (lv_sub hl [0] rfl)
  have E_5 : ∀ (σ : ez_H) (h0 : Nat) (H : Heap) (locs : List Loc) (ls : Array Slot), ez_S X B s.heap (σ0.length) σ H locs → (ez_fix (fun _ _ => none) (z_X9_readNumber_5) ez_N) σ h0 = some z → lv_has ls 1 [(0, .ref (B + h0))] → W p l e R s m args below meth c H locs 0 0 Q (F0 m 5 ls []) := ez_fix_ind (fun k_5 : ez_H → Nat → Option (Unit × ez_H) => ∀ (σ : ez_H) (h0 : Nat) (H : Heap) (locs : List Loc) (ls : Array Slot), ez_S X B s.heap (σ0.length) σ H locs → k_5 σ h0 = some z → lv_has ls 1 [(0, .ref (B + h0))] → W p l e R s m args below meth c H locs 0 0 Q (F0 m 5 ls [])) (fun _ _ _ _ _ _ h _ => by cases h) (fun k_5 hk_5 => K_5 k_5 hk_5) ez_N
  refine lv_aload_n hx hb dX9_readNumber_0 rfl (lv_at hl 0 rfl) ?_
  refine lv_iconst (v := 0) hx hb dX9_readNumber_1 (by decide) ?_
  refine ep_RX9_84 hC hS h dX9_readNumber_2 (fun σ H locs hS h => ?_)
  exact E_5  σ h0 _ _ _ hS h (lv_sub hl [0] rfl)
set_option maxRecDepth 100000 in
noncomputable def z_J0_isLatin1_aae02_s1_18 (σ : ez_H) (y0 : Int32) : Option (Int32) :=
  ez_nr .boolean y0 <|
  some y0
set_option maxRecDepth 100000 in
noncomputable def z_J0_isLatin1_aae02_s1 (σ : ez_H) : Option (Int32) :=
  z_J0_isLatin1_aae02_s1_18 σ (1 : Int32)
set_option maxHeartbeats 4000000 in
set_option maxRecDepth 100000 in
theorem c_J0_isLatin1_aae02_s1 {l : Launch} {X : ez_X} {B : Nat} {σ : ez_H} {z : Int32} (h : z_J0_isLatin1_aae02_s1 σ = some z) : ez_M l X B σ yJ0_isLatin1_aae02 cJ0_isLatin1_aae02 1 (some .boolean) 0 [.ref (X.2.2.1 1)] (some (.int z)) σ := by
  refine ez_startip (z := z) (by decide) (Nat.le_of_ble_eq_true rfl) (fun p e R s m args below meth c Q hC hret hS ls hl => ?_)
  have hC : ez_C p R s m args c X B RJ0 cJ0_isLatin1_aae02 1 0 := hC
  have hx := hC.1.1
  have hb := hC.1.2.1
  have hown := hC.1.2.2.2.1
  have hts := hC.1.2.2.2.2
  have hl : lv_has ls 1 [(0, .ref (X.2.2.1 1))] := hl
  obtain ⟨n0, e0⟩ : ∃ n0 : Nat, n0 = σ.length := ⟨_, rfl⟩
  rw [← e0] at hret hS
  have K_18 : ∀ (y0 : Int32) (H : Heap) (locs : List Loc) (ls : Array Slot), ez_S X B s.heap (n0) σ H locs → z_J0_isLatin1_aae02_s1_18 σ y0 = some z → lv_has ls 1 [] → W p l e R s m args below meth c H locs 0 0 Q (F0 m 18 ls [.int y0]) := by
    intro y0 H locs ls hS h hl
    obtain ⟨hn, h⟩ := ez_nr_sp rfl h
    exact hret _ _ _ _ _ (Option.some.inj h) hn hS dJ0_isLatin1_aae02_18
  refine va_gets hx hb hC.2.2.2.2.2.2.2.1 hS.2.2 hown (hts _ qs_RJ0_38) (fun _ h9 => h9) dJ0_isLatin1_aae02_0 ?_
  refine lv_if_eq (tgt := 17) hx hb dJ0_isLatin1_aae02_3 (by decide) (fun c_3 => ?_) (fun c_3 => ?_)
  · exact absurd c_3 (by decide)
  · skip
    refine lv_aload_n hx hb dJ0_isLatin1_aae02_6 rfl (lv_at hl 0 rfl) ?_
    refine vk_getf hx hb (hC.2.2.2.2.1.1 1 (by decide)).2.1 hS.2.2 hown (hts _ qs_RJ0_15) (fun _ h9 => h9) dJ0_isLatin1_aae02_7 ?_
    refine lv_if_ne (tgt := 17) hx hb dJ0_isLatin1_aae02_10 (by decide) (fun c_10 => ?_) (fun c_10 => ?_)
    · exact absurd c_10 (by decide)
    · skip
      refine lv_iconst (v := 1) hx hb dJ0_isLatin1_aae02_13 (by decide) ?_
      refine lv_goto (tgt := 18) hx hb dJ0_isLatin1_aae02_14 (by decide) ?_
      exact K_18  (1 : Int32) _ _ _ hS h (lv_sub hl [] rfl)
set_option maxRecDepth 100000 in
noncomputable def z_J0_coder_7d493_s1_14 (σ : ez_H) (y0 : Int32) : Option (Int32) :=
  ez_nr .byte y0 <|
  some y0
set_option maxRecDepth 100000 in
noncomputable def z_J0_coder_7d493_s1 (σ : ez_H) : Option (Int32) :=
  z_J0_coder_7d493_s1_14 σ (0 : Int32)
set_option maxHeartbeats 4000000 in
set_option maxRecDepth 100000 in
theorem c_J0_coder_7d493_s1 {l : Launch} {X : ez_X} {B : Nat} {σ : ez_H} {z : Int32} (h : z_J0_coder_7d493_s1 σ = some z) : ez_M l X B σ yJ0_coder_7d493 cJ0_coder_7d493 1 (some .byte) 0 [.ref (X.2.2.1 1)] (some (.int z)) σ := by
  refine ez_startip (z := z) (by decide) (Nat.le_of_ble_eq_true rfl) (fun p e R s m args below meth c Q hC hret hS ls hl => ?_)
  have hC : ez_C p R s m args c X B RJ0 cJ0_coder_7d493 1 0 := hC
  have hx := hC.1.1
  have hb := hC.1.2.1
  have hown := hC.1.2.2.2.1
  have hts := hC.1.2.2.2.2
  have hl : lv_has ls 1 [(0, .ref (X.2.2.1 1))] := hl
  obtain ⟨n0, e0⟩ : ∃ n0 : Nat, n0 = σ.length := ⟨_, rfl⟩
  rw [← e0] at hret hS
  have K_14 : ∀ (y0 : Int32) (H : Heap) (locs : List Loc) (ls : Array Slot), ez_S X B s.heap (n0) σ H locs → z_J0_coder_7d493_s1_14 σ y0 = some z → lv_has ls 1 [] → W p l e R s m args below meth c H locs 0 0 Q (F0 m 14 ls [.int y0]) := by
    intro y0 H locs ls hS h hl
    obtain ⟨hn, h⟩ := ez_nr_sp rfl h
    exact hret _ _ _ _ _ (Option.some.inj h) hn hS dJ0_coder_7d493_14
  refine va_gets hx hb hC.2.2.2.2.2.2.2.1 hS.2.2 hown (hts _ qs_RJ0_38) (fun _ h9 => h9) dJ0_coder_7d493_0 ?_
  refine lv_if_eq (tgt := 13) hx hb dJ0_coder_7d493_3 (by decide) (fun c_3 => ?_) (fun c_3 => ?_)
  · exact absurd c_3 (by decide)
  · skip
    refine lv_aload_n hx hb dJ0_coder_7d493_6 rfl (lv_at hl 0 rfl) ?_
    refine vk_getf hx hb (hC.2.2.2.2.1.1 1 (by decide)).2.1 hS.2.2 hown (hts _ qs_RJ0_15) (fun _ h9 => h9) dJ0_coder_7d493_7 ?_
    refine lv_goto (tgt := 14) hx hb dJ0_coder_7d493_10 (by decide) ?_
    exact K_14  (0 : Int32) _ _ _ hS h (lv_sub hl [] rfl)
set_option maxRecDepth 100000 in
noncomputable def z_J0_length_8abf5_s1 (σ : ez_H) : Option (Int32) :=
  ez_bd (z_J0_coder_7d493_s1 σ ) fun t_6 =>
  ez_let ((11 : Int32) >>> (t_6 &&& 31)) fun t_9 =>
  some t_9
set_option maxHeartbeats 4000000 in
set_option maxRecDepth 100000 in
theorem c_J0_length_8abf5_s1 {l : Launch} {X : ez_X} {B : Nat} {σ : ez_H} {z : Int32} (h : z_J0_length_8abf5_s1 σ = some z) : ez_M l X B σ yJ0_length_8abf5 cJ0_length_8abf5 1 (some .int) 1 [.ref (X.2.2.1 1)] (some (.int z)) σ := by
  refine ez_startip (z := z) (by decide) (Nat.le_of_ble_eq_true rfl) (fun p e R s m args below meth c Q hC hret hS ls hl => ?_)
  have hC : ez_C p R s m args c X B RJ0 cJ0_length_8abf5 1 1 := hC
  have hx := hC.1.1
  have hb := hC.1.2.1
  have hown := hC.1.2.2.2.1
  have hts := hC.1.2.2.2.2
  have hl : lv_has ls 1 [(0, .ref (X.2.2.1 1))] := hl
  obtain ⟨n0, e0⟩ : ∃ n0 : Nat, n0 = σ.length := ⟨_, rfl⟩
  rw [← e0] at hret hS
  refine lv_aload_n hx hb dJ0_length_8abf5_0 rfl (lv_at hl 0 rfl) ?_
  refine vk_getf hx hb (hC.2.2.2.2.1.1 1 (by decide)).2.2.1 hS.2.2 hown (hts _ qs_RJ0_9) (fun _ h9 => h9) dJ0_length_8abf5_1 ?_
  refine va_tlen hx hb (hC.2.2.2.2.1.1 1 (by decide)).2.2.2 hS.2.2 (v := 11) (by decide) dJ0_length_8abf5_4 ?_
  refine lv_aload_n hx hb dJ0_length_8abf5_5 rfl (lv_at hl 0 rfl) ?_
  refine ez_cUpi (As := []) (rest := [.int 11]) h (fun _ q => c_J0_coder_7d493_s1 q) hC k_J0_coder_7d493 ql_RJ0_335 rfl (by decide) hS (vk_recv hC.2.2.2.2.1 (i := 1) (by decide) hS.2.2) hl.1 rfl (Nat.le_of_ble_eq_true rfl) ⟨Nat.zero_le _, Nat.zero_le _⟩ dJ0_length_8abf5_6 (fun t_6 H locs hS h => ?_)
  refine lv_ishr hx hb dJ0_length_8abf5_9 ?_
  refine ez_top h (fun t_9 h => ?_)
  exact hret _ _ _ _ _ (Option.some.inj h) rfl hS dJ0_length_8abf5_10
set_option maxRecDepth 100000 in
noncomputable def z_J1_canEncode_9a6ad_16 (σ : ez_H) (y0 : Int32) : Option (Int32) :=
  ez_nr .boolean y0 <|
  some y0
set_option maxRecDepth 100000 in
noncomputable def z_J1_canEncode_9a6ad_15 (σ : ez_H) : Option (Int32) :=
  z_J1_canEncode_9a6ad_16 σ (0 : Int32)
set_option maxRecDepth 100000 in
noncomputable def z_J1_canEncode_9a6ad (σ : ez_H) (x0 : Int32) : Option (Int32) :=
  if x0 < (0 : Int32) then (
  z_J1_canEncode_9a6ad_15 σ 
  ) else (
  if (255 : Int32) < x0 then (
  z_J1_canEncode_9a6ad_15 σ 
  ) else (
  z_J1_canEncode_9a6ad_16 σ (1 : Int32)
  )
  )
set_option maxHeartbeats 4000000 in
set_option maxRecDepth 100000 in
theorem c_J1_canEncode_9a6ad {l : Launch} {X : ez_X} {B : Nat} {σ : ez_H} {x0 : Int32} {z : Int32} (h : z_J1_canEncode_9a6ad σ x0 = some z) : ez_M l X B σ yJ1_canEncode_9a6ad cJ1_canEncode_9a6ad 1 (some .boolean) 0 [.int x0] (some (.int z)) σ := by
  refine ez_startip (z := z) (by decide) (Nat.le_of_ble_eq_true rfl) (fun p e R s m args below meth c Q hC hret hS ls hl => ?_)
  have hC : ez_C p R s m args c X B RJ1 cJ1_canEncode_9a6ad 1 0 := hC
  have hx := hC.1.1
  have hb := hC.1.2.1
  have hown := hC.1.2.2.2.1
  have hts := hC.1.2.2.2.2
  have hl : lv_has ls 1 [(0, .int x0)] := hl
  obtain ⟨n0, e0⟩ : ∃ n0 : Nat, n0 = σ.length := ⟨_, rfl⟩
  rw [← e0] at hret hS
  have K_16 : ∀ (y0 : Int32) (H : Heap) (locs : List Loc) (ls : Array Slot), ez_S X B s.heap (n0) σ H locs → z_J1_canEncode_9a6ad_16 σ y0 = some z → lv_has ls 1 [] → W p l e R s m args below meth c H locs 0 0 Q (F0 m 16 ls [.int y0]) := by
    intro y0 H locs ls hS h hl
    obtain ⟨hn, h⟩ := ez_nr_sp rfl h
    exact hret _ _ _ _ _ (Option.some.inj h) hn hS dJ1_canEncode_9a6ad_16
  have K_15 : ∀ (H : Heap) (locs : List Loc) (ls : Array Slot), ez_S X B s.heap (n0) σ H locs → z_J1_canEncode_9a6ad_15 σ = some z → lv_has ls 1 [] → W p l e R s m args below meth c H locs 0 0 Q (F0 m 15 ls []) := by
    intro  H locs ls hS h hl
    refine lv_iconst (v := 0) hx hb dJ1_canEncode_9a6ad_15 (by decide) ?_
    exact K_16  (0 : Int32) _ _ _ hS h (lv_sub hl [] rfl)
  refine lv_iload_n hx hb dJ1_canEncode_9a6ad_0 rfl (lv_at hl 0 rfl) ?_
  refine lv_if_lt (tgt := 15) hx hb dJ1_canEncode_9a6ad_1 (by decide) (fun c_1 => ?_) (fun c_1 => ?_)
  · replace h := ez_ifp h c_1
    exact K_15   _ _ _ hS h (lv_sub hl [] rfl)
  · replace h := ez_ifn h c_1
    refine lv_iload_n hx hb dJ1_canEncode_9a6ad_4 rfl (lv_at hl 0 rfl) ?_
    refine lv_sipush (v := 255) hx hb dJ1_canEncode_9a6ad_5 (by decide) ?_
    refine lv_icmp_gt (tgt := 15) hx hb dJ1_canEncode_9a6ad_8 (by decide) (fun c_8 => ?_) (fun c_8 => ?_)
    · replace h := ez_ifp h c_8
      exact K_15   _ _ _ hS h (lv_sub hl [] rfl)
    · replace h := ez_ifn h c_8
      refine lv_iconst (v := 1) hx hb dJ1_canEncode_9a6ad_11 (by decide) ?_
      refine lv_goto (tgt := 16) hx hb dJ1_canEncode_9a6ad_12 (by decide) ?_
      exact K_16  (1 : Int32) _ _ _ hS h (lv_sub hl [] rfl)
set_option maxRecDepth 100000 in
noncomputable def z_J1_indexOfChar_4cfef_v1_7 (σ : ez_H) (k_7 : Int32 → Int32 → Int32 → Option (Int32)) (x3 : Int32) (x4 : Int32) (x5 : Int32) : Option (Int32) :=
  if x3 ≤ x5 then (
  some (-1 : Int32)
  ) else (
  ez_bd (ez_tx 1 x5) fun t_16 =>
  if t_16 = x4 then (
  some x5
  ) else (
  ez_let (x5 + 1) fun t_25 =>
  k_7 x3 x4 t_25
  )
  )
set_option maxRecDepth 100000 in
noncomputable def z_J1_indexOfChar_4cfef_v1 (σ : ez_H) (x1 : Int32) (x2 : Int32) (x3 : Int32) : Option (Int32) :=
  ez_let ((Int32.toInt8 x1).toInt32) fun t_1 =>
  ez_fix (fun _ _ _ => none) (z_J1_indexOfChar_4cfef_v1_7 σ) ez_N x3 t_1 x2
set_option maxHeartbeats 4000000 in
set_option maxRecDepth 100000 in
theorem c_J1_indexOfChar_4cfef_v1 {l : Launch} {X : ez_X} {B : Nat} {σ : ez_H} {x1 : Int32} {x2 : Int32} {x3 : Int32} {z : Int32} (h : z_J1_indexOfChar_4cfef_v1 σ x1 x2 x3 = some z) : ez_M l X B σ yJ1_indexOfChar_4cfef cJ1_indexOfChar_4cfef 6 (some .int) 0 [.ref (X.2.2.2 1), .int x1, .int x2, .int x3] (some (.int z)) σ := by
  refine ez_startip (z := z) (by decide) (Nat.le_of_ble_eq_true rfl) (fun p e R s m args below meth c Q hC hret hS ls hl => ?_)
  have hC : ez_C p R s m args c X B RJ1 cJ1_indexOfChar_4cfef 6 0 := hC
  have hx := hC.1.1
  have hb := hC.1.2.1
  have hown := hC.1.2.2.2.1
  have hts := hC.1.2.2.2.2
  have hl : lv_has ls 6 [(0, .ref (X.2.2.2 1)), (1, .int x1), (2, .int x2), (3, .int x3)] := hl
  obtain ⟨n0, e0⟩ : ∃ n0 : Nat, n0 = σ.length := ⟨_, rfl⟩
  rw [← e0] at hret hS
  have K_7 : ∀ (k_7 : Int32 → Int32 → Int32 → Option (Int32)) (hk_7 : ∀ (x3 : Int32) (x4 : Int32) (x5 : Int32) (H : Heap) (locs : List Loc) (ls : Array Slot), ez_S X B s.heap (n0) σ H locs → k_7 x3 x4 x5 = some z → lv_has ls 6 [(0, .ref (X.2.2.2 1)), (3, .int x3), (4, .int x4), (5, .int x5)] → W p l e R s m args below meth c H locs 0 0 Q (F0 m 7 ls [])), ∀ (x3 : Int32) (x4 : Int32) (x5 : Int32) (H : Heap) (locs : List Loc) (ls : Array Slot), ez_S X B s.heap (n0) σ H locs → z_J1_indexOfChar_4cfef_v1_7 σ k_7 x3 x4 x5 = some z → lv_has ls 6 [(0, .ref (X.2.2.2 1)), (3, .int x3), (4, .int x4), (5, .int x5)] → W p l e R s m args below meth c H locs 0 0 Q (F0 m 7 ls []) := by
    intro k_7 hk_7 x3 x4 x5 H locs ls hS h hl
    refine lv_iload hx hb dJ1_indexOfChar_4cfef_7 (lv_at hl 3 rfl) ?_
    refine lv_iload_n hx hb dJ1_indexOfChar_4cfef_9 rfl (lv_at hl 1 rfl) ?_
    refine lv_icmp_ge (tgt := 31) hx hb dJ1_indexOfChar_4cfef_10 (by decide) (fun c_10 => ?_) (fun c_10 => ?_)
    · replace h := ez_ifp h c_10
      refine lv_iconst (v := -1) hx hb dJ1_indexOfChar_4cfef_31 (by decide) ?_
      exact hret _ _ _ _ _ (Option.some.inj h) rfl hS dJ1_indexOfChar_4cfef_32
    · replace h := ez_ifn h c_10
      refine lv_aload_n hx hb dJ1_indexOfChar_4cfef_13 rfl (lv_at hl 0 rfl) ?_
      refine lv_iload hx hb dJ1_indexOfChar_4cfef_14 (lv_at hl 3 rfl) ?_
      refine ez_tb (t := 1) (by decide) hC hS h dJ1_indexOfChar_4cfef_16 (fun t_16 h => ?_)
      refine lv_iload hx hb dJ1_indexOfChar_4cfef_17 (lv_at hl 2 rfl) ?_
      refine lv_icmp_ne (tgt := 25) hx hb dJ1_indexOfChar_4cfef_19 (by decide) (fun c_19 => ?_) (fun c_19 => ?_)
      · replace h := ez_ifn h c_19
        obtain ⟨t_25, e_25, h⟩ := ez_let_sp h
        refine lv_iinc (v := t_25) (lv' := [(5, .int t_25), (0, .ref (X.2.2.2 1)), (3, .int x3), (4, .int x4)]) hx hb dJ1_indexOfChar_4cfef_25 hl (k := 3) rfl (by rw [e_25]; rfl) (by decide) rfl (fun ls hl => ?_)
        refine lv_goto (tgt := 7) hx hb dJ1_indexOfChar_4cfef_28 (by decide) ?_
        exact hk_7 x3 x4 t_25 _ _ _ hS h (lv_sub hl [1, 2, 3, 0] rfl)
      · replace h := ez_ifp h c_19
        refine lv_iload hx hb dJ1_indexOfChar_4cfef_22 (lv_at hl 3 rfl) ?_
        exact hret _ _ _ _ _ (Option.some.inj h) rfl hS dJ1_indexOfChar_4cfef_24
  have E_7 : ∀ (x3 : Int32) (x4 : Int32) (x5 : Int32) (H : Heap) (locs : List Loc) (ls : Array Slot), ez_S X B s.heap (n0) σ H locs → (ez_fix (fun _ _ _ => none) (z_J1_indexOfChar_4cfef_v1_7 σ) ez_N) x3 x4 x5 = some z → lv_has ls 6 [(0, .ref (X.2.2.2 1)), (3, .int x3), (4, .int x4), (5, .int x5)] → W p l e R s m args below meth c H locs 0 0 Q (F0 m 7 ls []) := ez_fix_ind (fun k_7 : Int32 → Int32 → Int32 → Option (Int32) => ∀ (x3 : Int32) (x4 : Int32) (x5 : Int32) (H : Heap) (locs : List Loc) (ls : Array Slot), ez_S X B s.heap (n0) σ H locs → k_7 x3 x4 x5 = some z → lv_has ls 6 [(0, .ref (X.2.2.2 1)), (3, .int x3), (4, .int x4), (5, .int x5)] → W p l e R s m args below meth c H locs 0 0 Q (F0 m 7 ls [])) (fun _ _ _ _ _ _ _ h _ => by cases h) (fun k_7 hk_7 => K_7 k_7 hk_7) ez_N
  refine lv_iload_n hx hb dJ1_indexOfChar_4cfef_0 rfl (lv_at hl 1 rfl) ?_
  refine lv_i2b hx hb dJ1_indexOfChar_4cfef_1 rfl ?_
  refine ez_top h (fun t_1 h => ?_)
  refine lv_istore (lv' := [(4, .int t_1), (0, .ref (X.2.2.2 1)), (1, .int x1), (2, .int x2), (3, .int x3)]) hx hb dJ1_indexOfChar_4cfef_2 hl (by decide) rfl (fun ls hl => ?_)
  refine lv_iload_n hx hb dJ1_indexOfChar_4cfef_4 rfl (lv_at hl 3 rfl) ?_
  refine lv_istore (lv' := [(5, .int x2), (4, .int t_1), (0, .ref (X.2.2.2 1)), (1, .int x1), (2, .int x2), (3, .int x3)]) hx hb dJ1_indexOfChar_4cfef_5 hl (by decide) rfl (fun ls hl => ?_)
  exact E_7  x3 t_1 x2 _ _ _ hS h (lv_sub hl [2, 5, 1, 0] rfl)
set_option maxRecDepth 100000 in
noncomputable def z_J1_indexOf_4cfef_v1 (σ : ez_H) (x1 : Int32) (x2 : Int32) (x3 : Int32) : Option (Int32) :=
  ez_bd (z_J1_canEncode_9a6ad σ x1) fun t_1 =>
  if t_1 = (0 : Int32) then (
  some (-1 : Int32)
  ) else (
  ez_let (if x2 < (0 : Int32) then (0 : Int32) else x2) fun t_11 =>
  ez_let (if (11 : Int32) < x3 then (11 : Int32) else x3) fun t_18 =>
  if t_11 < t_18 then (
  ez_bd (z_J1_indexOfChar_4cfef_v1 σ x1 t_11 t_18) fun t_33 =>
  some t_33
  ) else (
  some (-1 : Int32)
  )
  )
set_option maxHeartbeats 4000000 in
set_option maxRecDepth 100000 in
theorem c_J1_indexOf_4cfef_v1 {l : Launch} {X : ez_X} {B : Nat} {σ : ez_H} {x1 : Int32} {x2 : Int32} {x3 : Int32} {z : Int32} (h : z_J1_indexOf_4cfef_v1 σ x1 x2 x3 = some z) : ez_M l X B σ yJ1_indexOf_4cfef cJ1_indexOf_4cfef 4 (some .int) 1 [.ref (X.2.2.2 1), .int x1, .int x2, .int x3] (some (.int z)) σ := by
  refine ez_startip (z := z) (by decide) (Nat.le_of_ble_eq_true rfl) (fun p e R s m args below meth c Q hC hret hS ls hl => ?_)
  have hC : ez_C p R s m args c X B RJ1 cJ1_indexOf_4cfef 4 1 := hC
  have hx := hC.1.1
  have hb := hC.1.2.1
  have hown := hC.1.2.2.2.1
  have hts := hC.1.2.2.2.2
  have hl : lv_has ls 4 [(0, .ref (X.2.2.2 1)), (1, .int x1), (2, .int x2), (3, .int x3)] := hl
  obtain ⟨n0, e0⟩ : ∃ n0 : Nat, n0 = σ.length := ⟨_, rfl⟩
  rw [← e0] at hret hS
  refine lv_iload_n hx hb dJ1_indexOf_4cfef_0 rfl (lv_at hl 1 rfl) ?_
  refine ez_cSpi (As := [.int x1]) (rest := []) h (fun _ q => c_J1_canEncode_9a6ad q) hC k_J1_canEncode_9a6ad ql_RJ1_88 rfl (by decide) hS hl.1 rfl (Nat.le_of_ble_eq_true rfl) ⟨Nat.zero_le _, Nat.zero_le _⟩ dJ1_indexOf_4cfef_1 (fun t_1 H locs hS h => ?_)
  refine lv_if_ne (tgt := 9) hx hb dJ1_indexOf_4cfef_4 (by decide) (fun c_4 => ?_) (fun c_4 => ?_)
  · replace h := ez_ifn h c_4
    refine lv_iload_n hx hb dJ1_indexOf_4cfef_9 rfl (lv_at hl 2 rfl) ?_
    refine lv_iconst (v := 0) hx hb dJ1_indexOf_4cfef_10 (by decide) ?_
    refine va_mmax hx hb (hC.1.2.2.1.trans hl.1.symm) hown (hts _ ql_RJ1_92) (hts _ qm_max_s) (hts _ qm_i) (hts _ qm_max_c) (Nat.le_trans (by decide) hC.2.2.1) (Nat.le_trans (Nat.le_of_ble_eq_true rfl) hC.2.2.2.1) (Nat.zero_le _) (Nat.zero_le _) dJ1_indexOf_4cfef_11 ?_
    refine ez_top h (fun t_11 h => ?_)
    refine lv_istore_n (lv' := [(2, .int t_11), (0, .ref (X.2.2.2 1)), (1, .int x1), (3, .int x3)]) hx hb dJ1_indexOf_4cfef_14 rfl hl (by decide) rfl (fun ls hl => ?_)
    refine lv_iload_n hx hb dJ1_indexOf_4cfef_15 rfl (lv_at hl 3 rfl) ?_
    refine lv_aload_n hx hb dJ1_indexOf_4cfef_16 rfl (lv_at hl 1 rfl) ?_
    refine va_tlen hx hb (hC.2.2.2.2.1.1 1 (by decide)).2.2.2 hS.2.2 (v := 11) (by decide) dJ1_indexOf_4cfef_17 ?_
    refine va_mmin hx hb (hC.1.2.2.1.trans hl.1.symm) hown (hts _ ql_RJ1_38) (hts _ qm_min_s) (hts _ qm_i) (hts _ qm_min_c) (Nat.le_trans (by decide) hC.2.2.1) (Nat.le_trans (Nat.le_of_ble_eq_true rfl) hC.2.2.2.1) (Nat.zero_le _) (Nat.zero_le _) dJ1_indexOf_4cfef_18 ?_
    refine ez_top h (fun t_18 h => ?_)
    refine lv_istore_n (lv' := [(3, .int t_18), (2, .int t_11), (0, .ref (X.2.2.2 1)), (1, .int x1)]) hx hb dJ1_indexOf_4cfef_21 rfl hl (by decide) rfl (fun ls hl => ?_)
    refine lv_iload_n hx hb dJ1_indexOf_4cfef_22 rfl (lv_at hl 1 rfl) ?_
    refine lv_iload_n hx hb dJ1_indexOf_4cfef_23 rfl (lv_at hl 0 rfl) ?_
    refine lv_icmp_lt (tgt := 29) hx hb dJ1_indexOf_4cfef_24 (by decide) (fun c_24 => ?_) (fun c_24 => ?_)
    · replace h := ez_ifp h c_24
      refine lv_aload_n hx hb dJ1_indexOf_4cfef_29 rfl (lv_at hl 2 rfl) ?_
      refine lv_iload_n hx hb dJ1_indexOf_4cfef_30 rfl (lv_at hl 3 rfl) ?_
      refine lv_iload_n hx hb dJ1_indexOf_4cfef_31 rfl (lv_at hl 1 rfl) ?_
      refine lv_iload_n hx hb dJ1_indexOf_4cfef_32 rfl (lv_at hl 0 rfl) ?_
      refine ez_cSpi (As := [.ref (X.2.2.2 1), .int x1, .int t_11, .int t_18]) (rest := []) h (fun _ q => c_J1_indexOfChar_4cfef_v1 q) hC k_J1_indexOfChar_4cfef ql_RJ1_95 rfl (by decide) hS hl.1 rfl (Nat.le_of_ble_eq_true rfl) ⟨Nat.zero_le _, Nat.zero_le _⟩ dJ1_indexOf_4cfef_33 (fun t_33 H locs hS h => ?_)
      exact hret _ _ _ _ _ (Option.some.inj h) rfl hS dJ1_indexOf_4cfef_36
    · replace h := ez_ifn h c_24
      refine lv_iconst (v := -1) hx hb dJ1_indexOf_4cfef_27 (by decide) ?_
      exact hret _ _ _ _ _ (Option.some.inj h) rfl hS dJ1_indexOf_4cfef_28
  · replace h := ez_ifp h c_4
    refine lv_iconst (v := -1) hx hb dJ1_indexOf_4cfef_7 (by decide) ?_
    exact hret _ _ _ _ _ (Option.some.inj h) rfl hS dJ1_indexOf_4cfef_8
set_option maxRecDepth 100000 in
noncomputable def z_J0_indexOf_7cf53_s1_36 (σ : ez_H) (y0 : Int32) : Option (Int32) :=
  some y0
set_option maxRecDepth 100000 in
noncomputable def z_J0_indexOf_7cf53_s1 (σ : ez_H) (x1 : Int32) (x2 : Int32) : Option (Int32) :=
  ez_bd (z_J0_isLatin1_aae02_s1 σ ) fun t_1 =>
  if t_1 = (0 : Int32) then (
  ez_bd (z_J0_length_8abf5_s1 σ ) fun t_30 =>
  none
  ) else (
  ez_bd (z_J0_length_8abf5_s1 σ ) fun t_14 =>
  ez_bd (z_J1_indexOf_4cfef_v1 σ x1 x2 t_14) fun t_17 =>
  z_J0_indexOf_7cf53_s1_36 σ t_17
  )
set_option maxHeartbeats 4000000 in
set_option maxRecDepth 100000 in
theorem c_J0_indexOf_7cf53_s1 {l : Launch} {X : ez_X} {B : Nat} {σ : ez_H} {x1 : Int32} {x2 : Int32} {z : Int32} (h : z_J0_indexOf_7cf53_s1 σ x1 x2 = some z) : ez_M l X B σ yJ0_indexOf_7cf53 cJ0_indexOf_7cf53 3 (some .int) 2 [.ref (X.2.2.1 1), .int x1, .int x2] (some (.int z)) σ := by
  refine ez_startip (z := z) (by decide) (Nat.le_of_ble_eq_true rfl) (fun p e R s m args below meth c Q hC hret hS ls hl => ?_)
  have hC : ez_C p R s m args c X B RJ0 cJ0_indexOf_7cf53 3 2 := hC
  have hx := hC.1.1
  have hb := hC.1.2.1
  have hown := hC.1.2.2.2.1
  have hts := hC.1.2.2.2.2
  have hl : lv_has ls 3 [(0, .ref (X.2.2.1 1)), (1, .int x1), (2, .int x2)] := hl
  obtain ⟨n0, e0⟩ : ∃ n0 : Nat, n0 = σ.length := ⟨_, rfl⟩
  rw [← e0] at hret hS
  have K_36 : ∀ (y0 : Int32) (H : Heap) (locs : List Loc) (ls : Array Slot), ez_S X B s.heap (n0) σ H locs → z_J0_indexOf_7cf53_s1_36 σ y0 = some z → lv_has ls 3 [] → W p l e R s m args below meth c H locs 0 0 Q (F0 m 36 ls [.int y0]) := by
    intro y0 H locs ls hS h hl
    exact hret _ _ _ _ _ (Option.some.inj h) rfl hS dJ0_indexOf_7cf53_36
  refine lv_aload_n hx hb dJ0_indexOf_7cf53_0 rfl (lv_at hl 0 rfl) ?_
  refine ez_cUpi (As := []) (rest := []) h (fun _ q => c_J0_isLatin1_aae02_s1 q) hC k_J0_isLatin1_aae02 ql_RJ0_492 rfl (by decide) hS (vk_recv hC.2.2.2.2.1 (i := 1) (by decide) hS.2.2) hl.1 rfl (Nat.le_of_ble_eq_true rfl) ⟨Nat.zero_le _, Nat.zero_le _⟩ dJ0_indexOf_7cf53_1 (fun t_1 H locs hS h => ?_)
  refine lv_if_eq (tgt := 23) hx hb dJ0_indexOf_7cf53_4 (by decide) (fun c_4 => ?_) (fun c_4 => ?_)
  · replace h := ez_ifp h c_4
    refine lv_aload_n hx hb dJ0_indexOf_7cf53_23 rfl (lv_at hl 0 rfl) ?_
    refine vk_getf hx hb (hC.2.2.2.2.1.1 1 (by decide)).2.2.1 hS.2.2 hown (hts _ qs_RJ0_9) (fun _ h9 => h9) dJ0_indexOf_7cf53_24 ?_
    refine lv_iload_n hx hb dJ0_indexOf_7cf53_27 rfl (lv_at hl 1 rfl) ?_
    refine lv_iload_n hx hb dJ0_indexOf_7cf53_28 rfl (lv_at hl 2 rfl) ?_
    refine lv_aload_n hx hb dJ0_indexOf_7cf53_29 rfl (lv_at hl 0 rfl) ?_
    refine ez_cUpi (As := []) (rest := [.int x2, .int x1, .ref (X.2.2.2 1)]) h (fun _ q => c_J0_length_8abf5_s1 q) hC k_J0_length_8abf5 ql_RJ0_505 rfl (by decide) hS (vk_recv hC.2.2.2.2.1 (i := 1) (by decide) hS.2.2) hl.1 rfl (Nat.le_of_ble_eq_true rfl) ⟨Nat.zero_le _, Nat.zero_le _⟩ dJ0_indexOf_7cf53_30 (fun t_30 H locs hS h => ?_)
    cases h
  · replace h := ez_ifn h c_4
    refine lv_aload_n hx hb dJ0_indexOf_7cf53_7 rfl (lv_at hl 0 rfl) ?_
    refine vk_getf hx hb (hC.2.2.2.2.1.1 1 (by decide)).2.2.1 hS.2.2 hown (hts _ qs_RJ0_9) (fun _ h9 => h9) dJ0_indexOf_7cf53_8 ?_
    refine lv_iload_n hx hb dJ0_indexOf_7cf53_11 rfl (lv_at hl 1 rfl) ?_
    refine lv_iload_n hx hb dJ0_indexOf_7cf53_12 rfl (lv_at hl 2 rfl) ?_
    refine lv_aload_n hx hb dJ0_indexOf_7cf53_13 rfl (lv_at hl 0 rfl) ?_
    refine ez_cUpi (As := []) (rest := [.int x2, .int x1, .ref (X.2.2.2 1)]) h (fun _ q => c_J0_length_8abf5_s1 q) hC k_J0_length_8abf5 ql_RJ0_505 rfl (by decide) hS (vk_recv hC.2.2.2.2.1 (i := 1) (by decide) hS.2.2) hl.1 rfl (Nat.le_of_ble_eq_true rfl) ⟨Nat.zero_le _, Nat.zero_le _⟩ dJ0_indexOf_7cf53_14 (fun t_14 H locs hS h => ?_)
    refine ez_cSpi (As := [.ref (X.2.2.2 1), .int x1, .int x2, .int t_14]) (rest := []) h (fun _ q => c_J1_indexOf_4cfef_v1 q) hC k_J1_indexOf_4cfef ql_RJ0_637 rfl (by decide) hS hl.1 rfl (Nat.le_of_ble_eq_true rfl) ⟨Nat.zero_le _, Nat.zero_le _⟩ dJ0_indexOf_7cf53_17 (fun t_17 H locs hS h => ?_)
    refine lv_goto (tgt := 36) hx hb dJ0_indexOf_7cf53_20 (by decide) ?_
    exact K_36  t_17 _ _ _ hS h (lv_sub hl [] rfl)
set_option maxRecDepth 100000 in
noncomputable def z_J0_indexOf_0f7a4_s1 (σ : ez_H) (x1 : Int32) : Option (Int32) :=
  ez_bd (z_J0_indexOf_7cf53_s1 σ x1 (0 : Int32)) fun t_3 =>
  some t_3
set_option maxHeartbeats 4000000 in
set_option maxRecDepth 100000 in
theorem c_J0_indexOf_0f7a4_s1 {l : Launch} {X : ez_X} {B : Nat} {σ : ez_H} {x1 : Int32} {z : Int32} (h : z_J0_indexOf_0f7a4_s1 σ x1 = some z) : ez_M l X B σ yJ0_indexOf_0f7a4 cJ0_indexOf_0f7a4 2 (some .int) 3 [.ref (X.2.2.1 1), .int x1] (some (.int z)) σ := by
  refine ez_startip (z := z) (by decide) (Nat.le_of_ble_eq_true rfl) (fun p e R s m args below meth c Q hC hret hS ls hl => ?_)
  have hC : ez_C p R s m args c X B RJ0 cJ0_indexOf_0f7a4 2 3 := hC
  have hx := hC.1.1
  have hb := hC.1.2.1
  have hown := hC.1.2.2.2.1
  have hts := hC.1.2.2.2.2
  have hl : lv_has ls 2 [(0, .ref (X.2.2.1 1)), (1, .int x1)] := hl
  obtain ⟨n0, e0⟩ : ∃ n0 : Nat, n0 = σ.length := ⟨_, rfl⟩
  rw [← e0] at hret hS
  refine lv_aload_n hx hb dJ0_indexOf_0f7a4_0 rfl (lv_at hl 0 rfl) ?_
  refine lv_iload_n hx hb dJ0_indexOf_0f7a4_1 rfl (lv_at hl 1 rfl) ?_
  refine lv_iconst (v := 0) hx hb dJ0_indexOf_0f7a4_2 (by decide) ?_
  refine ez_cUpi (As := [.int x1, .int 0]) (rest := []) h (fun _ q => c_J0_indexOf_7cf53_s1 q) hC k_J0_indexOf_7cf53 ql_RJ0_633 rfl (by decide) hS (vk_recv hC.2.2.2.2.1 (i := 1) (by decide) hS.2.2) hl.1 rfl (Nat.le_of_ble_eq_true rfl) ⟨Nat.zero_le _, Nat.zero_le _⟩ dJ0_indexOf_0f7a4_3 (fun t_3 H locs hS h => ?_)
  exact hret _ _ _ _ _ (Option.some.inj h) rfl hS dJ0_indexOf_0f7a4_6
set_option maxRecDepth 100000 in
noncomputable def z_X9_advance_152 (σ : ez_H) : Option (Unit × ez_H) :=
  some ((), σ)
set_option maxRecDepth 100000 in
noncomputable def z_X9_advance_139 (σ : ez_H) (h0 : Nat) (y0 : Nat) (y1 : Int32) : Option (Unit × ez_H) :=
  ez_bd (ez_pf σ 9 y0 4 (.inl y1)) fun σ =>
  ez_bd (ez_gi σ 9 h0 3) fun t_144 =>
  ez_let (t_144 + (1 : Int32)) fun t_148 =>
  ez_bd (ez_pf σ 9 h0 3 (.inl t_148)) fun σ =>
  z_X9_advance_152  σ
set_option maxRecDepth 100000 in
noncomputable def z_X9_advance_137 (σ : ez_H) (h0 : Nat) (y0 : Nat) : Option (Unit × ez_H) :=
  z_X9_advance_139  σ h0 y0 (25 : Int32)
set_option maxRecDepth 100000 in
noncomputable def z_X9_advance_50 (σ : ez_H) (h0 : Nat) : Option (Unit × ez_H) :=
  ez_bd (ez_gi σ 9 h0 3) fun t_52 =>
  ez_bd (ez_pf σ 9 h0 5 (.inl t_52)) fun σ =>
  ez_bd (ez_gi σ 9 h0 3) fun t_60 =>
  ez_bd (z_X9_byteAt σ h0 t_60) fun t_63 =>
  ez_bd (ez_gi σ 9 h0 3) fun t_68 =>
  ez_bd (ez_gi σ 9 h0 2) fun t_72 =>
  if t_68 < t_72 then (
  ez_bd (z_X9_isLetter σ t_63) fun t_88 =>
  if t_88 = (0 : Int32) then (
  ez_bd (z_X9_isDigit σ t_63) fun t_102 =>
  if t_102 = (0 : Int32) then (
  if (128 : Int32) ≤ t_63 then (
  z_X9_advance_137  σ h0 h0
  ) else (
  ez_let ((Int32.toUInt32 t_63 % 65536).toInt32) fun t_126 =>
  ez_bd (z_J0_indexOf_0f7a4_s1 σ t_126) fun t_127 =>
  if t_127 < (0 : Int32) then (
  z_X9_advance_137  σ h0 h0
  ) else (
  z_X9_advance_139  σ h0 h0 t_63
  )
  )
  ) else (
  ez_b2 (z_X9_readNumber σ h0) fun _ σ =>
  z_X9_advance_152  σ
  )
  ) else (
  ez_b2 (z_X9_readWord σ h0) fun _ σ =>
  z_X9_advance_152  σ
  )
  ) else (
  ez_bd (ez_pf σ 9 h0 4 (.inl (26 : Int32))) fun σ =>
  z_X9_advance_152  σ
  )
set_option maxRecDepth 100000 in
noncomputable def z_X9_advance_37 (k_0 : ez_H → Nat → Option (Unit × ez_H)) (σ : ez_H) (h0 : Nat) : Option (Unit × ez_H) :=
  ez_bd (ez_gi σ 9 h0 3) fun t_39 =>
  ez_let (t_39 + (1 : Int32)) fun t_43 =>
  ez_bd (ez_pf σ 9 h0 3 (.inl t_43)) fun σ =>
  k_0 σ h0
set_option maxRecDepth 100000 in
noncomputable def z_X9_advance_0 (k_0 : ez_H → Nat → Option (Unit × ez_H)) (σ : ez_H) (h0 : Nat) : Option (Unit × ez_H) :=
  ez_bd (ez_gi σ 9 h0 3) fun t_1 =>
  ez_bd (ez_gi σ 9 h0 2) fun t_5 =>
  if t_5 ≤ t_1 then (
  z_X9_advance_50  σ h0
  ) else (
  ez_bd (ez_gi σ 9 h0 3) fun t_13 =>
  ez_bd (z_X9_byteAt σ h0 t_13) fun t_16 =>
  if t_16 = (32 : Int32) then (
  z_X9_advance_37 k_0 σ h0
  ) else (
  ez_bd (ez_gi σ 9 h0 3) fun t_26 =>
  ez_bd (z_X9_byteAt σ h0 t_26) fun t_29 =>
  if t_29 = (10 : Int32) then (
  z_X9_advance_37 k_0 σ h0
  ) else (
  z_X9_advance_50  σ h0
  )
  )
  )
set_option maxRecDepth 100000 in
noncomputable def z_X9_advance (σ : ez_H) (h0 : Nat) : Option (Unit × ez_H) :=
  ez_bd (ez_ob σ 9 h0) fun _ =>
  ez_fix (fun _ _ => none) (z_X9_advance_0 ) ez_N σ h0
set_option maxHeartbeats 4000000 in
set_option maxRecDepth 100000 in
theorem c_X9_advance {l : Launch} {X : ez_X} {B : Nat} {σ : ez_H} {h0 : Nat} {z : Unit × ez_H} (h : z_X9_advance σ h0 = some z) : ez_M l X B σ yX9_advance cX9_advance 2 (none) 4 [.ref (B + h0)] (none) z.2 := by
  refine ez_startv (z := z) (by decide) (Nat.le_of_ble_eq_true rfl) (fun p e R s m args below meth c Q hC hret hS ls hl => ?_)
  have hC : ez_C p R s m args c X B RX9 cX9_advance 2 4 := hC
  have hx := hC.1.1
  have hb := hC.1.2.1
  have hown := hC.1.2.2.2.1
  have hts := hC.1.2.2.2.2
  have hl : lv_has ls 2 [(0, .ref (B + h0))] := hl
  obtain ⟨σ0, eσ⟩ : ∃ σ0 : ez_H, σ0 = σ := ⟨_, rfl⟩
  rw [← eσ] at hret
  have hS : ez_S X B s.heap σ0.length σ s.heap [] := eσ ▸ hS
  obtain ⟨-, h⟩ := ez_in h
  have K_152 : ∀ (σ : ez_H) (H : Heap) (locs : List Loc) (ls : Array Slot), ez_S X B s.heap (σ0.length) σ H locs → z_X9_advance_152 σ = some z → lv_has ls 2 [] → W p l e R s m args below meth c H locs 0 0 Q (F0 m 152 ls []) := by
    intro σ H locs ls hS h hl
    exact hret _ _ _ _ _ _ (Option.some.inj h) hS dX9_advance_152
  have K_139 : ∀ (σ : ez_H) (h0 : Nat) (y0 : Nat) (y1 : Int32) (H : Heap) (locs : List Loc) (ls : Array Slot), ez_S X B s.heap (σ0.length) σ H locs → z_X9_advance_139 σ h0 y0 y1 = some z → lv_has ls 2 [(0, .ref (B + h0))] → W p l e R s m args below meth c H locs 0 0 Q (F0 m 139 ls [.int y1, .ref (B + y0)]) := by
    intro σ h0 y0 y1 H locs ls hS h hl
    refine ep_RX9_59 hC hS h dX9_advance_139 (fun σ H locs hS h => ?_)
    refine lv_aload_n hx hb dX9_advance_142 rfl (lv_at hl 0 rfl) ?_
    refine lv_dup hx hb dX9_advance_143 rfl ?_
    refine eg_RX9_44 hC hS h dX9_advance_144 (fun t_144 h => ?_)
    refine lv_iconst (v := 1) hx hb dX9_advance_147 (by decide) ?_
    refine lv_iadd hx hb dX9_advance_148 ?_
    refine ez_top h (fun t_148 h => ?_)
    refine ep_RX9_44 hC hS h dX9_advance_149 (fun σ H locs hS h => ?_)
    exact K_152  σ _ _ _ hS h (lv_sub hl [] rfl)
  have K_137 : ∀ (σ : ez_H) (h0 : Nat) (y0 : Nat) (H : Heap) (locs : List Loc) (ls : Array Slot), ez_S X B s.heap (σ0.length) σ H locs → z_X9_advance_137 σ h0 y0 = some z → lv_has ls 2 [(0, .ref (B + h0))] → W p l e R s m args below meth c H locs 0 0 Q (F0 m 137 ls [.ref (B + y0)]) := by
    intro σ h0 y0 H locs ls hS h hl
    refine lv_bipush (v := 25) hx hb dX9_advance_137 (by decide) ?_
    exact K_139  σ h0 y0 (25 : Int32) _ _ _ hS h (lv_sub hl [0] rfl)
  have K_50 : ∀ (σ : ez_H) (h0 : Nat) (H : Heap) (locs : List Loc) (ls : Array Slot), ez_S X B s.heap (σ0.length) σ H locs → z_X9_advance_50 σ h0 = some z → lv_has ls 2 [(0, .ref (B + h0))] → W p l e R s m args below meth c H locs 0 0 Q (F0 m 50 ls []) := by
    intro σ h0 H locs ls hS h hl
    refine lv_aload_n hx hb dX9_advance_50 rfl (lv_at hl 0 rfl) ?_
    refine lv_aload_n hx hb dX9_advance_51 rfl (lv_at hl 0 rfl) ?_
    refine eg_RX9_44 hC hS h dX9_advance_52 (fun t_52 h => ?_)
    refine ep_RX9_56 hC hS h dX9_advance_55 (fun σ H locs hS h => ?_)
    refine lv_aload_n hx hb dX9_advance_58 rfl (lv_at hl 0 rfl) ?_
    refine lv_aload_n hx hb dX9_advance_59 rfl (lv_at hl 0 rfl) ?_
    refine eg_RX9_44 hC hS h dX9_advance_60 (fun t_60 h => ?_)
    refine ez_cVpi (As := [.int t_60]) (rest := []) h (fun _ q => c_X9_byteAt q) hC k_X9_byteAt ql_RX9_52 rfl (by decide) hS (fun _ q => ez_rcv q) rfl hl.1 rfl (Nat.le_of_ble_eq_true rfl) ⟨Nat.zero_le _, Nat.zero_le _⟩ dX9_advance_63 (fun t_63 H locs hS h => ?_)
    refine lv_istore_n (lv' := [(1, .int t_63), (0, .ref (B + h0))]) hx hb dX9_advance_66 rfl hl (by decide) rfl (fun ls hl => ?_)
    refine lv_aload_n hx hb dX9_advance_67 rfl (lv_at hl 1 rfl) ?_
    refine eg_RX9_44 hC hS h dX9_advance_68 (fun t_68 h => ?_)
    refine lv_aload_n hx hb dX9_advance_71 rfl (lv_at hl 1 rfl) ?_
    refine eg_RX9_41 hC hS h dX9_advance_72 (fun t_72 h => ?_)
    refine lv_icmp_lt (tgt := 87) hx hb dX9_advance_75 (by decide) (fun c_75 => ?_) (fun c_75 => ?_)
    · replace h := ez_ifp h c_75
      refine lv_iload_n hx hb dX9_advance_87 rfl (lv_at hl 0 rfl) ?_
      refine ez_cSpi (As := [.int t_63]) (rest := []) h (fun _ q => c_X9_isLetter q) hC k_X9_isLetter ql_RX9_62 rfl (by decide) hS hl.1 rfl (Nat.le_of_ble_eq_true rfl) ⟨Nat.zero_le _, Nat.zero_le _⟩ dX9_advance_88 (fun t_88 H locs hS h => ?_)
      refine lv_if_eq (tgt := 101) hx hb dX9_advance_91 (by decide) (fun c_91 => ?_) (fun c_91 => ?_)
      · replace h := ez_ifp h c_91
        refine lv_iload_n hx hb dX9_advance_101 rfl (lv_at hl 0 rfl) ?_
        refine ez_cSpi (As := [.int t_63]) (rest := []) h (fun _ q => c_X9_isDigit q) hC k_X9_isDigit ql_RX9_69 rfl (by decide) hS hl.1 rfl (Nat.le_of_ble_eq_true rfl) ⟨Nat.zero_le _, Nat.zero_le _⟩ dX9_advance_102 (fun t_102 H locs hS h => ?_)
        refine lv_if_eq (tgt := 115) hx hb dX9_advance_105 (by decide) (fun c_105 => ?_) (fun c_105 => ?_)
        · replace h := ez_ifp h c_105
          refine lv_aload_n hx hb dX9_advance_115 rfl (lv_at hl 1 rfl) ?_
          refine lv_iload_n hx hb dX9_advance_116 rfl (lv_at hl 0 rfl) ?_
          refine lv_sipush (v := 128) hx hb dX9_advance_117 (by decide) ?_
          refine lv_icmp_ge (tgt := 137) hx hb dX9_advance_120 (by decide) (fun c_120 => ?_) (fun c_120 => ?_)
          · replace h := ez_ifp h c_120
            exact K_137  σ h0 h0 _ _ _ hS h (lv_sub hl [1] rfl)
          · replace h := ez_ifn h c_120
            refine va_ldcS hx hb hown hC.2.2.2.2.2.2.1 dX9_advance_123 ?_
            refine lv_iload_n hx hb dX9_advance_125 rfl (lv_at hl 0 rfl) ?_
            refine lv_i2c hx hb dX9_advance_126 rfl ?_
            refine ez_top h (fun t_126 h => ?_)
            refine ez_cUpi (As := [.int t_126]) (rest := [.ref (B + h0)]) h (fun _ q => c_J0_indexOf_0f7a4_s1 q) hC k_J0_indexOf_0f7a4 ql_RX9_77 rfl (by decide) hS (vk_recv hC.2.2.2.2.1 (i := 1) (by decide) hS.2.2) hl.1 rfl (Nat.le_of_ble_eq_true rfl) ⟨Nat.zero_le _, Nat.zero_le _⟩ dX9_advance_127 (fun t_127 H locs hS h => ?_)
            refine lv_if_lt (tgt := 137) hx hb dX9_advance_130 (by decide) (fun c_130 => ?_) (fun c_130 => ?_)
            · replace h := ez_ifp h c_130
              exact K_137  σ h0 h0 _ _ _ hS h (lv_sub hl [1] rfl)
            · replace h := ez_ifn h c_130
              refine lv_iload_n hx hb dX9_advance_133 rfl (lv_at hl 0 rfl) ?_
              refine lv_goto (tgt := 139) hx hb dX9_advance_134 (by decide) ?_
              exact K_139  σ h0 h0 t_63 _ _ _ hS h (lv_sub hl [1] rfl)
        · replace h := ez_ifn h c_105
          refine lv_aload_n hx hb dX9_advance_108 rfl (lv_at hl 1 rfl) ?_
          refine ez_cVv (As := []) (rest := []) h (fun _ q => c_X9_readNumber q) hC k_X9_readNumber ql_RX9_72 rfl (by decide) hS (fun _ q => ez_rcv q) rfl hl.1 rfl (Nat.le_of_ble_eq_true rfl) ⟨Nat.zero_le _, Nat.zero_le _⟩ dX9_advance_109 (fun _ σ H locs hS h => ?_)
          refine lv_goto (tgt := 152) hx hb dX9_advance_112 (by decide) ?_
          exact K_152  σ _ _ _ hS h (lv_sub hl [] rfl)
      · replace h := ez_ifn h c_91
        refine lv_aload_n hx hb dX9_advance_94 rfl (lv_at hl 1 rfl) ?_
        refine ez_cVv (As := []) (rest := []) h (fun _ q => c_X9_readWord q) hC k_X9_readWord ql_RX9_66 rfl (by decide) hS (fun _ q => ez_rcv q) rfl hl.1 rfl (Nat.le_of_ble_eq_true rfl) ⟨Nat.zero_le _, Nat.zero_le _⟩ dX9_advance_95 (fun _ σ H locs hS h => ?_)
        refine lv_goto (tgt := 152) hx hb dX9_advance_98 (by decide) ?_
        exact K_152  σ _ _ _ hS h (lv_sub hl [] rfl)
    · replace h := ez_ifn h c_75
      refine lv_aload_n hx hb dX9_advance_78 rfl (lv_at hl 1 rfl) ?_
      refine lv_bipush (v := 26) hx hb dX9_advance_79 (by decide) ?_
      refine ep_RX9_59 hC hS h dX9_advance_81 (fun σ H locs hS h => ?_)
      refine lv_goto (tgt := 152) hx hb dX9_advance_84 (by decide) ?_
      exact K_152  σ _ _ _ hS h (lv_sub hl [] rfl)
  have K_37 : ∀ (k_0 : ez_H → Nat → Option (Unit × ez_H)) (hk_0 : ∀ (σ : ez_H) (h0 : Nat) (H : Heap) (locs : List Loc) (ls : Array Slot), ez_S X B s.heap (σ0.length) σ H locs → k_0 σ h0 = some z → lv_has ls 2 [(0, .ref (B + h0))] → W p l e R s m args below meth c H locs 0 0 Q (F0 m 0 ls [])), ∀ (σ : ez_H) (h0 : Nat) (H : Heap) (locs : List Loc) (ls : Array Slot), ez_S X B s.heap (σ0.length) σ H locs → z_X9_advance_37 k_0 σ h0 = some z → lv_has ls 2 [(0, .ref (B + h0))] → W p l e R s m args below meth c H locs 0 0 Q (F0 m 37 ls []) := by
    intro k_0 hk_0 σ h0 H locs ls hS h hl
    refine lv_aload_n hx hb dX9_advance_37 rfl (lv_at hl 0 rfl) ?_
    refine lv_dup hx hb dX9_advance_38 rfl ?_
    refine eg_RX9_44 hC hS h dX9_advance_39 (fun t_39 h => ?_)
    refine lv_iconst (v := 1) hx hb dX9_advance_42 (by decide) ?_
    refine lv_iadd hx hb dX9_advance_43 ?_
    refine ez_top h (fun t_43 h => ?_)
    refine ep_RX9_44 hC hS h dX9_advance_44 (fun σ H locs hS h => ?_)
    refine lv_goto (tgt := 0) hx hb dX9_advance_47 (by decide) ?_
    exact hk_0 σ h0 _ _ _ hS h (lv_sub hl [0] rfl)
  have K_0 : ∀ (k_0 : ez_H → Nat → Option (Unit × ez_H)) (hk_0 : ∀ (σ : ez_H) (h0 : Nat) (H : Heap) (locs : List Loc) (ls : Array Slot), ez_S X B s.heap (σ0.length) σ H locs → k_0 σ h0 = some z → lv_has ls 2 [(0, .ref (B + h0))] → W p l e R s m args below meth c H locs 0 0 Q (F0 m 0 ls [])), ∀ (σ : ez_H) (h0 : Nat) (H : Heap) (locs : List Loc) (ls : Array Slot), ez_S X B s.heap (σ0.length) σ H locs → z_X9_advance_0 k_0 σ h0 = some z → lv_has ls 2 [(0, .ref (B + h0))] → W p l e R s m args below meth c H locs 0 0 Q (F0 m 0 ls []) := by
    intro k_0 hk_0 σ h0 H locs ls hS h hl
    refine lv_aload_n hx hb dX9_advance_0 rfl (lv_at hl 0 rfl) ?_
    refine eg_RX9_44 hC hS h dX9_advance_1 (fun t_1 h => ?_)
    refine lv_aload_n hx hb dX9_advance_4 rfl (lv_at hl 0 rfl) ?_
    refine eg_RX9_41 hC hS h dX9_advance_5 (fun t_5 h => ?_)
    refine lv_icmp_ge (tgt := 50) hx hb dX9_advance_8 (by decide) (fun c_8 => ?_) (fun c_8 => ?_)
    · replace h := ez_ifp h c_8
      exact K_50  σ h0 _ _ _ hS h (lv_sub hl [0] rfl)
    · replace h := ez_ifn h c_8
      refine lv_aload_n hx hb dX9_advance_11 rfl (lv_at hl 0 rfl) ?_
      refine lv_aload_n hx hb dX9_advance_12 rfl (lv_at hl 0 rfl) ?_
      refine eg_RX9_44 hC hS h dX9_advance_13 (fun t_13 h => ?_)
      refine ez_cVpi (As := [.int t_13]) (rest := []) h (fun _ q => c_X9_byteAt q) hC k_X9_byteAt ql_RX9_52 rfl (by decide) hS (fun _ q => ez_rcv q) rfl hl.1 rfl (Nat.le_of_ble_eq_true rfl) ⟨Nat.zero_le _, Nat.zero_le _⟩ dX9_advance_16 (fun t_16 H locs hS h => ?_)
      refine lv_bipush (v := 32) hx hb dX9_advance_19 (by decide) ?_
      refine lv_icmp_eq (tgt := 37) hx hb dX9_advance_21 (by decide) (fun c_21 => ?_) (fun c_21 => ?_)
      · replace h := ez_ifp h c_21
        exact K_37 k_0 hk_0 σ h0 _ _ _ hS h (lv_sub hl [0] rfl)
      · replace h := ez_ifn h c_21
        refine lv_aload_n hx hb dX9_advance_24 rfl (lv_at hl 0 rfl) ?_
        refine lv_aload_n hx hb dX9_advance_25 rfl (lv_at hl 0 rfl) ?_
        refine eg_RX9_44 hC hS h dX9_advance_26 (fun t_26 h => ?_)
        refine ez_cVpi (As := [.int t_26]) (rest := []) h (fun _ q => c_X9_byteAt q) hC k_X9_byteAt ql_RX9_52 rfl (by decide) hS (fun _ q => ez_rcv q) rfl hl.1 rfl (Nat.le_of_ble_eq_true rfl) ⟨Nat.zero_le _, Nat.zero_le _⟩ dX9_advance_29 (fun t_29 H locs hS h => ?_)
        refine lv_bipush (v := 10) hx hb dX9_advance_32 (by decide) ?_
        refine lv_icmp_ne (tgt := 50) hx hb dX9_advance_34 (by decide) (fun c_34 => ?_) (fun c_34 => ?_)
        · replace h := ez_ifn h c_34
          exact K_50  σ h0 _ _ _ hS h (lv_sub hl [0] rfl)
        · replace h := ez_ifp h c_34
          exact K_37 k_0 hk_0 σ h0 _ _ _ hS h (lv_sub hl [0] rfl)
  have E_0 : ∀ (σ : ez_H) (h0 : Nat) (H : Heap) (locs : List Loc) (ls : Array Slot), ez_S X B s.heap (σ0.length) σ H locs → (ez_fix (fun _ _ => none) (z_X9_advance_0) ez_N) σ h0 = some z → lv_has ls 2 [(0, .ref (B + h0))] → W p l e R s m args below meth c H locs 0 0 Q (F0 m 0 ls []) := ez_fix_ind (fun k_0 : ez_H → Nat → Option (Unit × ez_H) => ∀ (σ : ez_H) (h0 : Nat) (H : Heap) (locs : List Loc) (ls : Array Slot), ez_S X B s.heap (σ0.length) σ H locs → k_0 σ h0 = some z → lv_has ls 2 [(0, .ref (B + h0))] → W p l e R s m args below meth c H locs 0 0 Q (F0 m 0 ls [])) (fun _ _ _ _ _ _ h _ => by cases h) (fun k_0 hk_0 => K_0 k_0 hk_0) ez_N
  exact E_0  σ h0 _ _ _ hS h (lv_sub hl [0] rfl)
set_option maxRecDepth 100000 in
noncomputable def z_X9_begin (σ : ez_H) (h0 : Nat) (x1 : Int32) : Option (Unit × ez_H) :=
  ez_bd (ez_ob σ 9 h0) fun _ =>
  ez_bd (ez_gr σ 9 h0 0) fun t_3 =>
  ez_bd (ez_ln σ 0 t_3) fun t_6 =>
  ez_let (if t_6 < x1 then t_6 else x1) fun t_7 =>
  ez_bd (ez_pf σ 9 h0 2 (.inl t_7)) fun σ =>
  ez_bd (ez_pf σ 9 h0 3 (.inl (0 : Int32))) fun σ =>
  ez_b2 (z_X9_advance σ h0) fun _ σ =>
  some ((), σ)
set_option maxHeartbeats 4000000 in
set_option maxRecDepth 100000 in
theorem c_X9_begin {l : Launch} {X : ez_X} {B : Nat} {σ : ez_H} {h0 : Nat} {x1 : Int32} {z : Unit × ez_H} (h : z_X9_begin σ h0 x1 = some z) : ez_M l X B σ yX9_begin cX9_begin 2 (none) 5 [.ref (B + h0), .int x1] (none) z.2 := by
  refine ez_startv (z := z) (by decide) (Nat.le_of_ble_eq_true rfl) (fun p e R s m args below meth c Q hC hret hS ls hl => ?_)
  have hC : ez_C p R s m args c X B RX9 cX9_begin 2 5 := hC
  have hx := hC.1.1
  have hb := hC.1.2.1
  have hown := hC.1.2.2.2.1
  have hts := hC.1.2.2.2.2
  have hl : lv_has ls 2 [(0, .ref (B + h0)), (1, .int x1)] := hl
  obtain ⟨σ0, eσ⟩ : ∃ σ0 : ez_H, σ0 = σ := ⟨_, rfl⟩
  rw [← eσ] at hret
  have hS : ez_S X B s.heap σ0.length σ s.heap [] := eσ ▸ hS
  obtain ⟨-, h⟩ := ez_in h
  refine lv_aload_n hx hb dX9_begin_0 rfl (lv_at hl 0 rfl) ?_
  refine lv_iload_n hx hb dX9_begin_1 rfl (lv_at hl 1 rfl) ?_
  refine lv_aload_n hx hb dX9_begin_2 rfl (lv_at hl 0 rfl) ?_
  refine eg_RX9_9 hC hS h dX9_begin_3 (fun t_3 h => ?_)
  refine ez_lnB hC hS h dX9_begin_6 (fun t_6 h => ?_)
  refine va_mmin hx hb (hC.1.2.2.1.trans hl.1.symm) hown (hts _ ql_RX9_35) (hts _ qm_min_s) (hts _ qm_i) (hts _ qm_min_c) (Nat.le_trans (by decide) hC.2.2.1) (Nat.le_trans (Nat.le_of_ble_eq_true rfl) hC.2.2.2.1) (Nat.zero_le _) (Nat.zero_le _) dX9_begin_7 ?_
  refine ez_top h (fun t_7 h => ?_)
  refine ep_RX9_41 hC hS h dX9_begin_10 (fun σ H locs hS h => ?_)
  refine lv_aload_n hx hb dX9_begin_13 rfl (lv_at hl 0 rfl) ?_
  refine lv_iconst (v := 0) hx hb dX9_begin_14 (by decide) ?_
  refine ep_RX9_44 hC hS h dX9_begin_15 (fun σ H locs hS h => ?_)
  refine lv_aload_n hx hb dX9_begin_18 rfl (lv_at hl 0 rfl) ?_
  refine ez_cVv (As := []) (rest := []) h (fun _ q => c_X9_advance q) hC k_X9_advance ql_RX9_47 rfl (by decide) hS (fun _ q => ez_rcv q) rfl hl.1 rfl (Nat.le_of_ble_eq_true rfl) ⟨Nat.zero_le _, Nat.zero_le _⟩ dX9_begin_19 (fun _ σ H locs hS h => ?_)
  exact hret _ _ _ _ _ _ (Option.some.inj h) hS dX9_begin_22
set_option maxRecDepth 100000 in
noncomputable def z_X4_blame (σ : ez_H) (h0 : Nat) (x1 : Int32) : Option (Int32 × ez_H) :=
  ez_bd (ez_ob σ 4 h0) fun _ =>
  ez_bd (ez_pf σ 4 h0 1 (.inl x1)) fun σ =>
  ez_bd (ez_gr σ 4 h0 3) fun t_7 =>
  ez_bd (ez_gi σ 9 t_7 5) fun t_10 =>
  ez_bd (ez_pf σ 4 h0 2 (.inl t_10)) fun σ =>
  some ((0 : Int32), σ)
set_option maxHeartbeats 4000000 in
set_option maxRecDepth 100000 in
theorem c_X4_blame {l : Launch} {X : ez_X} {B : Nat} {σ : ez_H} {h0 : Nat} {x1 : Int32} {z : Int32 × ez_H} (h : z_X4_blame σ h0 x1 = some z) : ez_M l X B σ yX4_blame cX4_blame 2 (some .boolean) 0 [.ref (B + h0), .int x1] (some (.int z.1)) z.2 := by
  refine ez_starti (z := z) (by decide) (Nat.le_of_ble_eq_true rfl) (fun p e R s m args below meth c Q hC hret hS ls hl => ?_)
  have hC : ez_C p R s m args c X B RX4 cX4_blame 2 0 := hC
  have hx := hC.1.1
  have hb := hC.1.2.1
  have hown := hC.1.2.2.2.1
  have hts := hC.1.2.2.2.2
  have hl : lv_has ls 2 [(0, .ref (B + h0)), (1, .int x1)] := hl
  obtain ⟨σ0, eσ⟩ : ∃ σ0 : ez_H, σ0 = σ := ⟨_, rfl⟩
  rw [← eσ] at hret
  have hS : ez_S X B s.heap σ0.length σ s.heap [] := eσ ▸ hS
  obtain ⟨-, h⟩ := ez_in h
  refine lv_aload_n hx hb dX4_blame_0 rfl (lv_at hl 0 rfl) ?_
  refine lv_iload_n hx hb dX4_blame_1 rfl (lv_at hl 1 rfl) ?_
  refine ep_RX4_18 hC hS h dX4_blame_2 (fun σ H locs hS h => ?_)
  refine lv_aload_n hx hb dX4_blame_5 rfl (lv_at hl 0 rfl) ?_
  refine lv_aload_n hx hb dX4_blame_6 rfl (lv_at hl 0 rfl) ?_
  refine eg_RX4_30 hC hS h dX4_blame_7 (fun t_7 h => ?_)
  refine eg_RX4_56 hC hS h dX4_blame_10 (fun t_10 h => ?_)
  refine ep_RX4_22 hC hS h dX4_blame_13 (fun σ H locs hS h => ?_)
  refine lv_iconst (v := 0) hx hb dX4_blame_16 (by decide) ?_
  have hn : narrow .boolean (.int 0) = .int 0 := by decide
  exact hret _ _ _ _ _ _ (Option.some.inj h) hn hS dX4_blame_17
set_option maxRecDepth 100000 in
noncomputable def z_X4_refuse_18 (σ : ez_H) (y0 : Nat) (y1 : Int32) : Option (Int32 × ez_H) :=
  ez_b2 (z_X4_blame σ y0 y1) fun t_18 σ =>
  ez_nr .boolean t_18 <|
  some (t_18, σ)
set_option maxRecDepth 100000 in
noncomputable def z_X4_refuse (σ : ez_H) (h0 : Nat) : Option (Int32 × ez_H) :=
  ez_bd (ez_ob σ 4 h0) fun _ =>
  ez_bd (ez_gr σ 4 h0 3) fun t_2 =>
  ez_bd (ez_gi σ 9 t_2 4) fun t_5 =>
  if t_5 = (25 : Int32) then (
  z_X4_refuse_18  σ h0 (1 : Int32)
  ) else (
  z_X4_refuse_18  σ h0 (2 : Int32)
  )
set_option maxHeartbeats 4000000 in
set_option maxRecDepth 100000 in
theorem c_X4_refuse {l : Launch} {X : ez_X} {B : Nat} {σ : ez_H} {h0 : Nat} {z : Int32 × ez_H} (h : z_X4_refuse σ h0 = some z) : ez_M l X B σ yX4_refuse cX4_refuse 1 (some .boolean) 1 [.ref (B + h0)] (some (.int z.1)) z.2 := by
  refine ez_starti (z := z) (by decide) (Nat.le_of_ble_eq_true rfl) (fun p e R s m args below meth c Q hC hret hS ls hl => ?_)
  have hC : ez_C p R s m args c X B RX4 cX4_refuse 1 1 := hC
  have hx := hC.1.1
  have hb := hC.1.2.1
  have hown := hC.1.2.2.2.1
  have hts := hC.1.2.2.2.2
  have hl : lv_has ls 1 [(0, .ref (B + h0))] := hl
  obtain ⟨σ0, eσ⟩ : ∃ σ0 : ez_H, σ0 = σ := ⟨_, rfl⟩
  rw [← eσ] at hret
  have hS : ez_S X B s.heap σ0.length σ s.heap [] := eσ ▸ hS
  obtain ⟨-, h⟩ := ez_in h
  have K_18 : ∀ (σ : ez_H) (y0 : Nat) (y1 : Int32) (H : Heap) (locs : List Loc) (ls : Array Slot), ez_S X B s.heap (σ0.length) σ H locs → z_X4_refuse_18 σ y0 y1 = some z → lv_has ls 1 [] → W p l e R s m args below meth c H locs 0 0 Q (F0 m 18 ls [.int y1, .ref (B + y0)]) := by
    intro σ y0 y1 H locs ls hS h hl
    refine ez_cVi (As := [.int y1]) (rest := []) h (fun _ q => c_X4_blame q) hC k_X4_blame ql_RX4_59 rfl (by decide) hS (fun _ q => ez_rcv q) rfl hl.1 rfl (Nat.le_of_ble_eq_true rfl) ⟨Nat.zero_le _, Nat.zero_le _⟩ dX4_refuse_18 (fun t_18 σ H locs hS h => ?_)
    obtain ⟨hn, h⟩ := ez_nr_sp rfl h
    exact hret _ _ _ _ _ _ (Option.some.inj h) hn hS dX4_refuse_21
  refine lv_aload_n hx hb dX4_refuse_0 rfl (lv_at hl 0 rfl) ?_
  refine lv_aload_n hx hb dX4_refuse_1 rfl (lv_at hl 0 rfl) ?_
  refine eg_RX4_30 hC hS h dX4_refuse_2 (fun t_2 h => ?_)
  refine eg_RX4_49 hC hS h dX4_refuse_5 (fun t_5 h => ?_)
  refine lv_bipush (v := 25) hx hb dX4_refuse_8 (by decide) ?_
  refine lv_icmp_ne (tgt := 17) hx hb dX4_refuse_10 (by decide) (fun c_10 => ?_) (fun c_10 => ?_)
  · replace h := ez_ifn h c_10
    refine lv_iconst (v := 2) hx hb dX4_refuse_17 (by decide) ?_
    exact K_18  σ h0 (2 : Int32) _ _ _ hS h (lv_sub hl [] rfl)
  · replace h := ez_ifp h c_10
    refine lv_iconst (v := 1) hx hb dX4_refuse_13 (by decide) ?_
    refine lv_goto (tgt := 18) hx hb dX4_refuse_14 (by decide) ?_
    exact K_18  σ h0 (1 : Int32) _ _ _ hS h (lv_sub hl [] rfl)
set_option maxRecDepth 100000 in
noncomputable def z_X4_beginOnce (σ : ez_H) (h0 : Nat) : Option (Int32 × ez_H) :=
  ez_bd (ez_ob σ 4 h0) fun _ =>
  ez_bd (ez_gr σ 4 h0 3) fun t_2 =>
  ez_bd (ez_gi σ 9 t_2 4) fun t_5 =>
  ez_let ((1 : Int32) <<< (t_5 &&& 31)) fun t_8 =>
  ez_bd (ez_gi σ 4 h0 5) fun t_11 =>
  ez_let (t_11 &&& t_8) fun t_15 =>
  if t_15 = (0 : Int32) then (
  ez_bd (ez_gi σ 4 h0 5) fun t_26 =>
  ez_let (t_26 ||| t_8) fun t_30 =>
  ez_bd (ez_pf σ 4 h0 5 (.inl t_30)) fun σ =>
  ez_bd (ez_gr σ 4 h0 3) fun t_35 =>
  ez_b2 (z_X9_advance σ t_35) fun _ σ =>
  some ((1 : Int32), σ)
  ) else (
  ez_b2 (z_X4_refuse σ h0) fun t_20 σ =>
  ez_nr .boolean t_20 <|
  some (t_20, σ)
  )
set_option maxHeartbeats 4000000 in
set_option maxRecDepth 100000 in
theorem c_X4_beginOnce {l : Launch} {X : ez_X} {B : Nat} {σ : ez_H} {h0 : Nat} {z : Int32 × ez_H} (h : z_X4_beginOnce σ h0 = some z) : ez_M l X B σ yX4_beginOnce cX4_beginOnce 2 (some .boolean) 5 [.ref (B + h0)] (some (.int z.1)) z.2 := by
  refine ez_starti (z := z) (by decide) (Nat.le_of_ble_eq_true rfl) (fun p e R s m args below meth c Q hC hret hS ls hl => ?_)
  have hC : ez_C p R s m args c X B RX4 cX4_beginOnce 2 5 := hC
  have hx := hC.1.1
  have hb := hC.1.2.1
  have hown := hC.1.2.2.2.1
  have hts := hC.1.2.2.2.2
  have hl : lv_has ls 2 [(0, .ref (B + h0))] := hl
  obtain ⟨σ0, eσ⟩ : ∃ σ0 : ez_H, σ0 = σ := ⟨_, rfl⟩
  rw [← eσ] at hret
  have hS : ez_S X B s.heap σ0.length σ s.heap [] := eσ ▸ hS
  obtain ⟨-, h⟩ := ez_in h
  refine lv_iconst (v := 1) hx hb dX4_beginOnce_0 (by decide) ?_
  refine lv_aload_n hx hb dX4_beginOnce_1 rfl (lv_at hl 0 rfl) ?_
  refine eg_RX4_30 hC hS h dX4_beginOnce_2 (fun t_2 h => ?_)
  refine eg_RX4_49 hC hS h dX4_beginOnce_5 (fun t_5 h => ?_)
  refine lv_ishl hx hb dX4_beginOnce_8 ?_
  refine ez_top h (fun t_8 h => ?_)
  refine lv_istore_n (lv' := [(1, .int t_8), (0, .ref (B + h0))]) hx hb dX4_beginOnce_9 rfl hl (by decide) rfl (fun ls hl => ?_)
  refine lv_aload_n hx hb dX4_beginOnce_10 rfl (lv_at hl 1 rfl) ?_
  refine eg_RX4_42 hC hS h dX4_beginOnce_11 (fun t_11 h => ?_)
  refine lv_iload_n hx hb dX4_beginOnce_14 rfl (lv_at hl 0 rfl) ?_
  refine lv_iand hx hb dX4_beginOnce_15 ?_
  refine ez_top h (fun t_15 h => ?_)
  refine lv_if_eq (tgt := 24) hx hb dX4_beginOnce_16 (by decide) (fun c_16 => ?_) (fun c_16 => ?_)
  · replace h := ez_ifp h c_16
    refine lv_aload_n hx hb dX4_beginOnce_24 rfl (lv_at hl 1 rfl) ?_
    refine lv_dup hx hb dX4_beginOnce_25 rfl ?_
    refine eg_RX4_42 hC hS h dX4_beginOnce_26 (fun t_26 h => ?_)
    refine lv_iload_n hx hb dX4_beginOnce_29 rfl (lv_at hl 0 rfl) ?_
    refine lv_ior hx hb dX4_beginOnce_30 ?_
    refine ez_top h (fun t_30 h => ?_)
    refine ep_RX4_42 hC hS h dX4_beginOnce_31 (fun σ H locs hS h => ?_)
    refine lv_aload_n hx hb dX4_beginOnce_34 rfl (lv_at hl 1 rfl) ?_
    refine eg_RX4_30 hC hS h dX4_beginOnce_35 (fun t_35 h => ?_)
    refine ez_cVv (As := []) (rest := []) h (fun _ q => c_X9_advance q) hC k_X9_advance ql_RX4_66 rfl (by decide) hS (fun _ q => ez_rcv q) rfl hl.1 rfl (Nat.le_of_ble_eq_true rfl) ⟨Nat.zero_le _, Nat.zero_le _⟩ dX4_beginOnce_38 (fun _ σ H locs hS h => ?_)
    refine lv_iconst (v := 1) hx hb dX4_beginOnce_41 (by decide) ?_
    have hn : narrow .boolean (.int 1) = .int 1 := by decide
    exact hret _ _ _ _ _ _ (Option.some.inj h) hn hS dX4_beginOnce_42
  · replace h := ez_ifn h c_16
    refine lv_aload_n hx hb dX4_beginOnce_19 rfl (lv_at hl 1 rfl) ?_
    refine ez_cVi (As := []) (rest := []) h (fun _ q => c_X4_refuse q) hC k_X4_refuse ql_RX4_63 rfl (by decide) hS (fun _ q => ez_rcv q) rfl hl.1 rfl (Nat.le_of_ble_eq_true rfl) ⟨Nat.zero_le _, Nat.zero_le _⟩ dX4_beginOnce_20 (fun t_20 σ H locs hS h => ?_)
    obtain ⟨hn, h⟩ := ez_nr_sp rfl h
    exact hret _ _ _ _ _ _ (Option.some.inj h) hn hS dX4_beginOnce_23
set_option maxRecDepth 100000 in
noncomputable def z_X4_expect (σ : ez_H) (h0 : Nat) (x1 : Int32) : Option (Int32 × ez_H) :=
  ez_bd (ez_ob σ 4 h0) fun _ =>
  ez_bd (ez_gr σ 4 h0 3) fun t_1 =>
  ez_bd (ez_gi σ 9 t_1 4) fun t_4 =>
  if t_4 = x1 then (
  ez_bd (ez_gr σ 4 h0 3) fun t_17 =>
  ez_b2 (z_X9_advance σ t_17) fun _ σ =>
  some ((1 : Int32), σ)
  ) else (
  ez_b2 (z_X4_refuse σ h0) fun t_12 σ =>
  ez_nr .boolean t_12 <|
  some (t_12, σ)
  )
set_option maxHeartbeats 4000000 in
set_option maxRecDepth 100000 in
theorem c_X4_expect {l : Launch} {X : ez_X} {B : Nat} {σ : ez_H} {h0 : Nat} {x1 : Int32} {z : Int32 × ez_H} (h : z_X4_expect σ h0 x1 = some z) : ez_M l X B σ yX4_expect cX4_expect 2 (some .boolean) 5 [.ref (B + h0), .int x1] (some (.int z.1)) z.2 := by
  refine ez_starti (z := z) (by decide) (Nat.le_of_ble_eq_true rfl) (fun p e R s m args below meth c Q hC hret hS ls hl => ?_)
  have hC : ez_C p R s m args c X B RX4 cX4_expect 2 5 := hC
  have hx := hC.1.1
  have hb := hC.1.2.1
  have hown := hC.1.2.2.2.1
  have hts := hC.1.2.2.2.2
  have hl : lv_has ls 2 [(0, .ref (B + h0)), (1, .int x1)] := hl
  obtain ⟨σ0, eσ⟩ : ∃ σ0 : ez_H, σ0 = σ := ⟨_, rfl⟩
  rw [← eσ] at hret
  have hS : ez_S X B s.heap σ0.length σ s.heap [] := eσ ▸ hS
  obtain ⟨-, h⟩ := ez_in h
  refine lv_aload_n hx hb dX4_expect_0 rfl (lv_at hl 0 rfl) ?_
  refine eg_RX4_30 hC hS h dX4_expect_1 (fun t_1 h => ?_)
  refine eg_RX4_49 hC hS h dX4_expect_4 (fun t_4 h => ?_)
  refine lv_iload_n hx hb dX4_expect_7 rfl (lv_at hl 1 rfl) ?_
  refine lv_icmp_eq (tgt := 16) hx hb dX4_expect_8 (by decide) (fun c_8 => ?_) (fun c_8 => ?_)
  · replace h := ez_ifp h c_8
    refine lv_aload_n hx hb dX4_expect_16 rfl (lv_at hl 0 rfl) ?_
    refine eg_RX4_30 hC hS h dX4_expect_17 (fun t_17 h => ?_)
    refine ez_cVv (As := []) (rest := []) h (fun _ q => c_X9_advance q) hC k_X9_advance ql_RX4_66 rfl (by decide) hS (fun _ q => ez_rcv q) rfl hl.1 rfl (Nat.le_of_ble_eq_true rfl) ⟨Nat.zero_le _, Nat.zero_le _⟩ dX4_expect_20 (fun _ σ H locs hS h => ?_)
    refine lv_iconst (v := 1) hx hb dX4_expect_23 (by decide) ?_
    have hn : narrow .boolean (.int 1) = .int 1 := by decide
    exact hret _ _ _ _ _ _ (Option.some.inj h) hn hS dX4_expect_24
  · replace h := ez_ifn h c_8
    refine lv_aload_n hx hb dX4_expect_11 rfl (lv_at hl 0 rfl) ?_
    refine ez_cVi (As := []) (rest := []) h (fun _ q => c_X4_refuse q) hC k_X4_refuse ql_RX4_63 rfl (by decide) hS (fun _ q => ez_rcv q) rfl hl.1 rfl (Nat.le_of_ble_eq_true rfl) ⟨Nat.zero_le _, Nat.zero_le _⟩ dX4_expect_12 (fun t_12 σ H locs hS h => ?_)
    obtain ⟨hn, h⟩ := ez_nr_sp rfl h
    exact hret _ _ _ _ _ _ (Option.some.inj h) hn hS dX4_expect_15
set_option maxRecDepth 100000 in
noncomputable def z_X4_readOnce_98 (σ : ez_H) (h0 : Nat) : Option (Int32 × ez_H) :=
  ez_b2 (z_X4_blame σ h0 (4 : Int32)) fun t_100 σ =>
  ez_nr .boolean t_100 <|
  some (t_100, σ)
set_option maxRecDepth 100000 in
noncomputable def z_X4_readOnce_175 (σ : ez_H) (h0 : Nat) : Option (Int32 × ez_H) :=
  ez_bd (ez_gr σ 4 h0 3) fun t_176 =>
  ez_b2 (z_X9_advance σ t_176) fun _ σ =>
  ez_b2 (z_X4_expect σ h0 (59 : Int32)) fun t_185 σ =>
  ez_nr .boolean t_185 <|
  some (t_185, σ)
set_option maxRecDepth 100000 in
noncomputable def z_X4_readOnce_51 (σ : ez_H) (h0 : Nat) (x1 : Int32) (x2 : Int32) (x3 : Int32) : Option (Int32 × ez_H) :=
  ez_b2 (z_X4_beginOnce σ h0) fun t_52 σ =>
  if t_52 = (0 : Int32) then (
  some ((0 : Int32), σ)
  ) else (
  ez_bd (ez_gr σ 4 h0 3) fun t_61 =>
  ez_bd (ez_gi σ 9 t_61 4) fun t_64 =>
  if t_64 = (24 : Int32) then (
  ez_bd (ez_gr σ 4 h0 3) fun t_78 =>
  ez_bd (ez_gi σ 9 t_78 6) fun t_81 =>
  if t_81 < x1 then (
  z_X4_readOnce_98  σ h0
  ) else (
  if t_81 ≤ x2 then (
  if x3 = (0 : Int32) then (
  ez_bd (ez_gr σ 4 h0 0) fun t_109 =>
  ez_bd (ez_gr σ 3 t_109 0) fun t_112 =>
  ez_bd (ez_pf σ 6 t_112 0 (.inl t_81)) fun σ =>
  z_X4_readOnce_175  σ h0
  ) else (
  if x3 = (1 : Int32) then (
  ez_bd (ez_gr σ 4 h0 0) fun t_129 =>
  ez_bd (ez_gr σ 3 t_129 0) fun t_132 =>
  ez_bd (ez_pf σ 6 t_132 1 (.inl t_81)) fun σ =>
  z_X4_readOnce_175  σ h0
  ) else (
  if x3 = (2 : Int32) then (
  ez_bd (ez_gr σ 4 h0 0) fun t_149 =>
  ez_bd (ez_gr σ 3 t_149 0) fun t_152 =>
  ez_bd (ez_pf σ 6 t_152 2 (.inl t_81)) fun σ =>
  z_X4_readOnce_175  σ h0
  ) else (
  ez_bd (ez_gr σ 4 h0 0) fun t_164 =>
  ez_bd (ez_gr σ 3 t_164 2) fun t_167 =>
  ez_b2 (z_X7_putSeed σ t_167 t_81) fun _ σ =>
  z_X4_readOnce_175  σ h0
  )
  )
  )
  ) else (
  z_X4_readOnce_98  σ h0
  )
  )
  ) else (
  ez_b2 (z_X4_refuse σ h0) fun t_73 σ =>
  ez_nr .boolean t_73 <|
  some (t_73, σ)
  )
  )
set_option maxRecDepth 100000 in
noncomputable def z_X4_readOnce_33 (σ : ez_H) (h0 : Nat) (x1 : Int32) (x2 : Int32) (x3 : Int32) (y0 : Int32) : Option (Int32 × ez_H) :=
  if y0 = (0 : Int32) then (
  z_X4_readOnce_51  σ h0 x1 x2 x3
  ) else (
  if x3 = (11 : Int32) then (
  z_X4_readOnce_51  σ h0 x1 x2 x3
  ) else (
  ez_b2 (z_X4_refuse σ h0) fun t_47 σ =>
  ez_nr .boolean t_47 <|
  some (t_47, σ)
  )
  )
set_option maxRecDepth 100000 in
noncomputable def z_X4_readOnce_28 (σ : ez_H) (h0 : Nat) (x1 : Int32) (x2 : Int32) (x3 : Int32) : Option (Int32 × ez_H) :=
  z_X4_readOnce_33  σ h0 x1 x2 x3 (1 : Int32)
set_option maxRecDepth 100000 in
noncomputable def z_X4_readOnce (σ : ez_H) (h0 : Nat) (x1 : Int32) (x2 : Int32) : Option (Int32 × ez_H) :=
  ez_bd (ez_ob σ 4 h0) fun _ =>
  ez_bd (ez_gr σ 4 h0 3) fun t_1 =>
  ez_bd (ez_gi σ 9 t_1 4) fun t_4 =>
  ez_bd (ez_gr σ 4 h0 0) fun t_9 =>
  ez_bd (ez_gi σ 3 t_9 3) fun t_12 =>
  if (0 : Int32) < t_12 then (
  z_X4_readOnce_28  σ h0 x1 x2 t_4
  ) else (
  ez_bd (ez_gr σ 4 h0 0) fun t_19 =>
  ez_bd (ez_gi σ 3 t_19 4) fun t_22 =>
  if t_22 ≤ (0 : Int32) then (
  z_X4_readOnce_33  σ h0 x1 x2 t_4 (0 : Int32)
  ) else (
  z_X4_readOnce_28  σ h0 x1 x2 t_4
  )
  )
set_option maxHeartbeats 4000000 in
set_option maxRecDepth 100000 in
theorem c_X4_readOnce {l : Launch} {X : ez_X} {B : Nat} {σ : ez_H} {h0 : Nat} {x1 : Int32} {x2 : Int32} {z : Int32 × ez_H} (h : z_X4_readOnce σ h0 x1 x2 = some z) : ez_M l X B σ yX4_readOnce cX4_readOnce 6 (some .boolean) 6 [.ref (B + h0), .int x1, .int x2] (some (.int z.1)) z.2 := by
  refine ez_starti (z := z) (by decide) (Nat.le_of_ble_eq_true rfl) (fun p e R s m args below meth c Q hC hret hS ls hl => ?_)
  have hC : ez_C p R s m args c X B RX4 cX4_readOnce 6 6 := hC
  have hx := hC.1.1
  have hb := hC.1.2.1
  have hown := hC.1.2.2.2.1
  have hts := hC.1.2.2.2.2
  have hl : lv_has ls 6 [(0, .ref (B + h0)), (1, .int x1), (2, .int x2)] := hl
  obtain ⟨σ0, eσ⟩ : ∃ σ0 : ez_H, σ0 = σ := ⟨_, rfl⟩
  rw [← eσ] at hret
  have hS : ez_S X B s.heap σ0.length σ s.heap [] := eσ ▸ hS
  obtain ⟨-, h⟩ := ez_in h
  have K_98 : ∀ (σ : ez_H) (h0 : Nat) (H : Heap) (locs : List Loc) (ls : Array Slot), ez_S X B s.heap (σ0.length) σ H locs → z_X4_readOnce_98 σ h0 = some z → lv_has ls 6 [(0, .ref (B + h0))] → W p l e R s m args below meth c H locs 0 0 Q (F0 m 98 ls []) := by
    intro σ h0 H locs ls hS h hl
    refine lv_aload_n hx hb dX4_readOnce_98 rfl (lv_at hl 0 rfl) ?_
    refine lv_iconst (v := 4) hx hb dX4_readOnce_99 (by decide) ?_
    refine ez_cVi (As := [.int 4]) (rest := []) h (fun _ q => c_X4_blame q) hC k_X4_blame ql_RX4_59 rfl (by decide) hS (fun _ q => ez_rcv q) rfl hl.1 rfl (Nat.le_of_ble_eq_true rfl) ⟨Nat.zero_le _, Nat.zero_le _⟩ dX4_readOnce_100 (fun t_100 σ H locs hS h => ?_)
    obtain ⟨hn, h⟩ := ez_nr_sp rfl h
    exact hret _ _ _ _ _ _ (Option.some.inj h) hn hS dX4_readOnce_103
  have K_175 : ∀ (σ : ez_H) (h0 : Nat) (H : Heap) (locs : List Loc) (ls : Array Slot), ez_S X B s.heap (σ0.length) σ H locs → z_X4_readOnce_175 σ h0 = some z → lv_has ls 6 [(0, .ref (B + h0))] → W p l e R s m args below meth c H locs 0 0 Q (F0 m 175 ls []) := by
    intro σ h0 H locs ls hS h hl
    refine lv_aload_n hx hb dX4_readOnce_175 rfl (lv_at hl 0 rfl) ?_
    refine eg_RX4_30 hC hS h dX4_readOnce_176 (fun t_176 h => ?_)
    refine ez_cVv (As := []) (rest := []) h (fun _ q => c_X9_advance q) hC k_X9_advance ql_RX4_66 rfl (by decide) hS (fun _ q => ez_rcv q) rfl hl.1 rfl (Nat.le_of_ble_eq_true rfl) ⟨Nat.zero_le _, Nat.zero_le _⟩ dX4_readOnce_179 (fun _ σ H locs hS h => ?_)
    refine lv_aload_n hx hb dX4_readOnce_182 rfl (lv_at hl 0 rfl) ?_
    refine lv_bipush (v := 59) hx hb dX4_readOnce_183 (by decide) ?_
    refine ez_cVi (As := [.int 59]) (rest := []) h (fun _ q => c_X4_expect q) hC k_X4_expect ql_RX4_97 rfl (by decide) hS (fun _ q => ez_rcv q) rfl hl.1 rfl (Nat.le_of_ble_eq_true rfl) ⟨Nat.zero_le _, Nat.zero_le _⟩ dX4_readOnce_185 (fun t_185 σ H locs hS h => ?_)
    obtain ⟨hn, h⟩ := ez_nr_sp rfl h
    exact hret _ _ _ _ _ _ (Option.some.inj h) hn hS dX4_readOnce_188
  have K_51 : ∀ (σ : ez_H) (h0 : Nat) (x1 : Int32) (x2 : Int32) (x3 : Int32) (H : Heap) (locs : List Loc) (ls : Array Slot), ez_S X B s.heap (σ0.length) σ H locs → z_X4_readOnce_51 σ h0 x1 x2 x3 = some z → lv_has ls 6 [(0, .ref (B + h0)), (1, .int x1), (2, .int x2), (3, .int x3)] → W p l e R s m args below meth c H locs 0 0 Q (F0 m 51 ls []) := by
    intro σ h0 x1 x2 x3 H locs ls hS h hl
    refine lv_aload_n hx hb dX4_readOnce_51 rfl (lv_at hl 0 rfl) ?_
    refine ez_cVi (As := []) (rest := []) h (fun _ q => c_X4_beginOnce q) hC k_X4_beginOnce ql_RX4_91 rfl (by decide) hS (fun _ q => ez_rcv q) rfl hl.1 rfl (Nat.le_of_ble_eq_true rfl) ⟨Nat.zero_le _, Nat.zero_le _⟩ dX4_readOnce_52 (fun t_52 σ H locs hS h => ?_)
    refine lv_if_ne (tgt := 60) hx hb dX4_readOnce_55 (by decide) (fun c_55 => ?_) (fun c_55 => ?_)
    · replace h := ez_ifn h c_55
      refine lv_aload_n hx hb dX4_readOnce_60 rfl (lv_at hl 0 rfl) ?_
      refine eg_RX4_30 hC hS h dX4_readOnce_61 (fun t_61 h => ?_)
      refine eg_RX4_49 hC hS h dX4_readOnce_64 (fun t_64 h => ?_)
      refine lv_bipush (v := 24) hx hb dX4_readOnce_67 (by decide) ?_
      refine lv_icmp_eq (tgt := 77) hx hb dX4_readOnce_69 (by decide) (fun c_69 => ?_) (fun c_69 => ?_)
      · replace h := ez_ifp h c_69
        refine lv_aload_n hx hb dX4_readOnce_77 rfl (lv_at hl 0 rfl) ?_
        refine eg_RX4_30 hC hS h dX4_readOnce_78 (fun t_78 h => ?_)
        refine eg_RX4_106 hC hS h dX4_readOnce_81 (fun t_81 h => ?_)
        refine lv_istore (lv' := [(5, .int t_81), (0, .ref (B + h0)), (1, .int x1), (2, .int x2), (3, .int x3)]) hx hb dX4_readOnce_84 hl (by decide) rfl (fun ls hl => ?_)
        refine lv_iload hx hb dX4_readOnce_86 (lv_at hl 0 rfl) ?_
        refine lv_iload_n hx hb dX4_readOnce_88 rfl (lv_at hl 2 rfl) ?_
        refine lv_icmp_lt (tgt := 98) hx hb dX4_readOnce_89 (by decide) (fun c_89 => ?_) (fun c_89 => ?_)
        · replace h := ez_ifp h c_89
          exact K_98  σ h0 _ _ _ hS h (lv_sub hl [1] rfl)
        · replace h := ez_ifn h c_89
          refine lv_iload hx hb dX4_readOnce_92 (lv_at hl 0 rfl) ?_
          refine lv_iload_n hx hb dX4_readOnce_94 rfl (lv_at hl 3 rfl) ?_
          refine lv_icmp_le (tgt := 104) hx hb dX4_readOnce_95 (by decide) (fun c_95 => ?_) (fun c_95 => ?_)
          · replace h := ez_ifp h c_95
            refine lv_iload_n hx hb dX4_readOnce_104 rfl (lv_at hl 4 rfl) ?_
            refine lv_if_ne (tgt := 123) hx hb dX4_readOnce_105 (by decide) (fun c_105 => ?_) (fun c_105 => ?_)
            · replace h := ez_ifn h c_105
              refine lv_iload_n hx hb dX4_readOnce_123 rfl (lv_at hl 4 rfl) ?_
              refine lv_iconst (v := 1) hx hb dX4_readOnce_124 (by decide) ?_
              refine lv_icmp_ne (tgt := 143) hx hb dX4_readOnce_125 (by decide) (fun c_125 => ?_) (fun c_125 => ?_)
              · replace h := ez_ifn h c_125
                refine lv_iload_n hx hb dX4_readOnce_143 rfl (lv_at hl 4 rfl) ?_
                refine lv_iconst (v := 2) hx hb dX4_readOnce_144 (by decide) ?_
                refine lv_icmp_ne (tgt := 163) hx hb dX4_readOnce_145 (by decide) (fun c_145 => ?_) (fun c_145 => ?_)
                · replace h := ez_ifn h c_145
                  refine lv_aload_n hx hb dX4_readOnce_163 rfl (lv_at hl 1 rfl) ?_
                  refine eg_RX4_12 hC hS h dX4_readOnce_164 (fun t_164 h => ?_)
                  refine eg_RX4_124 hC hS h dX4_readOnce_167 (fun t_167 h => ?_)
                  refine lv_iload hx hb dX4_readOnce_170 (lv_at hl 0 rfl) ?_
                  refine ez_cVv (As := [.int t_81]) (rest := []) h (fun _ q => c_X7_putSeed q) hC k_X7_putSeed ql_RX4_128 rfl (by decide) hS (fun _ q => ez_rcv q) rfl hl.1 rfl (Nat.le_of_ble_eq_true rfl) ⟨Nat.zero_le _, Nat.zero_le _⟩ dX4_readOnce_172 (fun _ σ H locs hS h => ?_)
                  exact K_175  σ h0 _ _ _ hS h (lv_sub hl [1] rfl)
                · replace h := ez_ifp h c_145
                  refine lv_aload_n hx hb dX4_readOnce_148 rfl (lv_at hl 1 rfl) ?_
                  refine eg_RX4_12 hC hS h dX4_readOnce_149 (fun t_149 h => ?_)
                  refine eg_RX4_109 hC hS h dX4_readOnce_152 (fun t_152 h => ?_)
                  refine lv_iload hx hb dX4_readOnce_155 (lv_at hl 0 rfl) ?_
                  refine ep_RX4_121 hC hS h dX4_readOnce_157 (fun σ H locs hS h => ?_)
                  refine lv_goto (tgt := 175) hx hb dX4_readOnce_160 (by decide) ?_
                  exact K_175  σ h0 _ _ _ hS h (lv_sub hl [1] rfl)
              · replace h := ez_ifp h c_125
                refine lv_aload_n hx hb dX4_readOnce_128 rfl (lv_at hl 1 rfl) ?_
                refine eg_RX4_12 hC hS h dX4_readOnce_129 (fun t_129 h => ?_)
                refine eg_RX4_109 hC hS h dX4_readOnce_132 (fun t_132 h => ?_)
                refine lv_iload hx hb dX4_readOnce_135 (lv_at hl 0 rfl) ?_
                refine ep_RX4_118 hC hS h dX4_readOnce_137 (fun σ H locs hS h => ?_)
                refine lv_goto (tgt := 175) hx hb dX4_readOnce_140 (by decide) ?_
                exact K_175  σ h0 _ _ _ hS h (lv_sub hl [1] rfl)
            · replace h := ez_ifp h c_105
              refine lv_aload_n hx hb dX4_readOnce_108 rfl (lv_at hl 1 rfl) ?_
              refine eg_RX4_12 hC hS h dX4_readOnce_109 (fun t_109 h => ?_)
              refine eg_RX4_109 hC hS h dX4_readOnce_112 (fun t_112 h => ?_)
              refine lv_iload hx hb dX4_readOnce_115 (lv_at hl 0 rfl) ?_
              refine ep_RX4_113 hC hS h dX4_readOnce_117 (fun σ H locs hS h => ?_)
              refine lv_goto (tgt := 175) hx hb dX4_readOnce_120 (by decide) ?_
              exact K_175  σ h0 _ _ _ hS h (lv_sub hl [1] rfl)
          · replace h := ez_ifn h c_95
            exact K_98  σ h0 _ _ _ hS h (lv_sub hl [1] rfl)
      · replace h := ez_ifn h c_69
        refine lv_aload_n hx hb dX4_readOnce_72 rfl (lv_at hl 0 rfl) ?_
        refine ez_cVi (As := []) (rest := []) h (fun _ q => c_X4_refuse q) hC k_X4_refuse ql_RX4_63 rfl (by decide) hS (fun _ q => ez_rcv q) rfl hl.1 rfl (Nat.le_of_ble_eq_true rfl) ⟨Nat.zero_le _, Nat.zero_le _⟩ dX4_readOnce_73 (fun t_73 σ H locs hS h => ?_)
        obtain ⟨hn, h⟩ := ez_nr_sp rfl h
        exact hret _ _ _ _ _ _ (Option.some.inj h) hn hS dX4_readOnce_76
    · replace h := ez_ifp h c_55
      refine lv_iconst (v := 0) hx hb dX4_readOnce_58 (by decide) ?_
      have hn : narrow .boolean (.int 0) = .int 0 := by decide
      exact hret _ _ _ _ _ _ (Option.some.inj h) hn hS dX4_readOnce_59
  have K_33 : ∀ (σ : ez_H) (h0 : Nat) (x1 : Int32) (x2 : Int32) (x3 : Int32) (y0 : Int32) (H : Heap) (locs : List Loc) (ls : Array Slot), ez_S X B s.heap (σ0.length) σ H locs → z_X4_readOnce_33 σ h0 x1 x2 x3 y0 = some z → lv_has ls 6 [(0, .ref (B + h0)), (1, .int x1), (2, .int x2), (3, .int x3)] → W p l e R s m args below meth c H locs 0 0 Q (F0 m 33 ls [.int y0]) := by
    intro σ h0 x1 x2 x3 y0 H locs ls hS h hl
    refine lv_istore (lv' := [(4, .int y0), (0, .ref (B + h0)), (1, .int x1), (2, .int x2), (3, .int x3)]) hx hb dX4_readOnce_33 hl (by decide) rfl (fun ls hl => ?_)
    refine lv_iload hx hb dX4_readOnce_35 (lv_at hl 0 rfl) ?_
    refine lv_if_eq (tgt := 51) hx hb dX4_readOnce_37 (by decide) (fun c_37 => ?_) (fun c_37 => ?_)
    · replace h := ez_ifp h c_37
      exact K_51  σ h0 x1 x2 x3 _ _ _ hS h (lv_sub hl [1, 2, 3, 4] rfl)
    · replace h := ez_ifn h c_37
      refine lv_iload_n hx hb dX4_readOnce_40 rfl (lv_at hl 4 rfl) ?_
      refine lv_bipush (v := 11) hx hb dX4_readOnce_41 (by decide) ?_
      refine lv_icmp_eq (tgt := 51) hx hb dX4_readOnce_43 (by decide) (fun c_43 => ?_) (fun c_43 => ?_)
      · replace h := ez_ifp h c_43
        exact K_51  σ h0 x1 x2 x3 _ _ _ hS h (lv_sub hl [1, 2, 3, 4] rfl)
      · replace h := ez_ifn h c_43
        refine lv_aload_n hx hb dX4_readOnce_46 rfl (lv_at hl 1 rfl) ?_
        refine ez_cVi (As := []) (rest := []) h (fun _ q => c_X4_refuse q) hC k_X4_refuse ql_RX4_63 rfl (by decide) hS (fun _ q => ez_rcv q) rfl hl.1 rfl (Nat.le_of_ble_eq_true rfl) ⟨Nat.zero_le _, Nat.zero_le _⟩ dX4_readOnce_47 (fun t_47 σ H locs hS h => ?_)
        obtain ⟨hn, h⟩ := ez_nr_sp rfl h
        exact hret _ _ _ _ _ _ (Option.some.inj h) hn hS dX4_readOnce_50
  have K_28 : ∀ (σ : ez_H) (h0 : Nat) (x1 : Int32) (x2 : Int32) (x3 : Int32) (H : Heap) (locs : List Loc) (ls : Array Slot), ez_S X B s.heap (σ0.length) σ H locs → z_X4_readOnce_28 σ h0 x1 x2 x3 = some z → lv_has ls 6 [(0, .ref (B + h0)), (1, .int x1), (2, .int x2), (3, .int x3)] → W p l e R s m args below meth c H locs 0 0 Q (F0 m 28 ls []) := by
    intro σ h0 x1 x2 x3 H locs ls hS h hl
    refine lv_iconst (v := 1) hx hb dX4_readOnce_28 (by decide) ?_
    refine lv_goto (tgt := 33) hx hb dX4_readOnce_29 (by decide) ?_
    exact K_33  σ h0 x1 x2 x3 (1 : Int32) _ _ _ hS h (lv_sub hl [0, 1, 2, 3] rfl)
  refine lv_aload_n hx hb dX4_readOnce_0 rfl (lv_at hl 0 rfl) ?_
  refine eg_RX4_30 hC hS h dX4_readOnce_1 (fun t_1 h => ?_)
  refine eg_RX4_49 hC hS h dX4_readOnce_4 (fun t_4 h => ?_)
  refine lv_istore_n (lv' := [(3, .int t_4), (0, .ref (B + h0)), (1, .int x1), (2, .int x2)]) hx hb dX4_readOnce_7 rfl hl (by decide) rfl (fun ls hl => ?_)
  refine lv_aload_n hx hb dX4_readOnce_8 rfl (lv_at hl 1 rfl) ?_
  refine eg_RX4_12 hC hS h dX4_readOnce_9 (fun t_9 h => ?_)
  refine eg_RX4_100 hC hS h dX4_readOnce_12 (fun t_12 h => ?_)
  refine lv_if_gt (tgt := 28) hx hb dX4_readOnce_15 (by decide) (fun c_15 => ?_) (fun c_15 => ?_)
  · replace h := ez_ifp h c_15
    exact K_28  σ h0 x1 x2 t_4 _ _ _ hS h (lv_sub hl [1, 2, 3, 0] rfl)
  · replace h := ez_ifn h c_15
    refine lv_aload_n hx hb dX4_readOnce_18 rfl (lv_at hl 1 rfl) ?_
    refine eg_RX4_12 hC hS h dX4_readOnce_19 (fun t_19 h => ?_)
    refine eg_RX4_103 hC hS h dX4_readOnce_22 (fun t_22 h => ?_)
    refine lv_if_le (tgt := 32) hx hb dX4_readOnce_25 (by decide) (fun c_25 => ?_) (fun c_25 => ?_)
    · replace h := ez_ifp h c_25
      refine lv_iconst (v := 0) hx hb dX4_readOnce_32 (by decide) ?_
      exact K_33  σ h0 x1 x2 t_4 (0 : Int32) _ _ _ hS h (lv_sub hl [1, 2, 3, 0] rfl)
    · replace h := ez_ifn h c_25
      exact K_28  σ h0 x1 x2 t_4 _ _ _ hS h (lv_sub hl [1, 2, 3, 0] rfl)
set_option maxRecDepth 100000 in
noncomputable def z_X4_named_9 (σ : ez_H) : Option (Int32) :=
  some (-1 : Int32)
set_option maxRecDepth 100000 in
noncomputable def z_X4_named_51 (σ : ez_H) : Option (Int32) :=
  some (-1 : Int32)
set_option maxRecDepth 100000 in
noncomputable def z_X4_named_13 (σ : ez_H) (k_13 : Nat → Int32 → Int32 → Int32 → Option (Int32)) (h0 : Nat) (x1 : Int32) (x2 : Int32) (x3 : Int32) : Option (Int32) :=
  if x2 ≤ x3 then (
  z_X4_named_51 σ 
  ) else (
  if (8 : Int32) ≤ x3 then (
  z_X4_named_51 σ 
  ) else (
  ez_bd (ez_gr σ 4 h0 4) fun t_25 =>
  ez_bd (ez_ra σ 5 t_25 x1) fun t_29 =>
  ez_bd (ez_la σ t_29 x3) fun t_31 =>
  ez_bd (ez_gr σ 4 h0 3) fun t_33 =>
  ez_bd (ez_gl σ 9 t_33 7) fun t_36 =>
  ez_let (lg_cmp t_31 t_36) fun t_39 =>
  if t_39 = (0 : Int32) then (
  some x3
  ) else (
  ez_let (x3 + 1) fun t_45 =>
  k_13 h0 x1 x2 t_45
  )
  )
  )
set_option maxRecDepth 100000 in
noncomputable def z_X4_named (σ : ez_H) (h0 : Nat) (x1 : Int32) (x2 : Int32) : Option (Int32) :=
  ez_bd (ez_ob σ 4 h0) fun _ =>
  if x1 < (0 : Int32) then (
  z_X4_named_9 σ 
  ) else (
  if x1 < (5 : Int32) then (
  ez_fix (fun _ _ _ _ => none) (z_X4_named_13 σ) ez_N h0 x1 x2 (0 : Int32)
  ) else (
  z_X4_named_9 σ 
  )
  )
set_option maxHeartbeats 4000000 in
set_option maxRecDepth 100000 in
theorem c_X4_named {l : Launch} {X : ez_X} {B : Nat} {σ : ez_H} {h0 : Nat} {x1 : Int32} {x2 : Int32} {z : Int32} (h : z_X4_named σ h0 x1 x2 = some z) : ez_M l X B σ yX4_named cX4_named 4 (some .int) 0 [.ref (B + h0), .int x1, .int x2] (some (.int z)) σ := by
  refine ez_startip (z := z) (by decide) (Nat.le_of_ble_eq_true rfl) (fun p e R s m args below meth c Q hC hret hS ls hl => ?_)
  have hC : ez_C p R s m args c X B RX4 cX4_named 4 0 := hC
  have hx := hC.1.1
  have hb := hC.1.2.1
  have hown := hC.1.2.2.2.1
  have hts := hC.1.2.2.2.2
  have hl : lv_has ls 4 [(0, .ref (B + h0)), (1, .int x1), (2, .int x2)] := hl
  obtain ⟨n0, e0⟩ : ∃ n0 : Nat, n0 = σ.length := ⟨_, rfl⟩
  rw [← e0] at hret hS
  obtain ⟨-, h⟩ := ez_in h
  have K_9 : ∀ (H : Heap) (locs : List Loc) (ls : Array Slot), ez_S X B s.heap (n0) σ H locs → z_X4_named_9 σ = some z → lv_has ls 4 [] → W p l e R s m args below meth c H locs 0 0 Q (F0 m 9 ls []) := by
    intro  H locs ls hS h hl
    refine lv_iconst (v := -1) hx hb dX4_named_9 (by decide) ?_
    exact hret _ _ _ _ _ (Option.some.inj h) rfl hS dX4_named_10
  have K_51 : ∀ (H : Heap) (locs : List Loc) (ls : Array Slot), ez_S X B s.heap (n0) σ H locs → z_X4_named_51 σ = some z → lv_has ls 4 [] → W p l e R s m args below meth c H locs 0 0 Q (F0 m 51 ls []) := by
    intro  H locs ls hS h hl
    refine lv_iconst (v := -1) hx hb dX4_named_51 (by decide) ?_
    exact hret _ _ _ _ _ (Option.some.inj h) rfl hS dX4_named_52
  have K_13 : ∀ (k_13 : Nat → Int32 → Int32 → Int32 → Option (Int32)) (hk_13 : ∀ (h0 : Nat) (x1 : Int32) (x2 : Int32) (x3 : Int32) (H : Heap) (locs : List Loc) (ls : Array Slot), ez_S X B s.heap (n0) σ H locs → k_13 h0 x1 x2 x3 = some z → lv_has ls 4 [(0, .ref (B + h0)), (1, .int x1), (2, .int x2), (3, .int x3)] → W p l e R s m args below meth c H locs 0 0 Q (F0 m 13 ls [])), ∀ (h0 : Nat) (x1 : Int32) (x2 : Int32) (x3 : Int32) (H : Heap) (locs : List Loc) (ls : Array Slot), ez_S X B s.heap (n0) σ H locs → z_X4_named_13 σ k_13 h0 x1 x2 x3 = some z → lv_has ls 4 [(0, .ref (B + h0)), (1, .int x1), (2, .int x2), (3, .int x3)] → W p l e R s m args below meth c H locs 0 0 Q (F0 m 13 ls []) := by
    intro k_13 hk_13 h0 x1 x2 x3 H locs ls hS h hl
    refine lv_iload_n hx hb dX4_named_13 rfl (lv_at hl 3 rfl) ?_
    refine lv_iload_n hx hb dX4_named_14 rfl (lv_at hl 2 rfl) ?_
    refine lv_icmp_ge (tgt := 51) hx hb dX4_named_15 (by decide) (fun c_15 => ?_) (fun c_15 => ?_)
    · replace h := ez_ifp h c_15
      exact K_51   _ _ _ hS h (lv_sub hl [] rfl)
    · replace h := ez_ifn h c_15
      refine lv_iload_n hx hb dX4_named_18 rfl (lv_at hl 3 rfl) ?_
      refine lv_bipush (v := 8) hx hb dX4_named_19 (by decide) ?_
      refine lv_icmp_ge (tgt := 51) hx hb dX4_named_21 (by decide) (fun c_21 => ?_) (fun c_21 => ?_)
      · replace h := ez_ifp h c_21
        exact K_51   _ _ _ hS h (lv_sub hl [] rfl)
      · replace h := ez_ifn h c_21
        refine lv_aload_n hx hb dX4_named_24 rfl (lv_at hl 0 rfl) ?_
        refine eg_RX4_36 hC hS h dX4_named_25 (fun t_25 h => ?_)
        refine lv_iload_n hx hb dX4_named_28 rfl (lv_at hl 1 rfl) ?_
        refine ez_aal hC hS h dX4_named_29 (fun t_29 h => ?_)
        refine lv_iload_n hx hb dX4_named_30 rfl (lv_at hl 3 rfl) ?_
        refine ez_lal hC hS h dX4_named_31 (fun t_31 h => ?_)
        refine lv_aload_n hx hb dX4_named_32 rfl (lv_at hl 0 rfl) ?_
        refine eg_RX4_30 hC hS h dX4_named_33 (fun t_33 h => ?_)
        refine eg_RX4_133 hC hS h dX4_named_36 (fun t_36 h => ?_)
        refine W.lcmp hx hb dX4_named_39 ?_
        refine ez_top h (fun t_39 h => ?_)
        refine lv_if_ne (tgt := 45) hx hb dX4_named_40 (by decide) (fun c_40 => ?_) (fun c_40 => ?_)
        · replace h := ez_ifn h c_40
          obtain ⟨t_45, e_45, h⟩ := ez_let_sp h
          refine lv_iinc (v := t_45) (lv' := [(3, .int t_45), (0, .ref (B + h0)), (1, .int x1), (2, .int x2)]) hx hb dX4_named_45 hl (k := 3) rfl (by rw [e_45]; rfl) (by decide) rfl (fun ls hl => ?_)
          refine lv_goto (tgt := 13) hx hb dX4_named_48 (by decide) ?_
          exact hk_13 h0 x1 x2 t_45 _ _ _ hS h (lv_sub hl [1, 2, 3, 0] rfl)
        · replace h := ez_ifp h c_40
          refine lv_iload_n hx hb dX4_named_43 rfl (lv_at hl 3 rfl) ?_
          exact hret _ _ _ _ _ (Option.some.inj h) rfl hS dX4_named_44
  have E_13 : ∀ (h0 : Nat) (x1 : Int32) (x2 : Int32) (x3 : Int32) (H : Heap) (locs : List Loc) (ls : Array Slot), ez_S X B s.heap (n0) σ H locs → (ez_fix (fun _ _ _ _ => none) (z_X4_named_13 σ) ez_N) h0 x1 x2 x3 = some z → lv_has ls 4 [(0, .ref (B + h0)), (1, .int x1), (2, .int x2), (3, .int x3)] → W p l e R s m args below meth c H locs 0 0 Q (F0 m 13 ls []) := ez_fix_ind (fun k_13 : Nat → Int32 → Int32 → Int32 → Option (Int32) => ∀ (h0 : Nat) (x1 : Int32) (x2 : Int32) (x3 : Int32) (H : Heap) (locs : List Loc) (ls : Array Slot), ez_S X B s.heap (n0) σ H locs → k_13 h0 x1 x2 x3 = some z → lv_has ls 4 [(0, .ref (B + h0)), (1, .int x1), (2, .int x2), (3, .int x3)] → W p l e R s m args below meth c H locs 0 0 Q (F0 m 13 ls [])) (fun _ _ _ _ _ _ _ _ h _ => by cases h) (fun k_13 hk_13 => K_13 k_13 hk_13) ez_N
  refine lv_iload_n hx hb dX4_named_0 rfl (lv_at hl 1 rfl) ?_
  refine lv_if_lt (tgt := 9) hx hb dX4_named_1 (by decide) (fun c_1 => ?_) (fun c_1 => ?_)
  · replace h := ez_ifp h c_1
    exact K_9   _ _ _ hS h (lv_sub hl [] rfl)
  · replace h := ez_ifn h c_1
    refine lv_iload_n hx hb dX4_named_4 rfl (lv_at hl 1 rfl) ?_
    refine lv_iconst (v := 5) hx hb dX4_named_5 (by decide) ?_
    refine lv_icmp_lt (tgt := 11) hx hb dX4_named_6 (by decide) (fun c_6 => ?_) (fun c_6 => ?_)
    · replace h := ez_ifp h c_6
      refine lv_iconst (v := 0) hx hb dX4_named_11 (by decide) ?_
      refine lv_istore_n (lv' := [(3, .int 0), (0, .ref (B + h0)), (1, .int x1), (2, .int x2)]) hx hb dX4_named_12 rfl hl (by decide) rfl (fun ls hl => ?_)
      exact E_13  h0 x1 x2 (0 : Int32) _ _ _ hS h (lv_sub hl [1, 2, 3, 0] rfl)
    · replace h := ez_ifn h c_6
      exact K_9   _ _ _ hS h (lv_sub hl [] rfl)
set_option maxRecDepth 100000 in
noncomputable def z_X4_knownName_37 (σ : ez_H) (x3 : Int32) : Option (Int32 × ez_H) :=
  some (x3, σ)
set_option maxRecDepth 100000 in
noncomputable def z_X4_knownName (σ : ez_H) (h0 : Nat) (x1 : Int32) (x2 : Int32) : Option (Int32 × ez_H) :=
  ez_bd (ez_ob σ 4 h0) fun _ =>
  ez_bd (ez_gr σ 4 h0 3) fun t_1 =>
  ez_bd (ez_gi σ 9 t_1 4) fun t_4 =>
  if t_4 = (23 : Int32) then (
  ez_bd (z_X4_named σ h0 x1 x2) fun t_22 =>
  if t_22 = (-1 : Int32) then (
  ez_b2 (z_X4_blame σ h0 (5 : Int32)) fun t_33 σ =>
  z_X4_knownName_37  σ t_22
  ) else (
  z_X4_knownName_37  σ t_22
  )
  ) else (
  ez_b2 (z_X4_refuse σ h0) fun t_13 σ =>
  some ((-1 : Int32), σ)
  )
set_option maxHeartbeats 4000000 in
set_option maxRecDepth 100000 in
theorem c_X4_knownName {l : Launch} {X : ez_X} {B : Nat} {σ : ez_H} {h0 : Nat} {x1 : Int32} {x2 : Int32} {z : Int32 × ez_H} (h : z_X4_knownName σ h0 x1 x2 = some z) : ez_M l X B σ yX4_knownName cX4_knownName 4 (some .int) 2 [.ref (B + h0), .int x1, .int x2] (some (.int z.1)) z.2 := by
  refine ez_starti (z := z) (by decide) (Nat.le_of_ble_eq_true rfl) (fun p e R s m args below meth c Q hC hret hS ls hl => ?_)
  have hC : ez_C p R s m args c X B RX4 cX4_knownName 4 2 := hC
  have hx := hC.1.1
  have hb := hC.1.2.1
  have hown := hC.1.2.2.2.1
  have hts := hC.1.2.2.2.2
  have hl : lv_has ls 4 [(0, .ref (B + h0)), (1, .int x1), (2, .int x2)] := hl
  obtain ⟨σ0, eσ⟩ : ∃ σ0 : ez_H, σ0 = σ := ⟨_, rfl⟩
  rw [← eσ] at hret
  have hS : ez_S X B s.heap σ0.length σ s.heap [] := eσ ▸ hS
  obtain ⟨-, h⟩ := ez_in h
  have K_37 : ∀ (σ : ez_H) (x3 : Int32) (H : Heap) (locs : List Loc) (ls : Array Slot), ez_S X B s.heap (σ0.length) σ H locs → z_X4_knownName_37 σ x3 = some z → lv_has ls 4 [(3, .int x3)] → W p l e R s m args below meth c H locs 0 0 Q (F0 m 37 ls []) := by
    intro σ x3 H locs ls hS h hl
    refine lv_iload_n hx hb dX4_knownName_37 rfl (lv_at hl 0 rfl) ?_
    exact hret _ _ _ _ _ _ (Option.some.inj h) rfl hS dX4_knownName_38
  refine lv_aload_n hx hb dX4_knownName_0 rfl (lv_at hl 0 rfl) ?_
  refine eg_RX4_30 hC hS h dX4_knownName_1 (fun t_1 h => ?_)
  refine eg_RX4_49 hC hS h dX4_knownName_4 (fun t_4 h => ?_)
  refine lv_bipush (v := 23) hx hb dX4_knownName_7 (by decide) ?_
  refine lv_icmp_eq (tgt := 19) hx hb dX4_knownName_9 (by decide) (fun c_9 => ?_) (fun c_9 => ?_)
  · replace h := ez_ifp h c_9
    refine lv_aload_n hx hb dX4_knownName_19 rfl (lv_at hl 0 rfl) ?_
    refine lv_iload_n hx hb dX4_knownName_20 rfl (lv_at hl 1 rfl) ?_
    refine lv_iload_n hx hb dX4_knownName_21 rfl (lv_at hl 2 rfl) ?_
    refine ez_cVpi (As := [.int x1, .int x2]) (rest := []) h (fun _ q => c_X4_named q) hC k_X4_named ql_RX4_137 rfl (by decide) hS (fun _ q => ez_rcv q) rfl hl.1 rfl (Nat.le_of_ble_eq_true rfl) ⟨Nat.zero_le _, Nat.zero_le _⟩ dX4_knownName_22 (fun t_22 H locs hS h => ?_)
    refine lv_istore_n (lv' := [(3, .int t_22), (0, .ref (B + h0)), (1, .int x1), (2, .int x2)]) hx hb dX4_knownName_25 rfl hl (by decide) rfl (fun ls hl => ?_)
    refine lv_iload_n hx hb dX4_knownName_26 rfl (lv_at hl 0 rfl) ?_
    refine lv_iconst (v := -1) hx hb dX4_knownName_27 (by decide) ?_
    refine lv_icmp_ne (tgt := 37) hx hb dX4_knownName_28 (by decide) (fun c_28 => ?_) (fun c_28 => ?_)
    · replace h := ez_ifn h c_28
      exact K_37  σ t_22 _ _ _ hS h (lv_sub hl [0] rfl)
    · replace h := ez_ifp h c_28
      refine lv_aload_n hx hb dX4_knownName_31 rfl (lv_at hl 1 rfl) ?_
      refine lv_iconst (v := 5) hx hb dX4_knownName_32 (by decide) ?_
      refine ez_cVi (As := [.int 5]) (rest := []) h (fun _ q => c_X4_blame q) hC k_X4_blame ql_RX4_59 rfl (by decide) hS (fun _ q => ez_rcv q) rfl hl.1 rfl (Nat.le_of_ble_eq_true rfl) ⟨Nat.zero_le _, Nat.zero_le _⟩ dX4_knownName_33 (fun t_33 σ H locs hS h => ?_)
      refine lv_pop hx hb dX4_knownName_36 rfl ?_
      exact K_37  σ t_22 _ _ _ hS h (lv_sub hl [0] rfl)
  · replace h := ez_ifn h c_9
    refine lv_aload_n hx hb dX4_knownName_12 rfl (lv_at hl 0 rfl) ?_
    refine ez_cVi (As := []) (rest := []) h (fun _ q => c_X4_refuse q) hC k_X4_refuse ql_RX4_63 rfl (by decide) hS (fun _ q => ez_rcv q) rfl hl.1 rfl (Nat.le_of_ble_eq_true rfl) ⟨Nat.zero_le _, Nat.zero_le _⟩ dX4_knownName_13 (fun t_13 σ H locs hS h => ?_)
    refine lv_pop hx hb dX4_knownName_16 rfl ?_
    refine lv_iconst (v := -1) hx hb dX4_knownName_17 (by decide) ?_
    exact hret _ _ _ _ _ _ (Option.some.inj h) rfl hS dX4_knownName_18
set_option maxRecDepth 100000 in
noncomputable def z_X3_addMust_22 (σ : ez_H) : Option (Unit × ez_H) :=
  some ((), σ)
set_option maxRecDepth 100000 in
noncomputable def z_X3_addMust (σ : ez_H) (h0 : Nat) (x1 : Int32) (x2 : Int32) : Option (Unit × ez_H) :=
  ez_bd (ez_ob σ 3 h0) fun _ =>
  if x2 < (0 : Int32) then (
  z_X3_addMust_22  σ
  ) else (
  if (6 : Int32) ≤ x2 then (
  z_X3_addMust_22  σ
  ) else (
  ez_bd (ez_gr σ 3 h0 11) fun t_11 =>
  ez_bd (ez_ia σ 1 t_11 x2) fun t_16 =>
  ez_let ((1 : Int32) <<< (x1 &&& 31)) fun t_19 =>
  ez_let (t_16 ||| t_19) fun t_20 =>
  ez_bd (ez_is σ 1 t_11 x2 t_20) fun σ =>
  z_X3_addMust_22  σ
  )
  )
set_option maxHeartbeats 4000000 in
set_option maxRecDepth 100000 in
theorem c_X3_addMust {l : Launch} {X : ez_X} {B : Nat} {σ : ez_H} {h0 : Nat} {x1 : Int32} {x2 : Int32} {z : Unit × ez_H} (h : z_X3_addMust σ h0 x1 x2 = some z) : ez_M l X B σ yX3_addMust cX3_addMust 3 (none) 0 [.ref (B + h0), .int x1, .int x2] (none) z.2 := by
  refine ez_startv (z := z) (by decide) (Nat.le_of_ble_eq_true rfl) (fun p e R s m args below meth c Q hC hret hS ls hl => ?_)
  have hC : ez_C p R s m args c X B RX3 cX3_addMust 3 0 := hC
  have hx := hC.1.1
  have hb := hC.1.2.1
  have hown := hC.1.2.2.2.1
  have hts := hC.1.2.2.2.2
  have hl : lv_has ls 3 [(0, .ref (B + h0)), (1, .int x1), (2, .int x2)] := hl
  obtain ⟨σ0, eσ⟩ : ∃ σ0 : ez_H, σ0 = σ := ⟨_, rfl⟩
  rw [← eσ] at hret
  have hS : ez_S X B s.heap σ0.length σ s.heap [] := eσ ▸ hS
  obtain ⟨-, h⟩ := ez_in h
  have K_22 : ∀ (σ : ez_H) (H : Heap) (locs : List Loc) (ls : Array Slot), ez_S X B s.heap (σ0.length) σ H locs → z_X3_addMust_22 σ = some z → lv_has ls 3 [] → W p l e R s m args below meth c H locs 0 0 Q (F0 m 22 ls []) := by
    intro σ H locs ls hS h hl
    exact hret _ _ _ _ _ _ (Option.some.inj h) hS dX3_addMust_22
  refine lv_iload_n hx hb dX3_addMust_0 rfl (lv_at hl 2 rfl) ?_
  refine lv_if_lt (tgt := 22) hx hb dX3_addMust_1 (by decide) (fun c_1 => ?_) (fun c_1 => ?_)
  · replace h := ez_ifp h c_1
    exact K_22  σ _ _ _ hS h (lv_sub hl [] rfl)
  · replace h := ez_ifn h c_1
    refine lv_iload_n hx hb dX3_addMust_4 rfl (lv_at hl 2 rfl) ?_
    refine lv_bipush (v := 6) hx hb dX3_addMust_5 (by decide) ?_
    refine lv_icmp_ge (tgt := 22) hx hb dX3_addMust_7 (by decide) (fun c_7 => ?_) (fun c_7 => ?_)
    · replace h := ez_ifp h c_7
      exact K_22  σ _ _ _ hS h (lv_sub hl [] rfl)
    · replace h := ez_ifn h c_7
      refine lv_aload_n hx hb dX3_addMust_10 rfl (lv_at hl 0 rfl) ?_
      refine eg_RX3_42 hC hS h dX3_addMust_11 (fun t_11 h => ?_)
      refine lv_iload_n hx hb dX3_addMust_14 rfl (lv_at hl 2 rfl) ?_
      refine lv_dup2_11 hx hb dX3_addMust_15 rfl rfl ?_
      refine ez_ial hC hS h dX3_addMust_16 (fun t_16 h => ?_)
      refine lv_iconst (v := 1) hx hb dX3_addMust_17 (by decide) ?_
      refine lv_iload_n hx hb dX3_addMust_18 rfl (lv_at hl 1 rfl) ?_
      refine lv_ishl hx hb dX3_addMust_19 ?_
      refine ez_top h (fun t_19 h => ?_)
      refine lv_ior hx hb dX3_addMust_20 ?_
      refine ez_top h (fun t_20 h => ?_)
      refine ez_ias hC hS h dX3_addMust_21 (fun σ H locs hS h => ?_)
      exact K_22  σ _ _ _ hS h (lv_sub hl [] rfl)
set_option maxRecDepth 100000 in
noncomputable def z_X3_addNever_22 (σ : ez_H) : Option (Unit × ez_H) :=
  some ((), σ)
set_option maxRecDepth 100000 in
noncomputable def z_X3_addNever (σ : ez_H) (h0 : Nat) (x1 : Int32) (x2 : Int32) : Option (Unit × ez_H) :=
  ez_bd (ez_ob σ 3 h0) fun _ =>
  if x2 < (0 : Int32) then (
  z_X3_addNever_22  σ
  ) else (
  if (6 : Int32) ≤ x2 then (
  z_X3_addNever_22  σ
  ) else (
  ez_bd (ez_gr σ 3 h0 12) fun t_11 =>
  ez_bd (ez_ia σ 1 t_11 x2) fun t_16 =>
  ez_let ((1 : Int32) <<< (x1 &&& 31)) fun t_19 =>
  ez_let (t_16 ||| t_19) fun t_20 =>
  ez_bd (ez_is σ 1 t_11 x2 t_20) fun σ =>
  z_X3_addNever_22  σ
  )
  )
set_option maxHeartbeats 4000000 in
set_option maxRecDepth 100000 in
theorem c_X3_addNever {l : Launch} {X : ez_X} {B : Nat} {σ : ez_H} {h0 : Nat} {x1 : Int32} {x2 : Int32} {z : Unit × ez_H} (h : z_X3_addNever σ h0 x1 x2 = some z) : ez_M l X B σ yX3_addNever cX3_addNever 3 (none) 0 [.ref (B + h0), .int x1, .int x2] (none) z.2 := by
  refine ez_startv (z := z) (by decide) (Nat.le_of_ble_eq_true rfl) (fun p e R s m args below meth c Q hC hret hS ls hl => ?_)
  have hC : ez_C p R s m args c X B RX3 cX3_addNever 3 0 := hC
  have hx := hC.1.1
  have hb := hC.1.2.1
  have hown := hC.1.2.2.2.1
  have hts := hC.1.2.2.2.2
  have hl : lv_has ls 3 [(0, .ref (B + h0)), (1, .int x1), (2, .int x2)] := hl
  obtain ⟨σ0, eσ⟩ : ∃ σ0 : ez_H, σ0 = σ := ⟨_, rfl⟩
  rw [← eσ] at hret
  have hS : ez_S X B s.heap σ0.length σ s.heap [] := eσ ▸ hS
  obtain ⟨-, h⟩ := ez_in h
  have K_22 : ∀ (σ : ez_H) (H : Heap) (locs : List Loc) (ls : Array Slot), ez_S X B s.heap (σ0.length) σ H locs → z_X3_addNever_22 σ = some z → lv_has ls 3 [] → W p l e R s m args below meth c H locs 0 0 Q (F0 m 22 ls []) := by
    intro σ H locs ls hS h hl
    exact hret _ _ _ _ _ _ (Option.some.inj h) hS dX3_addNever_22
  refine lv_iload_n hx hb dX3_addNever_0 rfl (lv_at hl 2 rfl) ?_
  refine lv_if_lt (tgt := 22) hx hb dX3_addNever_1 (by decide) (fun c_1 => ?_) (fun c_1 => ?_)
  · replace h := ez_ifp h c_1
    exact K_22  σ _ _ _ hS h (lv_sub hl [] rfl)
  · replace h := ez_ifn h c_1
    refine lv_iload_n hx hb dX3_addNever_4 rfl (lv_at hl 2 rfl) ?_
    refine lv_bipush (v := 6) hx hb dX3_addNever_5 (by decide) ?_
    refine lv_icmp_ge (tgt := 22) hx hb dX3_addNever_7 (by decide) (fun c_7 => ?_) (fun c_7 => ?_)
    · replace h := ez_ifp h c_7
      exact K_22  σ _ _ _ hS h (lv_sub hl [] rfl)
    · replace h := ez_ifn h c_7
      refine lv_aload_n hx hb dX3_addNever_10 rfl (lv_at hl 0 rfl) ?_
      refine eg_RX3_45 hC hS h dX3_addNever_11 (fun t_11 h => ?_)
      refine lv_iload_n hx hb dX3_addNever_14 rfl (lv_at hl 2 rfl) ?_
      refine lv_dup2_11 hx hb dX3_addNever_15 rfl rfl ?_
      refine ez_ial hC hS h dX3_addNever_16 (fun t_16 h => ?_)
      refine lv_iconst (v := 1) hx hb dX3_addNever_17 (by decide) ?_
      refine lv_iload_n hx hb dX3_addNever_18 rfl (lv_at hl 1 rfl) ?_
      refine lv_ishl hx hb dX3_addNever_19 ?_
      refine ez_top h (fun t_19 h => ?_)
      refine lv_ior hx hb dX3_addNever_20 ?_
      refine ez_top h (fun t_20 h => ?_)
      refine ez_ias hC hS h dX3_addNever_21 (fun σ H locs hS h => ?_)
      exact K_22  σ _ _ _ hS h (lv_sub hl [] rfl)
set_option maxRecDepth 100000 in
noncomputable def z_X4_readRule_127 (σ : ez_H) (h0 : Nat) : Option (Int32 × ez_H) :=
  ez_bd (ez_gr σ 4 h0 3) fun t_128 =>
  ez_b2 (z_X9_advance σ t_128) fun _ σ =>
  ez_b2 (z_X4_expect σ h0 (59 : Int32)) fun t_137 σ =>
  ez_nr .boolean t_137 <|
  some (t_137, σ)
set_option maxRecDepth 100000 in
noncomputable def z_X4_readRule_17 (σ : ez_H) (h0 : Nat) (y0 : Int32) : Option (Int32 × ez_H) :=
  ez_bd (ez_gr σ 4 h0 3) fun t_19 =>
  ez_b2 (z_X9_advance σ t_19) fun _ σ =>
  ez_bd (ez_gr σ 4 h0 0) fun t_28 =>
  ez_bd (ez_gi σ 3 t_28 3) fun t_31 =>
  ez_b2 (z_X4_knownName σ h0 (0 : Int32) t_31) fun t_34 σ =>
  if t_34 = (-1 : Int32) then (
  some ((0 : Int32), σ)
  ) else (
  ez_bd (ez_gr σ 4 h0 3) fun t_46 =>
  ez_b2 (z_X9_advance σ t_46) fun _ σ =>
  ez_bd (ez_gr σ 4 h0 0) fun t_55 =>
  ez_bd (ez_gi σ 3 t_55 4) fun t_58 =>
  ez_b2 (z_X4_knownName σ h0 (1 : Int32) t_58) fun t_61 σ =>
  if t_61 = (-1 : Int32) then (
  some ((0 : Int32), σ)
  ) else (
  ez_bd (ez_gr σ 4 h0 0) fun t_73 =>
  ez_bd (z_X3_mustOf σ t_73 t_61) fun t_77 =>
  ez_bd (ez_gr σ 4 h0 0) fun t_81 =>
  ez_bd (z_X3_neverOf σ t_81 t_61) fun t_85 =>
  ez_let (t_77 ||| t_85) fun t_88 =>
  ez_let (t_88 >>> (t_34 &&& 31)) fun t_90 =>
  ez_let (t_90 &&& (1 : Int32)) fun t_92 =>
  if t_92 = (0 : Int32) then (
  if y0 = (0 : Int32) then (
  ez_bd (ez_gr σ 4 h0 0) fun t_119 =>
  ez_b2 (z_X3_addNever σ t_119 t_34 t_61) fun _ σ =>
  z_X4_readRule_127  σ h0
  ) else (
  ez_bd (ez_gr σ 4 h0 0) fun t_107 =>
  ez_b2 (z_X3_addMust σ t_107 t_34 t_61) fun _ σ =>
  z_X4_readRule_127  σ h0
  )
  ) else (
  ez_b2 (z_X4_blame σ h0 (3 : Int32)) fun t_98 σ =>
  ez_nr .boolean t_98 <|
  some (t_98, σ)
  )
  )
  )
set_option maxRecDepth 100000 in
noncomputable def z_X4_readRule (σ : ez_H) (h0 : Nat) : Option (Int32 × ez_H) :=
  ez_bd (ez_ob σ 4 h0) fun _ =>
  ez_bd (ez_gr σ 4 h0 3) fun t_1 =>
  ez_bd (ez_gi σ 9 t_1 4) fun t_4 =>
  if t_4 = (8 : Int32) then (
  z_X4_readRule_17  σ h0 (1 : Int32)
  ) else (
  z_X4_readRule_17  σ h0 (0 : Int32)
  )
set_option maxHeartbeats 4000000 in
set_option maxRecDepth 100000 in
theorem c_X4_readRule {l : Launch} {X : ez_X} {B : Nat} {σ : ez_H} {h0 : Nat} {z : Int32 × ez_H} (h : z_X4_readRule σ h0 = some z) : ez_M l X B σ yX4_readRule cX4_readRule 4 (some .boolean) 6 [.ref (B + h0)] (some (.int z.1)) z.2 := by
  refine ez_starti (z := z) (by decide) (Nat.le_of_ble_eq_true rfl) (fun p e R s m args below meth c Q hC hret hS ls hl => ?_)
  have hC : ez_C p R s m args c X B RX4 cX4_readRule 4 6 := hC
  have hx := hC.1.1
  have hb := hC.1.2.1
  have hown := hC.1.2.2.2.1
  have hts := hC.1.2.2.2.2
  have hl : lv_has ls 4 [(0, .ref (B + h0))] := hl
  obtain ⟨σ0, eσ⟩ : ∃ σ0 : ez_H, σ0 = σ := ⟨_, rfl⟩
  rw [← eσ] at hret
  have hS : ez_S X B s.heap σ0.length σ s.heap [] := eσ ▸ hS
  obtain ⟨-, h⟩ := ez_in h
  have K_127 : ∀ (σ : ez_H) (h0 : Nat) (H : Heap) (locs : List Loc) (ls : Array Slot), ez_S X B s.heap (σ0.length) σ H locs → z_X4_readRule_127 σ h0 = some z → lv_has ls 4 [(0, .ref (B + h0))] → W p l e R s m args below meth c H locs 0 0 Q (F0 m 127 ls []) := by
    intro σ h0 H locs ls hS h hl
    refine lv_aload_n hx hb dX4_readRule_127 rfl (lv_at hl 0 rfl) ?_
    refine eg_RX4_30 hC hS h dX4_readRule_128 (fun t_128 h => ?_)
    refine ez_cVv (As := []) (rest := []) h (fun _ q => c_X9_advance q) hC k_X9_advance ql_RX4_66 rfl (by decide) hS (fun _ q => ez_rcv q) rfl hl.1 rfl (Nat.le_of_ble_eq_true rfl) ⟨Nat.zero_le _, Nat.zero_le _⟩ dX4_readRule_131 (fun _ σ H locs hS h => ?_)
    refine lv_aload_n hx hb dX4_readRule_134 rfl (lv_at hl 0 rfl) ?_
    refine lv_bipush (v := 59) hx hb dX4_readRule_135 (by decide) ?_
    refine ez_cVi (As := [.int 59]) (rest := []) h (fun _ q => c_X4_expect q) hC k_X4_expect ql_RX4_97 rfl (by decide) hS (fun _ q => ez_rcv q) rfl hl.1 rfl (Nat.le_of_ble_eq_true rfl) ⟨Nat.zero_le _, Nat.zero_le _⟩ dX4_readRule_137 (fun t_137 σ H locs hS h => ?_)
    obtain ⟨hn, h⟩ := ez_nr_sp rfl h
    exact hret _ _ _ _ _ _ (Option.some.inj h) hn hS dX4_readRule_140
  have K_17 : ∀ (σ : ez_H) (h0 : Nat) (y0 : Int32) (H : Heap) (locs : List Loc) (ls : Array Slot), ez_S X B s.heap (σ0.length) σ H locs → z_X4_readRule_17 σ h0 y0 = some z → lv_has ls 4 [(0, .ref (B + h0))] → W p l e R s m args below meth c H locs 0 0 Q (F0 m 17 ls [.int y0]) := by
    intro σ h0 y0 H locs ls hS h hl
    refine lv_istore_n (lv' := [(1, .int y0), (0, .ref (B + h0))]) hx hb dX4_readRule_17 rfl hl (by decide) rfl (fun ls hl => ?_)
    refine lv_aload_n hx hb dX4_readRule_18 rfl (lv_at hl 1 rfl) ?_
    refine eg_RX4_30 hC hS h dX4_readRule_19 (fun t_19 h => ?_)
    refine ez_cVv (As := []) (rest := []) h (fun _ q => c_X9_advance q) hC k_X9_advance ql_RX4_66 rfl (by decide) hS (fun _ q => ez_rcv q) rfl hl.1 rfl (Nat.le_of_ble_eq_true rfl) ⟨Nat.zero_le _, Nat.zero_le _⟩ dX4_readRule_22 (fun _ σ H locs hS h => ?_)
    refine lv_aload_n hx hb dX4_readRule_25 rfl (lv_at hl 1 rfl) ?_
    refine lv_iconst (v := 0) hx hb dX4_readRule_26 (by decide) ?_
    refine lv_aload_n hx hb dX4_readRule_27 rfl (lv_at hl 1 rfl) ?_
    refine eg_RX4_12 hC hS h dX4_readRule_28 (fun t_28 h => ?_)
    refine eg_RX4_100 hC hS h dX4_readRule_31 (fun t_31 h => ?_)
    refine ez_cVi (As := [.int 0, .int t_31]) (rest := []) h (fun _ q => c_X4_knownName q) hC k_X4_knownName ql_RX4_180 rfl (by decide) hS (fun _ q => ez_rcv q) rfl hl.1 rfl (Nat.le_of_ble_eq_true rfl) ⟨Nat.zero_le _, Nat.zero_le _⟩ dX4_readRule_34 (fun t_34 σ H locs hS h => ?_)
    refine lv_istore_n (lv' := [(2, .int t_34), (1, .int y0), (0, .ref (B + h0))]) hx hb dX4_readRule_37 rfl hl (by decide) rfl (fun ls hl => ?_)
    refine lv_iload_n hx hb dX4_readRule_38 rfl (lv_at hl 0 rfl) ?_
    refine lv_iconst (v := -1) hx hb dX4_readRule_39 (by decide) ?_
    refine lv_icmp_ne (tgt := 45) hx hb dX4_readRule_40 (by decide) (fun c_40 => ?_) (fun c_40 => ?_)
    · replace h := ez_ifn h c_40
      refine lv_aload_n hx hb dX4_readRule_45 rfl (lv_at hl 2 rfl) ?_
      refine eg_RX4_30 hC hS h dX4_readRule_46 (fun t_46 h => ?_)
      refine ez_cVv (As := []) (rest := []) h (fun _ q => c_X9_advance q) hC k_X9_advance ql_RX4_66 rfl (by decide) hS (fun _ q => ez_rcv q) rfl hl.1 rfl (Nat.le_of_ble_eq_true rfl) ⟨Nat.zero_le _, Nat.zero_le _⟩ dX4_readRule_49 (fun _ σ H locs hS h => ?_)
      refine lv_aload_n hx hb dX4_readRule_52 rfl (lv_at hl 2 rfl) ?_
      refine lv_iconst (v := 1) hx hb dX4_readRule_53 (by decide) ?_
      refine lv_aload_n hx hb dX4_readRule_54 rfl (lv_at hl 2 rfl) ?_
      refine eg_RX4_12 hC hS h dX4_readRule_55 (fun t_55 h => ?_)
      refine eg_RX4_103 hC hS h dX4_readRule_58 (fun t_58 h => ?_)
      refine ez_cVi (As := [.int 1, .int t_58]) (rest := []) h (fun _ q => c_X4_knownName q) hC k_X4_knownName ql_RX4_180 rfl (by decide) hS (fun _ q => ez_rcv q) rfl hl.1 rfl (Nat.le_of_ble_eq_true rfl) ⟨Nat.zero_le _, Nat.zero_le _⟩ dX4_readRule_61 (fun t_61 σ H locs hS h => ?_)
      refine lv_istore_n (lv' := [(3, .int t_61), (2, .int t_34), (1, .int y0), (0, .ref (B + h0))]) hx hb dX4_readRule_64 rfl hl (by decide) rfl (fun ls hl => ?_)
      refine lv_iload_n hx hb dX4_readRule_65 rfl (lv_at hl 0 rfl) ?_
      refine lv_iconst (v := -1) hx hb dX4_readRule_66 (by decide) ?_
      refine lv_icmp_ne (tgt := 72) hx hb dX4_readRule_67 (by decide) (fun c_67 => ?_) (fun c_67 => ?_)
      · replace h := ez_ifn h c_67
        refine lv_aload_n hx hb dX4_readRule_72 rfl (lv_at hl 3 rfl) ?_
        refine eg_RX4_12 hC hS h dX4_readRule_73 (fun t_73 h => ?_)
        refine lv_iload_n hx hb dX4_readRule_76 rfl (lv_at hl 0 rfl) ?_
        refine ez_cVpi (As := [.int t_61]) (rest := []) h (fun _ q => c_X3_mustOf q) hC k_X3_mustOf ql_RX4_199 rfl (by decide) hS (fun _ q => ez_rcv q) rfl hl.1 rfl (Nat.le_of_ble_eq_true rfl) ⟨Nat.zero_le _, Nat.zero_le _⟩ dX4_readRule_77 (fun t_77 H locs hS h => ?_)
        refine lv_aload_n hx hb dX4_readRule_80 rfl (lv_at hl 3 rfl) ?_
        refine eg_RX4_12 hC hS h dX4_readRule_81 (fun t_81 h => ?_)
        refine lv_iload_n hx hb dX4_readRule_84 rfl (lv_at hl 0 rfl) ?_
        refine ez_cVpi (As := [.int t_61]) (rest := [.int t_77]) h (fun _ q => c_X3_neverOf q) hC k_X3_neverOf ql_RX4_202 rfl (by decide) hS (fun _ q => ez_rcv q) rfl hl.1 rfl (Nat.le_of_ble_eq_true rfl) ⟨Nat.zero_le _, Nat.zero_le _⟩ dX4_readRule_85 (fun t_85 H locs hS h => ?_)
        refine lv_ior hx hb dX4_readRule_88 ?_
        refine ez_top h (fun t_88 h => ?_)
        refine lv_iload_n hx hb dX4_readRule_89 rfl (lv_at hl 1 rfl) ?_
        refine lv_ishr hx hb dX4_readRule_90 ?_
        refine ez_top h (fun t_90 h => ?_)
        refine lv_iconst (v := 1) hx hb dX4_readRule_91 (by decide) ?_
        refine lv_iand hx hb dX4_readRule_92 ?_
        refine ez_top h (fun t_92 h => ?_)
        refine lv_if_eq (tgt := 102) hx hb dX4_readRule_93 (by decide) (fun c_93 => ?_) (fun c_93 => ?_)
        · replace h := ez_ifp h c_93
          refine lv_iload_n hx hb dX4_readRule_102 rfl (lv_at hl 2 rfl) ?_
          refine lv_if_eq (tgt := 118) hx hb dX4_readRule_103 (by decide) (fun c_103 => ?_) (fun c_103 => ?_)
          · replace h := ez_ifp h c_103
            refine lv_aload_n hx hb dX4_readRule_118 rfl (lv_at hl 3 rfl) ?_
            refine eg_RX4_12 hC hS h dX4_readRule_119 (fun t_119 h => ?_)
            refine lv_iload_n hx hb dX4_readRule_122 rfl (lv_at hl 1 rfl) ?_
            refine lv_iload_n hx hb dX4_readRule_123 rfl (lv_at hl 0 rfl) ?_
            refine ez_cVv (As := [.int t_34, .int t_61]) (rest := []) h (fun _ q => c_X3_addNever q) hC k_X3_addNever ql_RX4_208 rfl (by decide) hS (fun _ q => ez_rcv q) rfl hl.1 rfl (Nat.le_of_ble_eq_true rfl) ⟨Nat.zero_le _, Nat.zero_le _⟩ dX4_readRule_124 (fun _ σ H locs hS h => ?_)
            exact K_127  σ h0 _ _ _ hS h (lv_sub hl [3] rfl)
          · replace h := ez_ifn h c_103
            refine lv_aload_n hx hb dX4_readRule_106 rfl (lv_at hl 3 rfl) ?_
            refine eg_RX4_12 hC hS h dX4_readRule_107 (fun t_107 h => ?_)
            refine lv_iload_n hx hb dX4_readRule_110 rfl (lv_at hl 1 rfl) ?_
            refine lv_iload_n hx hb dX4_readRule_111 rfl (lv_at hl 0 rfl) ?_
            refine ez_cVv (As := [.int t_34, .int t_61]) (rest := []) h (fun _ q => c_X3_addMust q) hC k_X3_addMust ql_RX4_205 rfl (by decide) hS (fun _ q => ez_rcv q) rfl hl.1 rfl (Nat.le_of_ble_eq_true rfl) ⟨Nat.zero_le _, Nat.zero_le _⟩ dX4_readRule_112 (fun _ σ H locs hS h => ?_)
            refine lv_goto (tgt := 127) hx hb dX4_readRule_115 (by decide) ?_
            exact K_127  σ h0 _ _ _ hS h (lv_sub hl [3] rfl)
        · replace h := ez_ifn h c_93
          refine lv_aload_n hx hb dX4_readRule_96 rfl (lv_at hl 3 rfl) ?_
          refine lv_iconst (v := 3) hx hb dX4_readRule_97 (by decide) ?_
          refine ez_cVi (As := [.int 3]) (rest := []) h (fun _ q => c_X4_blame q) hC k_X4_blame ql_RX4_59 rfl (by decide) hS (fun _ q => ez_rcv q) rfl hl.1 rfl (Nat.le_of_ble_eq_true rfl) ⟨Nat.zero_le _, Nat.zero_le _⟩ dX4_readRule_98 (fun t_98 σ H locs hS h => ?_)
          obtain ⟨hn, h⟩ := ez_nr_sp rfl h
          exact hret _ _ _ _ _ _ (Option.some.inj h) hn hS dX4_readRule_101
      · replace h := ez_ifp h c_67
        refine lv_iconst (v := 0) hx hb dX4_readRule_70 (by decide) ?_
        have hn : narrow .boolean (.int 0) = .int 0 := by decide
        exact hret _ _ _ _ _ _ (Option.some.inj h) hn hS dX4_readRule_71
    · replace h := ez_ifp h c_40
      refine lv_iconst (v := 0) hx hb dX4_readRule_43 (by decide) ?_
      have hn : narrow .boolean (.int 0) = .int 0 := by decide
      exact hret _ _ _ _ _ _ (Option.some.inj h) hn hS dX4_readRule_44
  refine lv_aload_n hx hb dX4_readRule_0 rfl (lv_at hl 0 rfl) ?_
  refine eg_RX4_30 hC hS h dX4_readRule_1 (fun t_1 h => ?_)
  refine eg_RX4_49 hC hS h dX4_readRule_4 (fun t_4 h => ?_)
  refine lv_bipush (v := 8) hx hb dX4_readRule_7 (by decide) ?_
  refine lv_icmp_ne (tgt := 16) hx hb dX4_readRule_9 (by decide) (fun c_9 => ?_) (fun c_9 => ?_)
  · replace h := ez_ifn h c_9
    refine lv_iconst (v := 0) hx hb dX4_readRule_16 (by decide) ?_
    exact K_17  σ h0 (0 : Int32) _ _ _ hS h (lv_sub hl [0] rfl)
  · replace h := ez_ifp h c_9
    refine lv_iconst (v := 1) hx hb dX4_readRule_12 (by decide) ?_
    refine lv_goto (tgt := 17) hx hb dX4_readRule_13 (by decide) ?_
    exact K_17  σ h0 (1 : Int32) _ _ _ hS h (lv_sub hl [0] rfl)
set_option maxRecDepth 100000 in
noncomputable def z_X4_readNewName_84 (σ : ez_H) (h0 : Nat) : Option (Int32 × ez_H) :=
  ez_bd (ez_gr σ 4 h0 3) fun t_85 =>
  ez_b2 (z_X9_advance σ t_85) fun _ σ =>
  some ((1 : Int32), σ)
set_option maxRecDepth 100000 in
noncomputable def z_X4_readNewName (σ : ez_H) (h0 : Nat) (x1 : Int32) (x2 : Int32) (x3 : Int32) : Option (Int32 × ez_H) :=
  ez_bd (ez_ob σ 4 h0) fun _ =>
  if x2 < x3 then (
  ez_bd (ez_gr σ 4 h0 3) fun t_11 =>
  ez_b2 (z_X9_advance σ t_11) fun _ σ =>
  ez_bd (ez_gr σ 4 h0 3) fun t_18 =>
  ez_bd (ez_gi σ 9 t_18 4) fun t_21 =>
  if t_21 = (23 : Int32) then (
  ez_bd (z_X4_named σ h0 x1 x2) fun t_37 =>
  if t_37 = (-1 : Int32) then (
  if x1 < (0 : Int32) then (
  z_X4_readNewName_84  σ h0
  ) else (
  if (5 : Int32) ≤ x1 then (
  z_X4_readNewName_84  σ h0
  ) else (
  if x2 < (0 : Int32) then (
  z_X4_readNewName_84  σ h0
  ) else (
  if (8 : Int32) ≤ x2 then (
  z_X4_readNewName_84  σ h0
  ) else (
  ez_bd (ez_gr σ 4 h0 4) fun t_70 =>
  ez_bd (ez_ra σ 5 t_70 x1) fun t_74 =>
  ez_bd (ez_gr σ 4 h0 3) fun t_77 =>
  ez_bd (ez_gl σ 9 t_77 7) fun t_80 =>
  ez_bd (ez_lst σ t_74 x2 t_80) fun σ =>
  z_X4_readNewName_84  σ h0
  )
  )
  )
  )
  ) else (
  ez_b2 (z_X4_blame σ h0 (3 : Int32)) fun t_46 σ =>
  ez_nr .boolean t_46 <|
  some (t_46, σ)
  )
  ) else (
  ez_b2 (z_X4_refuse σ h0) fun t_30 σ =>
  ez_nr .boolean t_30 <|
  some (t_30, σ)
  )
  ) else (
  ez_b2 (z_X4_refuse σ h0) fun t_6 σ =>
  ez_nr .boolean t_6 <|
  some (t_6, σ)
  )
set_option maxHeartbeats 4000000 in
set_option maxRecDepth 100000 in
theorem c_X4_readNewName {l : Launch} {X : ez_X} {B : Nat} {σ : ez_H} {h0 : Nat} {x1 : Int32} {x2 : Int32} {x3 : Int32} {z : Int32 × ez_H} (h : z_X4_readNewName σ h0 x1 x2 x3 = some z) : ez_M l X B σ yX4_readNewName cX4_readNewName 4 (some .boolean) 5 [.ref (B + h0), .int x1, .int x2, .int x3] (some (.int z.1)) z.2 := by
  refine ez_starti (z := z) (by decide) (Nat.le_of_ble_eq_true rfl) (fun p e R s m args below meth c Q hC hret hS ls hl => ?_)
  have hC : ez_C p R s m args c X B RX4 cX4_readNewName 4 5 := hC
  have hx := hC.1.1
  have hb := hC.1.2.1
  have hown := hC.1.2.2.2.1
  have hts := hC.1.2.2.2.2
  have hl : lv_has ls 4 [(0, .ref (B + h0)), (1, .int x1), (2, .int x2), (3, .int x3)] := hl
  obtain ⟨σ0, eσ⟩ : ∃ σ0 : ez_H, σ0 = σ := ⟨_, rfl⟩
  rw [← eσ] at hret
  have hS : ez_S X B s.heap σ0.length σ s.heap [] := eσ ▸ hS
  obtain ⟨-, h⟩ := ez_in h
  have K_84 : ∀ (σ : ez_H) (h0 : Nat) (H : Heap) (locs : List Loc) (ls : Array Slot), ez_S X B s.heap (σ0.length) σ H locs → z_X4_readNewName_84 σ h0 = some z → lv_has ls 4 [(0, .ref (B + h0))] → W p l e R s m args below meth c H locs 0 0 Q (F0 m 84 ls []) := by
    intro σ h0 H locs ls hS h hl
    refine lv_aload_n hx hb dX4_readNewName_84 rfl (lv_at hl 0 rfl) ?_
    refine eg_RX4_30 hC hS h dX4_readNewName_85 (fun t_85 h => ?_)
    refine ez_cVv (As := []) (rest := []) h (fun _ q => c_X9_advance q) hC k_X9_advance ql_RX4_66 rfl (by decide) hS (fun _ q => ez_rcv q) rfl hl.1 rfl (Nat.le_of_ble_eq_true rfl) ⟨Nat.zero_le _, Nat.zero_le _⟩ dX4_readNewName_88 (fun _ σ H locs hS h => ?_)
    refine lv_iconst (v := 1) hx hb dX4_readNewName_91 (by decide) ?_
    have hn : narrow .boolean (.int 1) = .int 1 := by decide
    exact hret _ _ _ _ _ _ (Option.some.inj h) hn hS dX4_readNewName_92
  refine lv_iload_n hx hb dX4_readNewName_0 rfl (lv_at hl 2 rfl) ?_
  refine lv_iload_n hx hb dX4_readNewName_1 rfl (lv_at hl 3 rfl) ?_
  refine lv_icmp_lt (tgt := 10) hx hb dX4_readNewName_2 (by decide) (fun c_2 => ?_) (fun c_2 => ?_)
  · replace h := ez_ifp h c_2
    refine lv_aload_n hx hb dX4_readNewName_10 rfl (lv_at hl 0 rfl) ?_
    refine eg_RX4_30 hC hS h dX4_readNewName_11 (fun t_11 h => ?_)
    refine ez_cVv (As := []) (rest := []) h (fun _ q => c_X9_advance q) hC k_X9_advance ql_RX4_66 rfl (by decide) hS (fun _ q => ez_rcv q) rfl hl.1 rfl (Nat.le_of_ble_eq_true rfl) ⟨Nat.zero_le _, Nat.zero_le _⟩ dX4_readNewName_14 (fun _ σ H locs hS h => ?_)
    refine lv_aload_n hx hb dX4_readNewName_17 rfl (lv_at hl 0 rfl) ?_
    refine eg_RX4_30 hC hS h dX4_readNewName_18 (fun t_18 h => ?_)
    refine eg_RX4_49 hC hS h dX4_readNewName_21 (fun t_21 h => ?_)
    refine lv_bipush (v := 23) hx hb dX4_readNewName_24 (by decide) ?_
    refine lv_icmp_eq (tgt := 34) hx hb dX4_readNewName_26 (by decide) (fun c_26 => ?_) (fun c_26 => ?_)
    · replace h := ez_ifp h c_26
      refine lv_aload_n hx hb dX4_readNewName_34 rfl (lv_at hl 0 rfl) ?_
      refine lv_iload_n hx hb dX4_readNewName_35 rfl (lv_at hl 1 rfl) ?_
      refine lv_iload_n hx hb dX4_readNewName_36 rfl (lv_at hl 2 rfl) ?_
      refine ez_cVpi (As := [.int x1, .int x2]) (rest := []) h (fun _ q => c_X4_named q) hC k_X4_named ql_RX4_137 rfl (by decide) hS (fun _ q => ez_rcv q) rfl hl.1 rfl (Nat.le_of_ble_eq_true rfl) ⟨Nat.zero_le _, Nat.zero_le _⟩ dX4_readNewName_37 (fun t_37 H locs hS h => ?_)
      refine lv_iconst (v := -1) hx hb dX4_readNewName_40 (by decide) ?_
      refine lv_icmp_eq (tgt := 50) hx hb dX4_readNewName_41 (by decide) (fun c_41 => ?_) (fun c_41 => ?_)
      · replace h := ez_ifp h c_41
        refine lv_iload_n hx hb dX4_readNewName_50 rfl (lv_at hl 1 rfl) ?_
        refine lv_if_lt (tgt := 84) hx hb dX4_readNewName_51 (by decide) (fun c_51 => ?_) (fun c_51 => ?_)
        · replace h := ez_ifp h c_51
          exact K_84  σ h0 _ _ _ hS h (lv_sub hl [0] rfl)
        · replace h := ez_ifn h c_51
          refine lv_iload_n hx hb dX4_readNewName_54 rfl (lv_at hl 1 rfl) ?_
          refine lv_iconst (v := 5) hx hb dX4_readNewName_55 (by decide) ?_
          refine lv_icmp_ge (tgt := 84) hx hb dX4_readNewName_56 (by decide) (fun c_56 => ?_) (fun c_56 => ?_)
          · replace h := ez_ifp h c_56
            exact K_84  σ h0 _ _ _ hS h (lv_sub hl [0] rfl)
          · replace h := ez_ifn h c_56
            refine lv_iload_n hx hb dX4_readNewName_59 rfl (lv_at hl 2 rfl) ?_
            refine lv_if_lt (tgt := 84) hx hb dX4_readNewName_60 (by decide) (fun c_60 => ?_) (fun c_60 => ?_)
            · replace h := ez_ifp h c_60
              exact K_84  σ h0 _ _ _ hS h (lv_sub hl [0] rfl)
            · replace h := ez_ifn h c_60
              refine lv_iload_n hx hb dX4_readNewName_63 rfl (lv_at hl 2 rfl) ?_
              refine lv_bipush (v := 8) hx hb dX4_readNewName_64 (by decide) ?_
              refine lv_icmp_ge (tgt := 84) hx hb dX4_readNewName_66 (by decide) (fun c_66 => ?_) (fun c_66 => ?_)
              · replace h := ez_ifp h c_66
                exact K_84  σ h0 _ _ _ hS h (lv_sub hl [0] rfl)
              · replace h := ez_ifn h c_66
                refine lv_aload_n hx hb dX4_readNewName_69 rfl (lv_at hl 0 rfl) ?_
                refine eg_RX4_36 hC hS h dX4_readNewName_70 (fun t_70 h => ?_)
                refine lv_iload_n hx hb dX4_readNewName_73 rfl (lv_at hl 1 rfl) ?_
                refine ez_aal hC hS h dX4_readNewName_74 (fun t_74 h => ?_)
                refine lv_iload_n hx hb dX4_readNewName_75 rfl (lv_at hl 2 rfl) ?_
                refine lv_aload_n hx hb dX4_readNewName_76 rfl (lv_at hl 0 rfl) ?_
                refine eg_RX4_30 hC hS h dX4_readNewName_77 (fun t_77 h => ?_)
                refine eg_RX4_133 hC hS h dX4_readNewName_80 (fun t_80 h => ?_)
                refine ez_las hC hS h dX4_readNewName_83 (fun σ H locs hS h => ?_)
                exact K_84  σ h0 _ _ _ hS h (lv_sub hl [0] rfl)
      · replace h := ez_ifn h c_41
        refine lv_aload_n hx hb dX4_readNewName_44 rfl (lv_at hl 0 rfl) ?_
        refine lv_iconst (v := 3) hx hb dX4_readNewName_45 (by decide) ?_
        refine ez_cVi (As := [.int 3]) (rest := []) h (fun _ q => c_X4_blame q) hC k_X4_blame ql_RX4_59 rfl (by decide) hS (fun _ q => ez_rcv q) rfl hl.1 rfl (Nat.le_of_ble_eq_true rfl) ⟨Nat.zero_le _, Nat.zero_le _⟩ dX4_readNewName_46 (fun t_46 σ H locs hS h => ?_)
        obtain ⟨hn, h⟩ := ez_nr_sp rfl h
        exact hret _ _ _ _ _ _ (Option.some.inj h) hn hS dX4_readNewName_49
    · replace h := ez_ifn h c_26
      refine lv_aload_n hx hb dX4_readNewName_29 rfl (lv_at hl 0 rfl) ?_
      refine ez_cVi (As := []) (rest := []) h (fun _ q => c_X4_refuse q) hC k_X4_refuse ql_RX4_63 rfl (by decide) hS (fun _ q => ez_rcv q) rfl hl.1 rfl (Nat.le_of_ble_eq_true rfl) ⟨Nat.zero_le _, Nat.zero_le _⟩ dX4_readNewName_30 (fun t_30 σ H locs hS h => ?_)
      obtain ⟨hn, h⟩ := ez_nr_sp rfl h
      exact hret _ _ _ _ _ _ (Option.some.inj h) hn hS dX4_readNewName_33
  · replace h := ez_ifn h c_2
    refine lv_aload_n hx hb dX4_readNewName_5 rfl (lv_at hl 0 rfl) ?_
    refine ez_cVi (As := []) (rest := []) h (fun _ q => c_X4_refuse q) hC k_X4_refuse ql_RX4_63 rfl (by decide) hS (fun _ q => ez_rcv q) rfl hl.1 rfl (Nat.le_of_ble_eq_true rfl) ⟨Nat.zero_le _, Nat.zero_le _⟩ dX4_readNewName_6 (fun t_6 σ H locs hS h => ?_)
    obtain ⟨hn, h⟩ := ez_nr_sp rfl h
    exact hret _ _ _ _ _ _ (Option.some.inj h) hn hS dX4_readNewName_9
set_option maxRecDepth 100000 in
noncomputable def z_X4_readHeld_9 (k_9 : ez_H → Nat → Int32 → Option (Int32 × ez_H)) (σ : ez_H) (h0 : Nat) (x1 : Int32) : Option (Int32 × ez_H) :=
  if (8 : Int32) < x1 then (
  ez_b2 (z_X4_refuse σ h0) fun t_102 σ =>
  ez_nr .boolean t_102 <|
  some (t_102, σ)
  ) else (
  ez_bd (ez_gr σ 4 h0 0) fun t_18 =>
  ez_bd (ez_gi σ 3 t_18 3) fun t_21 =>
  ez_b2 (z_X4_knownName σ h0 (0 : Int32) t_21) fun t_24 σ =>
  if t_24 = (-1 : Int32) then (
  some ((0 : Int32), σ)
  ) else (
  ez_bd (ez_gr σ 4 h0 0) fun t_36 =>
  ez_bd (ez_gr σ 3 t_36 2) fun t_39 =>
  ez_bd (z_X7_holder σ t_39 t_24) fun t_43 =>
  if t_43 = (-1 : Int32) then (
  ez_bd (ez_gr σ 4 h0 0) fun t_57 =>
  ez_bd (ez_gr σ 3 t_57 2) fun t_60 =>
  ez_bd (ez_gr σ 4 h0 0) fun t_65 =>
  ez_bd (ez_gi σ 3 t_65 7) fun t_68 =>
  ez_b2 (z_X7_putHolder σ t_60 t_24 t_68) fun _ σ =>
  ez_bd (ez_gr σ 4 h0 3) fun t_75 =>
  ez_b2 (z_X9_advance σ t_75) fun _ σ =>
  ez_bd (ez_gr σ 4 h0 3) fun t_82 =>
  ez_bd (ez_gi σ 9 t_82 4) fun t_85 =>
  if t_85 = (23 : Int32) then (
  ez_let (x1 + 1) fun t_95 =>
  k_9 σ h0 t_95
  ) else (
  some ((1 : Int32), σ)
  )
  ) else (
  ez_b2 (z_X4_blame σ h0 (3 : Int32)) fun t_52 σ =>
  ez_nr .boolean t_52 <|
  some (t_52, σ)
  )
  )
  )
set_option maxRecDepth 100000 in
noncomputable def z_X4_readHeld (σ : ez_H) (h0 : Nat) : Option (Int32 × ez_H) :=
  ez_bd (ez_ob σ 4 h0) fun _ =>
  ez_bd (ez_gr σ 4 h0 3) fun t_1 =>
  ez_b2 (z_X9_advance σ t_1) fun _ σ =>
  ez_fix (fun _ _ _ => none) (z_X4_readHeld_9 ) ez_N σ h0 (0 : Int32)
set_option maxHeartbeats 4000000 in
set_option maxRecDepth 100000 in
theorem c_X4_readHeld {l : Launch} {X : ez_X} {B : Nat} {σ : ez_H} {h0 : Nat} {z : Int32 × ez_H} (h : z_X4_readHeld σ h0 = some z) : ez_M l X B σ yX4_readHeld cX4_readHeld 3 (some .boolean) 5 [.ref (B + h0)] (some (.int z.1)) z.2 := by
  refine ez_starti (z := z) (by decide) (Nat.le_of_ble_eq_true rfl) (fun p e R s m args below meth c Q hC hret hS ls hl => ?_)
  have hC : ez_C p R s m args c X B RX4 cX4_readHeld 3 5 := hC
  have hx := hC.1.1
  have hb := hC.1.2.1
  have hown := hC.1.2.2.2.1
  have hts := hC.1.2.2.2.2
  have hl : lv_has ls 3 [(0, .ref (B + h0))] := hl
  obtain ⟨σ0, eσ⟩ : ∃ σ0 : ez_H, σ0 = σ := ⟨_, rfl⟩
  rw [← eσ] at hret
  have hS : ez_S X B s.heap σ0.length σ s.heap [] := eσ ▸ hS
  obtain ⟨-, h⟩ := ez_in h
  have K_9 : ∀ (k_9 : ez_H → Nat → Int32 → Option (Int32 × ez_H)) (hk_9 : ∀ (σ : ez_H) (h0 : Nat) (x1 : Int32) (H : Heap) (locs : List Loc) (ls : Array Slot), ez_S X B s.heap (σ0.length) σ H locs → k_9 σ h0 x1 = some z → lv_has ls 3 [(0, .ref (B + h0)), (1, .int x1)] → W p l e R s m args below meth c H locs 0 0 Q (F0 m 9 ls [])), ∀ (σ : ez_H) (h0 : Nat) (x1 : Int32) (H : Heap) (locs : List Loc) (ls : Array Slot), ez_S X B s.heap (σ0.length) σ H locs → z_X4_readHeld_9 k_9 σ h0 x1 = some z → lv_has ls 3 [(0, .ref (B + h0)), (1, .int x1)] → W p l e R s m args below meth c H locs 0 0 Q (F0 m 9 ls []) := by
    intro k_9 hk_9 σ h0 x1 H locs ls hS h hl
    refine lv_iload_n hx hb dX4_readHeld_9 rfl (lv_at hl 1 rfl) ?_
    refine lv_bipush (v := 8) hx hb dX4_readHeld_10 (by decide) ?_
    refine lv_icmp_gt (tgt := 101) hx hb dX4_readHeld_12 (by decide) (fun c_12 => ?_) (fun c_12 => ?_)
    · replace h := ez_ifp h c_12
      refine lv_aload_n hx hb dX4_readHeld_101 rfl (lv_at hl 0 rfl) ?_
      refine ez_cVi (As := []) (rest := []) h (fun _ q => c_X4_refuse q) hC k_X4_refuse ql_RX4_63 rfl (by decide) hS (fun _ q => ez_rcv q) rfl hl.1 rfl (Nat.le_of_ble_eq_true rfl) ⟨Nat.zero_le _, Nat.zero_le _⟩ dX4_readHeld_102 (fun t_102 σ H locs hS h => ?_)
      obtain ⟨hn, h⟩ := ez_nr_sp rfl h
      exact hret _ _ _ _ _ _ (Option.some.inj h) hn hS dX4_readHeld_105
    · replace h := ez_ifn h c_12
      refine lv_aload_n hx hb dX4_readHeld_15 rfl (lv_at hl 0 rfl) ?_
      refine lv_iconst (v := 0) hx hb dX4_readHeld_16 (by decide) ?_
      refine lv_aload_n hx hb dX4_readHeld_17 rfl (lv_at hl 0 rfl) ?_
      refine eg_RX4_12 hC hS h dX4_readHeld_18 (fun t_18 h => ?_)
      refine eg_RX4_100 hC hS h dX4_readHeld_21 (fun t_21 h => ?_)
      refine ez_cVi (As := [.int 0, .int t_21]) (rest := []) h (fun _ q => c_X4_knownName q) hC k_X4_knownName ql_RX4_180 rfl (by decide) hS (fun _ q => ez_rcv q) rfl hl.1 rfl (Nat.le_of_ble_eq_true rfl) ⟨Nat.zero_le _, Nat.zero_le _⟩ dX4_readHeld_24 (fun t_24 σ H locs hS h => ?_)
      refine lv_istore_n (lv' := [(2, .int t_24), (0, .ref (B + h0)), (1, .int x1)]) hx hb dX4_readHeld_27 rfl hl (by decide) rfl (fun ls hl => ?_)
      refine lv_iload_n hx hb dX4_readHeld_28 rfl (lv_at hl 0 rfl) ?_
      refine lv_iconst (v := -1) hx hb dX4_readHeld_29 (by decide) ?_
      refine lv_icmp_ne (tgt := 35) hx hb dX4_readHeld_30 (by decide) (fun c_30 => ?_) (fun c_30 => ?_)
      · replace h := ez_ifn h c_30
        refine lv_aload_n hx hb dX4_readHeld_35 rfl (lv_at hl 1 rfl) ?_
        refine eg_RX4_12 hC hS h dX4_readHeld_36 (fun t_36 h => ?_)
        refine eg_RX4_124 hC hS h dX4_readHeld_39 (fun t_39 h => ?_)
        refine lv_iload_n hx hb dX4_readHeld_42 rfl (lv_at hl 0 rfl) ?_
        refine ez_cVpi (As := [.int t_24]) (rest := []) h (fun _ q => c_X7_holder q) hC k_X7_holder ql_RX4_196 rfl (by decide) hS (fun _ q => ez_rcv q) rfl hl.1 rfl (Nat.le_of_ble_eq_true rfl) ⟨Nat.zero_le _, Nat.zero_le _⟩ dX4_readHeld_43 (fun t_43 H locs hS h => ?_)
        refine lv_iconst (v := -1) hx hb dX4_readHeld_46 (by decide) ?_
        refine lv_icmp_eq (tgt := 56) hx hb dX4_readHeld_47 (by decide) (fun c_47 => ?_) (fun c_47 => ?_)
        · replace h := ez_ifp h c_47
          refine lv_aload_n hx hb dX4_readHeld_56 rfl (lv_at hl 1 rfl) ?_
          refine eg_RX4_12 hC hS h dX4_readHeld_57 (fun t_57 h => ?_)
          refine eg_RX4_124 hC hS h dX4_readHeld_60 (fun t_60 h => ?_)
          refine lv_iload_n hx hb dX4_readHeld_63 rfl (lv_at hl 0 rfl) ?_
          refine lv_aload_n hx hb dX4_readHeld_64 rfl (lv_at hl 1 rfl) ?_
          refine eg_RX4_12 hC hS h dX4_readHeld_65 (fun t_65 h => ?_)
          refine eg_RX4_187 hC hS h dX4_readHeld_68 (fun t_68 h => ?_)
          refine ez_cVv (As := [.int t_24, .int t_68]) (rest := []) h (fun _ q => c_X7_putHolder q) hC k_X7_putHolder ql_RX4_165 rfl (by decide) hS (fun _ q => ez_rcv q) rfl hl.1 rfl (Nat.le_of_ble_eq_true rfl) ⟨Nat.zero_le _, Nat.zero_le _⟩ dX4_readHeld_71 (fun _ σ H locs hS h => ?_)
          refine lv_aload_n hx hb dX4_readHeld_74 rfl (lv_at hl 1 rfl) ?_
          refine eg_RX4_30 hC hS h dX4_readHeld_75 (fun t_75 h => ?_)
          refine ez_cVv (As := []) (rest := []) h (fun _ q => c_X9_advance q) hC k_X9_advance ql_RX4_66 rfl (by decide) hS (fun _ q => ez_rcv q) rfl hl.1 rfl (Nat.le_of_ble_eq_true rfl) ⟨Nat.zero_le _, Nat.zero_le _⟩ dX4_readHeld_78 (fun _ σ H locs hS h => ?_)
          refine lv_aload_n hx hb dX4_readHeld_81 rfl (lv_at hl 1 rfl) ?_
          refine eg_RX4_30 hC hS h dX4_readHeld_82 (fun t_82 h => ?_)
          refine eg_RX4_49 hC hS h dX4_readHeld_85 (fun t_85 h => ?_)
          refine lv_bipush (v := 23) hx hb dX4_readHeld_88 (by decide) ?_
          refine lv_icmp_eq (tgt := 95) hx hb dX4_readHeld_90 (by decide) (fun c_90 => ?_) (fun c_90 => ?_)
          · replace h := ez_ifp h c_90
            obtain ⟨t_95, e_95, h⟩ := ez_let_sp h
            refine lv_iinc (v := t_95) (lv' := [(1, .int t_95), (2, .int t_24), (0, .ref (B + h0))]) hx hb dX4_readHeld_95 hl (k := 2) rfl (by rw [e_95]; rfl) (by decide) rfl (fun ls hl => ?_)
            refine lv_goto (tgt := 9) hx hb dX4_readHeld_98 (by decide) ?_
            exact hk_9 σ h0 t_95 _ _ _ hS h (lv_sub hl [2, 0] rfl)
          · replace h := ez_ifn h c_90
            refine lv_iconst (v := 1) hx hb dX4_readHeld_93 (by decide) ?_
            have hn : narrow .boolean (.int 1) = .int 1 := by decide
            exact hret _ _ _ _ _ _ (Option.some.inj h) hn hS dX4_readHeld_94
        · replace h := ez_ifn h c_47
          refine lv_aload_n hx hb dX4_readHeld_50 rfl (lv_at hl 1 rfl) ?_
          refine lv_iconst (v := 3) hx hb dX4_readHeld_51 (by decide) ?_
          refine ez_cVi (As := [.int 3]) (rest := []) h (fun _ q => c_X4_blame q) hC k_X4_blame ql_RX4_59 rfl (by decide) hS (fun _ q => ez_rcv q) rfl hl.1 rfl (Nat.le_of_ble_eq_true rfl) ⟨Nat.zero_le _, Nat.zero_le _⟩ dX4_readHeld_52 (fun t_52 σ H locs hS h => ?_)
          obtain ⟨hn, h⟩ := ez_nr_sp rfl h
          exact hret _ _ _ _ _ _ (Option.some.inj h) hn hS dX4_readHeld_55
      · replace h := ez_ifp h c_30
        refine lv_iconst (v := 0) hx hb dX4_readHeld_33 (by decide) ?_
        have hn : narrow .boolean (.int 0) = .int 0 := by decide
        exact hret _ _ _ _ _ _ (Option.some.inj h) hn hS dX4_readHeld_34
  have E_9 : ∀ (σ : ez_H) (h0 : Nat) (x1 : Int32) (H : Heap) (locs : List Loc) (ls : Array Slot), ez_S X B s.heap (σ0.length) σ H locs → (ez_fix (fun _ _ _ => none) (z_X4_readHeld_9) ez_N) σ h0 x1 = some z → lv_has ls 3 [(0, .ref (B + h0)), (1, .int x1)] → W p l e R s m args below meth c H locs 0 0 Q (F0 m 9 ls []) := ez_fix_ind (fun k_9 : ez_H → Nat → Int32 → Option (Int32 × ez_H) => ∀ (σ : ez_H) (h0 : Nat) (x1 : Int32) (H : Heap) (locs : List Loc) (ls : Array Slot), ez_S X B s.heap (σ0.length) σ H locs → k_9 σ h0 x1 = some z → lv_has ls 3 [(0, .ref (B + h0)), (1, .int x1)] → W p l e R s m args below meth c H locs 0 0 Q (F0 m 9 ls [])) (fun _ _ _ _ _ _ _ h _ => by cases h) (fun k_9 hk_9 => K_9 k_9 hk_9) ez_N
  refine lv_aload_n hx hb dX4_readHeld_0 rfl (lv_at hl 0 rfl) ?_
  refine eg_RX4_30 hC hS h dX4_readHeld_1 (fun t_1 h => ?_)
  refine ez_cVv (As := []) (rest := []) h (fun _ q => c_X9_advance q) hC k_X9_advance ql_RX4_66 rfl (by decide) hS (fun _ q => ez_rcv q) rfl hl.1 rfl (Nat.le_of_ble_eq_true rfl) ⟨Nat.zero_le _, Nat.zero_le _⟩ dX4_readHeld_4 (fun _ σ H locs hS h => ?_)
  refine lv_iconst (v := 0) hx hb dX4_readHeld_7 (by decide) ?_
  refine lv_istore_n (lv' := [(1, .int 0), (0, .ref (B + h0))]) hx hb dX4_readHeld_8 rfl hl (by decide) rfl (fun ls hl => ?_)
  exact E_9  σ h0 (0 : Int32) _ _ _ hS h (lv_sub hl [1, 0] rfl)
