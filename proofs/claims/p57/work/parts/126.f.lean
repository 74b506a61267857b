set_option maxHeartbeats 4000000 in
set_option maxRecDepth 100000 in
theorem c_X12_behindUnit {l : Launch} {X : ez_X} {B : Nat} {σ : ez_H} {h0 : Nat} {z : Int32 × ez_H} (h : z_X12_behindUnit σ h0 = some z) : ez_M l X B σ yX12_behindUnit cX12_behindUnit 2 (some .boolean) 3 [.ref (B + h0)] (some (.int z.1)) z.2 := by
  refine ez_starti (z := z) (by decide) (Nat.le_of_ble_eq_true rfl) (fun p e R s m args below meth c Q hC hret hS ls hl => ?_)
  have hC : ez_C p R s m args c X B RX12 cX12_behindUnit 2 3 := hC
  have hx := hC.1.1
  have hb := hC.1.2.1
  have hown := hC.1.2.2.2.1
  have hts := hC.1.2.2.2.2
  have hl : lv_has ls 2 [(0, .ref (B + h0))] := hl
  obtain ⟨σ0, eσ⟩ : ∃ σ0 : ez_H, σ0 = σ := ⟨_, rfl⟩
  rw [← eσ] at hret
  have hS : ez_S X B s.heap σ0.length σ s.heap [] := eσ ▸ hS
  obtain ⟨-, h⟩ := ez_in h
  have K_191 : ∀ (σ : ez_H) (H : Heap) (locs : List Loc) (ls : Array Slot), ez_S X B s.heap (σ0.length) σ H locs → z_X12_behindUnit_191 σ = some z → lv_has ls 2 [] → W p l e R s m args below meth c H locs 0 0 Q (F0 m 191 ls []) := by
    intro σ H locs ls hS h hl
    refine lv_iconst (v := 0) hx hb dX12_behindUnit_191 (by decide) ?_
    have hn : narrow .boolean (.int 0) = .int 0 := by decide
    exact hret _ _ _ _ _ _ (Option.some.inj h) hn hS dX12_behindUnit_192
  have K_138 : ∀ (σ : ez_H) (h0 : Nat) (y0 : Nat) (y1 : Int32) (y2 : Int32) (H : Heap) (locs : List Loc) (ls : Array Slot), ez_S X B s.heap (σ0.length) σ H locs → z_X12_behindUnit_138 σ h0 y0 y1 y2 = some z → lv_has ls 2 [(0, .ref (B + h0))] → W p l e R s m args below meth c H locs 0 0 Q (F0 m 138 ls [.int y2, .int y1, .ref (B + y0)]) := by
    intro σ h0 y0 y1 y2 H locs ls hS h hl
    refine ez_cVv (As := [.int y1, .int y2]) (rest := []) h (fun _ q => c_X12_pushE q) hC k_X12_pushE ql_RX12_365 rfl (by decide) hS (fun _ q => ez_rcv q) rfl hl.1 rfl (Nat.le_of_ble_eq_true rfl) ⟨Nat.zero_le _, Nat.zero_le _⟩ dX12_behindUnit_138 (fun _ σ H locs hS h => ?_)
    refine lv_aload_n hx hb dX12_behindUnit_141 rfl (lv_at hl 0 rfl) ?_
    refine ez_cVv (As := []) (rest := []) h (fun _ q => c_X12_goOn q) hC k_X12_goOn ql_RX12_255 rfl (by decide) hS (fun _ q => ez_rcv q) rfl hl.1 rfl (Nat.le_of_ble_eq_true rfl) ⟨Nat.zero_le _, Nat.zero_le _⟩ dX12_behindUnit_142 (fun _ σ H locs hS h => ?_)
    refine lv_iconst (v := 1) hx hb dX12_behindUnit_145 (by decide) ?_
    have hn : narrow .boolean (.int 1) = .int 1 := by decide
    exact hret _ _ _ _ _ _ (Option.some.inj h) hn hS dX12_behindUnit_146
  have K_104 : ∀ (σ : ez_H) (h0 : Nat) (x1 : Int32) (H : Heap) (locs : List Loc) (ls : Array Slot), ez_S X B s.heap (σ0.length) σ H locs → z_X12_behindUnit_104 σ h0 x1 = some z → lv_has ls 2 [(0, .ref (B + h0)), (1, .int x1)] → W p l e R s m args below meth c H locs 0 0 Q (F0 m 104 ls []) := by
    intro σ h0 x1 H locs ls hS h hl
    refine lv_iload_n hx hb dX12_behindUnit_104 rfl (lv_at hl 1 rfl) ?_
    refine lv_if_le (tgt := 147) hx hb dX12_behindUnit_105 (by decide) (fun c_105 => ?_) (fun c_105 => ?_)
    · replace h := ez_ifp h c_105
      refine lv_aload_n hx hb dX12_behindUnit_147 rfl (lv_at hl 0 rfl) ?_
      refine lv_dup hx hb dX12_behindUnit_148 rfl ?_
      refine eg_RX12_359 hC hS h dX12_behindUnit_149 (fun t_149 h => ?_)
      refine lv_iconst (v := 1) hx hb dX12_behindUnit_152 (by decide) ?_
      refine lv_isub hx hb dX12_behindUnit_153 ?_
      refine ez_top h (fun t_153 h => ?_)
      refine ep_RX12_359 hC hS h dX12_behindUnit_154 (fun σ H locs hS h => ?_)
      refine lv_aload_n hx hb dX12_behindUnit_157 rfl (lv_at hl 0 rfl) ?_
      refine eg_RX12_109 hC hS h dX12_behindUnit_158 (fun t_158 h => ?_)
      refine lv_aload_n hx hb dX12_behindUnit_161 rfl (lv_at hl 0 rfl) ?_
      refine eg_RX12_359 hC hS h dX12_behindUnit_162 (fun t_162 h => ?_)
      refine ez_ial hC hS h dX12_behindUnit_165 (fun t_165 h => ?_)
      refine lv_bipush (v := 7) hx hb dX12_behindUnit_166 (by decide) ?_
      refine lv_icmp_ne (tgt := 191) hx hb dX12_behindUnit_168 (by decide) (fun c_168 => ?_) (fun c_168 => ?_)
      · replace h := ez_ifn h c_168
        exact K_191  σ _ _ _ hS h (lv_sub hl [] rfl)
      · replace h := ez_ifp h c_168
        refine lv_aload_n hx hb dX12_behindUnit_171 rfl (lv_at hl 0 rfl) ?_
        refine lv_dup hx hb dX12_behindUnit_172 rfl ?_
        refine eg_RX12_362 hC hS h dX12_behindUnit_173 (fun t_173 h => ?_)
        refine lv_iconst (v := 1) hx hb dX12_behindUnit_176 (by decide) ?_
        refine lv_isub hx hb dX12_behindUnit_177 ?_
        refine ez_top h (fun t_177 h => ?_)
        refine ep_RX12_362 hC hS h dX12_behindUnit_178 (fun σ H locs hS h => ?_)
        refine lv_aload_n hx hb dX12_behindUnit_181 rfl (lv_at hl 0 rfl) ?_
        refine lv_aload_n hx hb dX12_behindUnit_182 rfl (lv_at hl 0 rfl) ?_
        refine lv_bipush (v := 41) hx hb dX12_behindUnit_183 (by decide) ?_
        refine ez_cVpi (As := [.int 41]) (rest := [.ref (B + h0)]) h (fun _ q => c_X12_isSignHere q) hC k_X12_isSignHere ql_RX12_318 rfl (by decide) hS (fun _ q => ez_rcv q) rfl hl.1 rfl (Nat.le_of_ble_eq_true rfl) ⟨Nat.zero_le _, Nat.zero_le _⟩ dX12_behindUnit_185 (fun t_185 H locs hS h => ?_)
        refine ez_cVv (As := [.int t_185]) (rest := []) h (fun _ q => c_X12_must q) hC k_X12_must ql_RX12_321 rfl (by decide) hS (fun _ q => ez_rcv q) rfl hl.1 rfl (Nat.le_of_ble_eq_true rfl) ⟨Nat.zero_le _, Nat.zero_le _⟩ dX12_behindUnit_188 (fun _ σ H locs hS h => ?_)
        exact K_191  σ _ _ _ hS h (lv_sub hl [] rfl)
    · replace h := ez_ifn h c_105
      refine lv_aload_n hx hb dX12_behindUnit_108 rfl (lv_at hl 0 rfl) ?_
      refine lv_iload_n hx hb dX12_behindUnit_109 rfl (lv_at hl 1 rfl) ?_
      refine lv_iload_n hx hb dX12_behindUnit_110 rfl (lv_at hl 1 rfl) ?_
      refine lv_iconst (v := 2) hx hb dX12_behindUnit_111 (by decide) ?_
      refine lv_icmp_ne (tgt := 120) hx hb dX12_behindUnit_112 (by decide) (fun c_112 => ?_) (fun c_112 => ?_)
      · replace h := ez_ifn h c_112
        refine lv_iload_n hx hb dX12_behindUnit_120 rfl (lv_at hl 1 rfl) ?_
        refine lv_iconst (v := 1) hx hb dX12_behindUnit_121 (by decide) ?_
        refine lv_icmp_ne (tgt := 130) hx hb dX12_behindUnit_122 (by decide) (fun c_122 => ?_) (fun c_122 => ?_)
        · replace h := ez_ifn h c_122
          refine lv_aload_n hx hb dX12_behindUnit_130 rfl (lv_at hl 0 rfl) ?_
          refine lv_aload_n hx hb dX12_behindUnit_131 rfl (lv_at hl 0 rfl) ?_
          refine eg_RX12_216 hC hS h dX12_behindUnit_132 (fun t_132 h => ?_)
          refine ez_cVpi (As := [.int t_132]) (rest := [.int x1, .ref (B + h0)]) h (fun _ q => c_X12_sign q) hC k_X12_sign ql_RX12_219 rfl (by decide) hS (fun _ q => ez_rcv q) rfl hl.1 rfl (Nat.le_of_ble_eq_true rfl) ⟨Nat.zero_le _, Nat.zero_le _⟩ dX12_behindUnit_135 (fun t_135 H locs hS h => ?_)
          exact K_138  σ h0 h0 x1 t_135 _ _ _ hS h (lv_sub hl [0] rfl)
        · replace h := ez_ifp h c_122
          refine lv_bipush (v := 124) hx hb dX12_behindUnit_125 (by decide) ?_
          refine lv_goto (tgt := 138) hx hb dX12_behindUnit_127 (by decide) ?_
          exact K_138  σ h0 h0 x1 (124 : Int32) _ _ _ hS h (lv_sub hl [0] rfl)
      · replace h := ez_ifp h c_112
        refine lv_bipush (v := 38) hx hb dX12_behindUnit_115 (by decide) ?_
        refine lv_goto (tgt := 138) hx hb dX12_behindUnit_117 (by decide) ?_
        exact K_138  σ h0 h0 x1 (38 : Int32) _ _ _ hS h (lv_sub hl [0] rfl)
  have K_87 : ∀ (k_23 : ez_H → Nat → Int32 → Option (Int32 × ez_H)) (hk_23 : ∀ (σ : ez_H) (h0 : Nat) (x1 : Int32) (H : Heap) (locs : List Loc) (ls : Array Slot), ez_S X B s.heap (σ0.length) σ H locs → k_23 σ h0 x1 = some z → lv_has ls 2 [(0, .ref (B + h0)), (1, .int x1)] → W p l e R s m args below meth c H locs 0 0 Q (F0 m 23 ls [])), ∀ (σ : ez_H) (h0 : Nat) (x1 : Int32) (H : Heap) (locs : List Loc) (ls : Array Slot), ez_S X B s.heap (σ0.length) σ H locs → z_X12_behindUnit_87 k_23 σ h0 x1 = some z → lv_has ls 2 [(0, .ref (B + h0)), (1, .int x1)] → W p l e R s m args below meth c H locs 0 0 Q (F0 m 87 ls []) := by
    intro k_23 hk_23 σ h0 x1 H locs ls hS h hl
    refine lv_aload_n hx hb dX12_behindUnit_87 rfl (lv_at hl 0 rfl) ?_
    refine lv_aload_n hx hb dX12_behindUnit_88 rfl (lv_at hl 0 rfl) ?_
    refine eg_RX12_112 hC hS h dX12_behindUnit_89 (fun t_89 h => ?_)
    refine lv_aload_n hx hb dX12_behindUnit_92 rfl (lv_at hl 0 rfl) ?_
    refine eg_RX12_359 hC hS h dX12_behindUnit_93 (fun t_93 h => ?_)
    refine ez_ial hC hS h dX12_behindUnit_96 (fun t_96 h => ?_)
    refine lv_iconst (v := 0) hx hb dX12_behindUnit_97 (by decide) ?_
    refine ez_cVv (As := [.int t_96, .int 0]) (rest := []) h (fun _ q => c_X12_emit q) hC k_X12_emit ql_RX12_377 rfl (by decide) hS (fun _ q => ez_rcv q) rfl hl.1 rfl (Nat.le_of_ble_eq_true rfl) ⟨Nat.zero_le _, Nat.zero_le _⟩ dX12_behindUnit_98 (fun _ σ H locs hS h => ?_)
    refine lv_goto (tgt := 23) hx hb dX12_behindUnit_101 (by decide) ?_
    exact hk_23 σ h0 x1 _ _ _ hS h (lv_sub hl [0, 1] rfl)
  have K_23 : ∀ (k_23 : ez_H → Nat → Int32 → Option (Int32 × ez_H)) (hk_23 : ∀ (σ : ez_H) (h0 : Nat) (x1 : Int32) (H : Heap) (locs : List Loc) (ls : Array Slot), ez_S X B s.heap (σ0.length) σ H locs → k_23 σ h0 x1 = some z → lv_has ls 2 [(0, .ref (B + h0)), (1, .int x1)] → W p l e R s m args below meth c H locs 0 0 Q (F0 m 23 ls [])), ∀ (σ : ez_H) (h0 : Nat) (x1 : Int32) (H : Heap) (locs : List Loc) (ls : Array Slot), ez_S X B s.heap (σ0.length) σ H locs → z_X12_behindUnit_23 k_23 σ h0 x1 = some z → lv_has ls 2 [(0, .ref (B + h0)), (1, .int x1)] → W p l e R s m args below meth c H locs 0 0 Q (F0 m 23 ls []) := by
    intro k_23 hk_23 σ h0 x1 H locs ls hS h hl
    refine lv_aload_n hx hb dX12_behindUnit_23 rfl (lv_at hl 0 rfl) ?_
    refine eg_RX12_109 hC hS h dX12_behindUnit_24 (fun t_24 h => ?_)
    refine lv_aload_n hx hb dX12_behindUnit_27 rfl (lv_at hl 0 rfl) ?_
    refine eg_RX12_359 hC hS h dX12_behindUnit_28 (fun t_28 h => ?_)
    refine lv_iconst (v := 1) hx hb dX12_behindUnit_31 (by decide) ?_
    refine lv_isub hx hb dX12_behindUnit_32 ?_
    refine ez_top h (fun t_32 h => ?_)
    refine ez_ial hC hS h dX12_behindUnit_33 (fun t_33 h => ?_)
    refine lv_bipush (v := 6) hx hb dX12_behindUnit_34 (by decide) ?_
    refine lv_icmp_gt (tgt := 104) hx hb dX12_behindUnit_36 (by decide) (fun c_36 => ?_) (fun c_36 => ?_)
    · replace h := ez_ifp h c_36
      exact K_104  σ h0 x1 _ _ _ hS h (lv_sub hl [0, 1] rfl)
    · replace h := ez_ifn h c_36
      refine lv_aload_n hx hb dX12_behindUnit_39 rfl (lv_at hl 0 rfl) ?_
      refine eg_RX12_109 hC hS h dX12_behindUnit_40 (fun t_40 h => ?_)
      refine lv_aload_n hx hb dX12_behindUnit_43 rfl (lv_at hl 0 rfl) ?_
      refine eg_RX12_359 hC hS h dX12_behindUnit_44 (fun t_44 h => ?_)
      refine lv_iconst (v := 1) hx hb dX12_behindUnit_47 (by decide) ?_
      refine lv_isub hx hb dX12_behindUnit_48 ?_
      refine ez_top h (fun t_48 h => ?_)
      refine ez_ial hC hS h dX12_behindUnit_49 (fun t_49 h => ?_)
      refine lv_iload_n hx hb dX12_behindUnit_50 rfl (lv_at hl 1 rfl) ?_
      refine lv_icmp_lt (tgt := 104) hx hb dX12_behindUnit_51 (by decide) (fun c_51 => ?_) (fun c_51 => ?_)
      · replace h := ez_ifp h c_51
        exact K_104  σ h0 x1 _ _ _ hS h (lv_sub hl [0, 1] rfl)
      · replace h := ez_ifn h c_51
        refine lv_aload_n hx hb dX12_behindUnit_54 rfl (lv_at hl 0 rfl) ?_
        refine lv_dup hx hb dX12_behindUnit_55 rfl ?_
        refine eg_RX12_359 hC hS h dX12_behindUnit_56 (fun t_56 h => ?_)
        refine lv_iconst (v := 1) hx hb dX12_behindUnit_59 (by decide) ?_
        refine lv_isub hx hb dX12_behindUnit_60 ?_
        refine ez_top h (fun t_60 h => ?_)
        refine ep_RX12_359 hC hS h dX12_behindUnit_61 (fun σ H locs hS h => ?_)
        refine lv_aload_n hx hb dX12_behindUnit_64 rfl (lv_at hl 0 rfl) ?_
        refine eg_RX12_109 hC hS h dX12_behindUnit_65 (fun t_65 h => ?_)
        refine lv_aload_n hx hb dX12_behindUnit_68 rfl (lv_at hl 0 rfl) ?_
        refine eg_RX12_359 hC hS h dX12_behindUnit_69 (fun t_69 h => ?_)
        refine ez_ial hC hS h dX12_behindUnit_72 (fun t_72 h => ?_)
        refine lv_iconst (v := 3) hx hb dX12_behindUnit_73 (by decide) ?_
        refine lv_icmp_ne (tgt := 87) hx hb dX12_behindUnit_74 (by decide) (fun c_74 => ?_) (fun c_74 => ?_)
        · replace h := ez_ifn h c_74
          exact K_87 k_23 hk_23 σ h0 x1 _ _ _ hS h (lv_sub hl [0, 1] rfl)
        · replace h := ez_ifp h c_74
          refine lv_aload_n hx hb dX12_behindUnit_77 rfl (lv_at hl 0 rfl) ?_
          refine lv_dup hx hb dX12_behindUnit_78 rfl ?_
          refine eg_RX12_362 hC hS h dX12_behindUnit_79 (fun t_79 h => ?_)
          refine lv_iconst (v := 1) hx hb dX12_behindUnit_82 (by decide) ?_
          refine lv_isub hx hb dX12_behindUnit_83 ?_
          refine ez_top h (fun t_83 h => ?_)
          refine ep_RX12_362 hC hS h dX12_behindUnit_84 (fun σ H locs hS h => ?_)
          exact K_87 k_23 hk_23 σ h0 x1 _ _ _ hS h (lv_sub hl [0, 1] rfl)
  have E_23 : ∀ (σ : ez_H) (h0 : Nat) (x1 : Int32) (H : Heap) (locs : List Loc) (ls : Array Slot), ez_S X B s.heap (σ0.length) σ H locs → (ez_fix (fun _ _ _ => none) (z_X12_behindUnit_23) ez_N) σ h0 x1 = some z → lv_has ls 2 [(0, .ref (B + h0)), (1, .int x1)] → W p l e R s m args below meth c H locs 0 0 Q (F0 m 23 ls []) := ez_fix_ind (fun k_23 : ez_H → Nat → Int32 → Option (Int32 × ez_H) => ∀ (σ : ez_H) (h0 : Nat) (x1 : Int32) (H : Heap) (locs : List Loc) (ls : Array Slot), ez_S X B s.heap (σ0.length) σ H locs → k_23 σ h0 x1 = some z → lv_has ls 2 [(0, .ref (B + h0)), (1, .int x1)] → W p l e R s m args below meth c H locs 0 0 Q (F0 m 23 ls [])) (fun _ _ _ _ _ _ _ h _ => by cases h) (fun k_23 hk_23 => K_23 k_23 hk_23) ez_N
  refine lv_aload_n hx hb dX12_behindUnit_0 rfl (lv_at hl 0 rfl) ?_
  refine ez_cVpi (As := []) (rest := []) h (fun _ q => c_X12_rankHere q) hC k_X12_rankHere ql_RX12_380 rfl (by decide) hS (fun _ q => ez_rcv q) rfl hl.1 rfl (Nat.le_of_ble_eq_true rfl) ⟨Nat.zero_le _, Nat.zero_le _⟩ dX12_behindUnit_1 (fun t_1 H locs hS h => ?_)
  refine lv_istore_n (lv' := [(1, .int t_1), (0, .ref (B + h0))]) hx hb dX12_behindUnit_4 rfl hl (by decide) rfl (fun ls hl => ?_)
  refine lv_iload_n hx hb dX12_behindUnit_5 rfl (lv_at hl 0 rfl) ?_
  refine lv_iconst (v := 4) hx hb dX12_behindUnit_6 (by decide) ?_
  refine lv_icmp_ne (tgt := 23) hx hb dX12_behindUnit_7 (by decide) (fun c_7 => ?_) (fun c_7 => ?_)
  · replace h := ez_ifn h c_7
    exact E_23  σ h0 t_1 _ _ _ hS h (lv_sub hl [1, 0] rfl)
  · replace h := ez_ifp h c_7
    refine lv_aload_n hx hb dX12_behindUnit_10 rfl (lv_at hl 1 rfl) ?_
    refine ez_cVpi (As := []) (rest := []) h (fun _ q => c_X12_isCompared q) hC k_X12_isCompared ql_RX12_383 rfl (by decide) hS (fun _ q => ez_rcv q) rfl hl.1 rfl (Nat.le_of_ble_eq_true rfl) ⟨Nat.zero_le _, Nat.zero_le _⟩ dX12_behindUnit_11 (fun t_11 H locs hS h => ?_)
    refine lv_if_eq (tgt := 23) hx hb dX12_behindUnit_14 (by decide) (fun c_14 => ?_) (fun c_14 => ?_)
    · replace h := ez_ifp h c_14
      exact E_23  σ h0 t_1 _ _ _ hS h (lv_sub hl [1, 0] rfl)
    · replace h := ez_ifn h c_14
      refine lv_aload_n hx hb dX12_behindUnit_17 rfl (lv_at hl 1 rfl) ?_
      refine ez_cVv (As := []) (rest := []) h (fun _ q => c_X12_misplaced q) hC k_X12_misplaced ql_RX12_258 rfl (by decide) hS (fun _ q => ez_rcv q) rfl hl.1 rfl (Nat.le_of_ble_eq_true rfl) ⟨Nat.zero_le _, Nat.zero_le _⟩ dX12_behindUnit_18 (fun _ σ H locs hS h => ?_)
      refine lv_iconst (v := 1) hx hb dX12_behindUnit_21 (by decide) ?_
      have hn : narrow .boolean (.int 1) = .int 1 := by decide
      exact hret _ _ _ _ _ _ (Option.some.inj h) hn hS dX12_behindUnit_22
set_option maxHeartbeats 4000000 in
set_option maxRecDepth 100000 in
theorem c_X12_e {l : Launch} {X : ez_X} {B : Nat} {σ : ez_H} {h0 : Nat} {z : Unit × ez_H} (h : z_X12_e σ h0 = some z) : ez_M l X B σ yX12_e cX12_e 2 (none) 4 [.ref (B + h0)] (none) z.2 := by
  refine ez_startv (z := z) (by decide) (Nat.le_of_ble_eq_true rfl) (fun p e R s m args below meth c Q hC hret hS ls hl => ?_)
  have hC : ez_C p R s m args c X B RX12 cX12_e 2 4 := hC
  have hx := hC.1.1
  have hb := hC.1.2.1
  have hown := hC.1.2.2.2.1
  have hts := hC.1.2.2.2.2
  have hl : lv_has ls 2 [(0, .ref (B + h0))] := hl
  obtain ⟨σ0, eσ⟩ : ∃ σ0 : ez_H, σ0 = σ := ⟨_, rfl⟩
  rw [← eσ] at hret
  have hS : ez_S X B s.heap σ0.length σ s.heap [] := eσ ▸ hS
  obtain ⟨-, h⟩ := ez_in h
  have K_52 : ∀ (σ : ez_H) (H : Heap) (locs : List Loc) (ls : Array Slot), ez_S X B s.heap (σ0.length) σ H locs → z_X12_e_52 σ = some z → lv_has ls 2 [] → W p l e R s m args below meth c H locs 0 0 Q (F0 m 52 ls []) := by
    intro σ H locs ls hS h hl
    exact hret _ _ _ _ _ _ (Option.some.inj h) hS dX12_e_52
  have K_48 : ∀ (k_19 : ez_H → Nat → Int32 → Option (Unit × ez_H)) (hk_19 : ∀ (σ : ez_H) (h0 : Nat) (x1 : Int32) (H : Heap) (locs : List Loc) (ls : Array Slot), ez_S X B s.heap (σ0.length) σ H locs → k_19 σ h0 x1 = some z → lv_has ls 2 [(0, .ref (B + h0)), (1, .int x1)] → W p l e R s m args below meth c H locs 0 0 Q (F0 m 19 ls [])), ∀ (σ : ez_H) (h0 : Nat) (y0 : Int32) (H : Heap) (locs : List Loc) (ls : Array Slot), ez_S X B s.heap (σ0.length) σ H locs → z_X12_e_48 k_19 σ h0 y0 = some z → lv_has ls 2 [(0, .ref (B + h0))] → W p l e R s m args below meth c H locs 0 0 Q (F0 m 48 ls [.int y0]) := by
    intro k_19 hk_19 σ h0 y0 H locs ls hS h hl
    refine lv_istore_n (lv' := [(1, .int y0), (0, .ref (B + h0))]) hx hb dX12_e_48 rfl hl (by decide) rfl (fun ls hl => ?_)
    refine lv_goto (tgt := 19) hx hb dX12_e_49 (by decide) ?_
    exact hk_19 σ h0 y0 _ _ _ hS h (lv_sub hl [1, 0] rfl)
  have K_19 : ∀ (k_19 : ez_H → Nat → Int32 → Option (Unit × ez_H)) (hk_19 : ∀ (σ : ez_H) (h0 : Nat) (x1 : Int32) (H : Heap) (locs : List Loc) (ls : Array Slot), ez_S X B s.heap (σ0.length) σ H locs → k_19 σ h0 x1 = some z → lv_has ls 2 [(0, .ref (B + h0)), (1, .int x1)] → W p l e R s m args below meth c H locs 0 0 Q (F0 m 19 ls [])), ∀ (σ : ez_H) (h0 : Nat) (x1 : Int32) (H : Heap) (locs : List Loc) (ls : Array Slot), ez_S X B s.heap (σ0.length) σ H locs → z_X12_e_19 k_19 σ h0 x1 = some z → lv_has ls 2 [(0, .ref (B + h0)), (1, .int x1)] → W p l e R s m args below meth c H locs 0 0 Q (F0 m 19 ls []) := by
    intro k_19 hk_19 σ h0 x1 H locs ls hS h hl
    refine lv_aload_n hx hb dX12_e_19 rfl (lv_at hl 0 rfl) ?_
    refine ez_cVpi (As := []) (rest := []) h (fun _ q => c_X12_isGood q) hC k_X12_isGood ql_RX12_251 rfl (by decide) hS (fun _ q => ez_rcv q) rfl hl.1 rfl (Nat.le_of_ble_eq_true rfl) ⟨Nat.zero_le _, Nat.zero_le _⟩ dX12_e_20 (fun t_20 H locs hS h => ?_)
    refine lv_if_eq (tgt := 52) hx hb dX12_e_23 (by decide) (fun c_23 => ?_) (fun c_23 => ?_)
    · replace h := ez_ifp h c_23
      exact K_52  σ _ _ _ hS h (lv_sub hl [] rfl)
    · replace h := ez_ifn h c_23
      refine lv_aload_n hx hb dX12_e_26 rfl (lv_at hl 0 rfl) ?_
      refine eg_RX12_359 hC hS h dX12_e_27 (fun t_27 h => ?_)
      refine lv_if_le (tgt := 52) hx hb dX12_e_30 (by decide) (fun c_30 => ?_) (fun c_30 => ?_)
      · replace h := ez_ifp h c_30
        exact K_52  σ _ _ _ hS h (lv_sub hl [] rfl)
      · replace h := ez_ifn h c_30
        refine lv_iload_n hx hb dX12_e_33 rfl (lv_at hl 1 rfl) ?_
        refine lv_if_eq (tgt := 44) hx hb dX12_e_34 (by decide) (fun c_34 => ?_) (fun c_34 => ?_)
        · replace h := ez_ifp h c_34
          refine lv_aload_n hx hb dX12_e_44 rfl (lv_at hl 0 rfl) ?_
          refine ez_cVi (As := []) (rest := []) h (fun _ q => c_X12_behindUnit q) hC k_X12_behindUnit ql_RX12_371 rfl (by decide) hS (fun _ q => ez_rcv q) rfl hl.1 rfl (Nat.le_of_ble_eq_true rfl) ⟨Nat.zero_le _, Nat.zero_le _⟩ dX12_e_45 (fun t_45 σ H locs hS h => ?_)
          exact K_48 k_19 hk_19 σ h0 t_45 _ _ _ hS h (lv_sub hl [0] rfl)
        · replace h := ez_ifn h c_34
          refine lv_aload_n hx hb dX12_e_37 rfl (lv_at hl 0 rfl) ?_
          refine ez_cVi (As := []) (rest := []) h (fun _ q => c_X12_unit q) hC k_X12_unit ql_RX12_368 rfl (by decide) hS (fun _ q => ez_rcv q) rfl hl.1 rfl (Nat.le_of_ble_eq_true rfl) ⟨Nat.zero_le _, Nat.zero_le _⟩ dX12_e_38 (fun t_38 σ H locs hS h => ?_)
          refine lv_goto (tgt := 48) hx hb dX12_e_41 (by decide) ?_
          exact K_48 k_19 hk_19 σ h0 t_38 _ _ _ hS h (lv_sub hl [0] rfl)
  have E_19 : ∀ (σ : ez_H) (h0 : Nat) (x1 : Int32) (H : Heap) (locs : List Loc) (ls : Array Slot), ez_S X B s.heap (σ0.length) σ H locs → (ez_fix (fun _ _ _ => none) (z_X12_e_19) ez_N) σ h0 x1 = some z → lv_has ls 2 [(0, .ref (B + h0)), (1, .int x1)] → W p l e R s m args below meth c H locs 0 0 Q (F0 m 19 ls []) := ez_fix_ind (fun k_19 : ez_H → Nat → Int32 → Option (Unit × ez_H) => ∀ (σ : ez_H) (h0 : Nat) (x1 : Int32) (H : Heap) (locs : List Loc) (ls : Array Slot), ez_S X B s.heap (σ0.length) σ H locs → k_19 σ h0 x1 = some z → lv_has ls 2 [(0, .ref (B + h0)), (1, .int x1)] → W p l e R s m args below meth c H locs 0 0 Q (F0 m 19 ls [])) (fun _ _ _ _ _ _ _ h _ => by cases h) (fun k_19 hk_19 => K_19 k_19 hk_19) ez_N
  refine lv_aload_n hx hb dX12_e_0 rfl (lv_at hl 0 rfl) ?_
  refine lv_iconst (v := 0) hx hb dX12_e_1 (by decide) ?_
  refine ep_RX12_359 hC hS h dX12_e_2 (fun σ H locs hS h => ?_)
  refine lv_aload_n hx hb dX12_e_5 rfl (lv_at hl 0 rfl) ?_
  refine lv_iconst (v := 0) hx hb dX12_e_6 (by decide) ?_
  refine ep_RX12_362 hC hS h dX12_e_7 (fun σ H locs hS h => ?_)
  refine lv_aload_n hx hb dX12_e_10 rfl (lv_at hl 0 rfl) ?_
  refine lv_bipush (v := 8) hx hb dX12_e_11 (by decide) ?_
  refine lv_iconst (v := 0) hx hb dX12_e_13 (by decide) ?_
  refine ez_cVv (As := [.int 8, .int 0]) (rest := []) h (fun _ q => c_X12_pushE q) hC k_X12_pushE ql_RX12_365 rfl (by decide) hS (fun _ q => ez_rcv q) rfl hl.1 rfl (Nat.le_of_ble_eq_true rfl) ⟨Nat.zero_le _, Nat.zero_le _⟩ dX12_e_14 (fun _ σ H locs hS h => ?_)
  refine lv_iconst (v := 1) hx hb dX12_e_17 (by decide) ?_
  refine lv_istore_n (lv' := [(1, .int 1), (0, .ref (B + h0))]) hx hb dX12_e_18 rfl hl (by decide) rfl (fun ls hl => ?_)
  exact E_19  σ h0 (1 : Int32) _ _ _ hS h (lv_sub hl [1, 0] rfl)
set_option maxHeartbeats 4000000 in
set_option maxRecDepth 100000 in
theorem c_X12_readRule {l : Launch} {X : ez_X} {B : Nat} {σ : ez_H} {h0 : Nat} {z : Unit × ez_H} (h : z_X12_readRule σ h0 = some z) : ez_M l X B σ yX12_readRule cX12_readRule 1 (none) 5 [.ref (B + h0)] (none) z.2 := by
  refine ez_startv (z := z) (by decide) (Nat.le_of_ble_eq_true rfl) (fun p e R s m args below meth c Q hC hret hS ls hl => ?_)
  have hC : ez_C p R s m args c X B RX12 cX12_readRule 1 5 := hC
  have hx := hC.1.1
  have hb := hC.1.2.1
  have hown := hC.1.2.2.2.1
  have hts := hC.1.2.2.2.2
  have hl : lv_has ls 1 [(0, .ref (B + h0))] := hl
  obtain ⟨σ0, eσ⟩ : ∃ σ0 : ez_H, σ0 = σ := ⟨_, rfl⟩
  rw [← eσ] at hret
  have hS : ez_S X B s.heap σ0.length σ s.heap [] := eσ ▸ hS
  obtain ⟨-, h⟩ := ez_in h
  refine lv_aload_n hx hb dX12_readRule_0 rfl (lv_at hl 0 rfl) ?_
  refine eg_RX12_51 hC hS h dX12_readRule_1 (fun t_1 h => ?_)
  refine lv_aload_n hx hb dX12_readRule_4 rfl (lv_at hl 0 rfl) ?_
  refine eg_RX12_265 hC hS h dX12_readRule_5 (fun t_5 h => ?_)
  refine lv_dup2_11 hx hb dX12_readRule_8 rfl rfl ?_
  refine ez_ial hC hS h dX12_readRule_9 (fun t_9 h => ?_)
  refine lv_bipush (v := 8) hx hb dX12_readRule_10 (by decide) ?_
  refine lv_ior hx hb dX12_readRule_12 ?_
  refine ez_top h (fun t_12 h => ?_)
  refine ez_ias hC hS h dX12_readRule_13 (fun σ H locs hS h => ?_)
  refine lv_aload_n hx hb dX12_readRule_14 rfl (lv_at hl 0 rfl) ?_
  refine lv_iconst (v := 0) hx hb dX12_readRule_15 (by decide) ?_
  refine ep_RX12_353 hC hS h dX12_readRule_16 (fun σ H locs hS h => ?_)
  refine lv_aload_n hx hb dX12_readRule_19 rfl (lv_at hl 0 rfl) ?_
  refine eg_RX12_81 hC hS h dX12_readRule_20 (fun t_20 h => ?_)
  refine lv_aload_n hx hb dX12_readRule_23 rfl (lv_at hl 0 rfl) ?_
  refine eg_RX12_265 hC hS h dX12_readRule_24 (fun t_24 h => ?_)
  refine lv_aload_n hx hb dX12_readRule_27 rfl (lv_at hl 0 rfl) ?_
  refine eg_RX12_268 hC hS h dX12_readRule_28 (fun t_28 h => ?_)
  refine ez_ias hC hS h dX12_readRule_31 (fun σ H locs hS h => ?_)
  refine lv_aload_n hx hb dX12_readRule_32 rfl (lv_at hl 0 rfl) ?_
  refine ez_cVv (As := []) (rest := []) h (fun _ q => c_X12_e q) hC k_X12_e ql_RX12_356 rfl (by decide) hS (fun _ q => ez_rcv q) rfl hl.1 rfl (Nat.le_of_ble_eq_true rfl) ⟨Nat.zero_le _, Nat.zero_le _⟩ dX12_readRule_33 (fun _ σ H locs hS h => ?_)
  refine lv_aload_n hx hb dX12_readRule_36 rfl (lv_at hl 0 rfl) ?_
  refine eg_RX12_84 hC hS h dX12_readRule_37 (fun t_37 h => ?_)
  refine lv_aload_n hx hb dX12_readRule_40 rfl (lv_at hl 0 rfl) ?_
  refine eg_RX12_265 hC hS h dX12_readRule_41 (fun t_41 h => ?_)
  refine lv_aload_n hx hb dX12_readRule_44 rfl (lv_at hl 0 rfl) ?_
  refine eg_RX12_268 hC hS h dX12_readRule_45 (fun t_45 h => ?_)
  refine ez_ias hC hS h dX12_readRule_48 (fun σ H locs hS h => ?_)
  exact hret _ _ _ _ _ _ (Option.some.inj h) hS dX12_readRule_49
set_option maxHeartbeats 4000000 in
set_option maxRecDepth 100000 in
theorem c_X12_readLine {l : Launch} {X : ez_X} {B : Nat} {σ : ez_H} {h0 : Nat} {z : Unit × ez_H} (h : z_X12_readLine σ h0 = some z) : ez_M l X B σ yX12_readLine cX12_readLine 3 (none) 6 [.ref (B + h0)] (none) z.2 := by
  refine ez_startv (z := z) (by decide) (Nat.le_of_ble_eq_true rfl) (fun p e R s m args below meth c Q hC hret hS ls hl => ?_)
  have hC : ez_C p R s m args c X B RX12 cX12_readLine 3 6 := hC
  have hx := hC.1.1
  have hb := hC.1.2.1
  have hown := hC.1.2.2.2.1
  have hts := hC.1.2.2.2.2
  have hl : lv_has ls 3 [(0, .ref (B + h0))] := hl
  obtain ⟨σ0, eσ⟩ : ∃ σ0 : ez_H, σ0 = σ := ⟨_, rfl⟩
  rw [← eσ] at hret
  have hS : ez_S X B s.heap σ0.length σ s.heap [] := eσ ▸ hS
  obtain ⟨-, h⟩ := ez_in h
  have K_239 : ∀ (σ : ez_H) (h0 : Nat) (H : Heap) (locs : List Loc) (ls : Array Slot), ez_S X B s.heap (σ0.length) σ H locs → z_X12_readLine_239 σ h0 = some z → lv_has ls 3 [(0, .ref (B + h0))] → W p l e R s m args below meth c H locs 0 0 Q (F0 m 239 ls []) := by
    intro σ h0 H locs ls hS h hl
    refine lv_aload_n hx hb dX12_readLine_239 rfl (lv_at hl 0 rfl) ?_
    refine lv_aload_n hx hb dX12_readLine_240 rfl (lv_at hl 0 rfl) ?_
    refine lv_bipush (v := 59) hx hb dX12_readLine_241 (by decide) ?_
    refine ez_cVpi (As := [.int 59]) (rest := [.ref (B + h0)]) h (fun _ q => c_X12_isSignHere q) hC k_X12_isSignHere ql_RX12_318 rfl (by decide) hS (fun _ q => ez_rcv q) rfl hl.1 rfl (Nat.le_of_ble_eq_true rfl) ⟨Nat.zero_le _, Nat.zero_le _⟩ dX12_readLine_243 (fun t_243 H locs hS h => ?_)
    refine ez_cVv (As := [.int t_243]) (rest := []) h (fun _ q => c_X12_must q) hC k_X12_must ql_RX12_321 rfl (by decide) hS (fun _ q => ez_rcv q) rfl hl.1 rfl (Nat.le_of_ble_eq_true rfl) ⟨Nat.zero_le _, Nat.zero_le _⟩ dX12_readLine_246 (fun _ σ H locs hS h => ?_)
    exact hret _ _ _ _ _ _ (Option.some.inj h) hS dX12_readLine_249
  have K_213 : ∀ (σ : ez_H) (h0 : Nat) (x1 : Int64) (H : Heap) (locs : List Loc) (ls : Array Slot), ez_S X B s.heap (σ0.length) σ H locs → z_X12_readLine_213 σ h0 x1 = some z → lv_has ls 3 [(0, .ref (B + h0)), (1, .long x1)] → W p l e R s m args below meth c H locs 0 0 Q (F0 m 213 ls []) := by
    intro σ h0 x1 H locs ls hS h hl
    refine lv_lload_n hx hb dX12_readLine_213 rfl (lv_at hl 1 rfl) ?_
    refine lv_ldc2 hx hb hown (hts _ qc_RX12_197) dX12_readLine_214 ?_
    refine W.lcmp hx hb dX12_readLine_217 ?_
    refine ez_top h (fun t_217 h => ?_)
    refine lv_if_ne (tgt := 239) hx hb dX12_readLine_218 (by decide) (fun c_218 => ?_) (fun c_218 => ?_)
    · replace h := ez_ifn h c_218
      exact K_239  σ h0 _ _ _ hS h (lv_sub hl [0] rfl)
    · replace h := ez_ifp h c_218
      refine lv_aload_n hx hb dX12_readLine_221 rfl (lv_at hl 0 rfl) ?_
      refine eg_RX12_48 hC hS h dX12_readLine_222 (fun t_222 h => ?_)
      refine lv_aload_n hx hb dX12_readLine_225 rfl (lv_at hl 0 rfl) ?_
      refine eg_RX12_265 hC hS h dX12_readLine_226 (fun t_226 h => ?_)
      refine lv_aload_n hx hb dX12_readLine_229 rfl (lv_at hl 0 rfl) ?_
      refine lv_iconst (v := 4) hx hb dX12_readLine_230 (by decide) ?_
      refine lv_iconst (v := 0) hx hb dX12_readLine_231 (by decide) ?_
      refine lv_sipush (v := 999) hx hb dX12_readLine_232 (by decide) ?_
      refine ez_cVi (As := [.int 4, .int 0, .int 999]) (rest := [.int t_226, .ref (B + t_222)]) h (fun _ q => c_X12_once q) hC k_X12_once ql_RX12_293 rfl (by decide) hS (fun _ q => ez_rcv q) rfl hl.1 rfl (Nat.le_of_ble_eq_true rfl) ⟨Nat.zero_le _, Nat.zero_le _⟩ dX12_readLine_235 (fun t_235 σ H locs hS h => ?_)
      refine ez_ias hC hS h dX12_readLine_238 (fun σ H locs hS h => ?_)
      exact K_239  σ h0 _ _ _ hS h (lv_sub hl [0] rfl)
  have K_201 : ∀ (σ : ez_H) (h0 : Nat) (x1 : Int64) (H : Heap) (locs : List Loc) (ls : Array Slot), ez_S X B s.heap (σ0.length) σ H locs → z_X12_readLine_201 σ h0 x1 = some z → lv_has ls 3 [(0, .ref (B + h0)), (1, .long x1)] → W p l e R s m args below meth c H locs 0 0 Q (F0 m 201 ls []) := by
    intro σ h0 x1 H locs ls hS h hl
    refine lv_lload_n hx hb dX12_readLine_201 rfl (lv_at hl 1 rfl) ?_
    refine lv_ldc2 hx hb hown (hts _ qc_RX12_195) dX12_readLine_202 ?_
    refine W.lcmp hx hb dX12_readLine_205 ?_
    refine ez_top h (fun t_205 h => ?_)
    refine lv_if_ne (tgt := 213) hx hb dX12_readLine_206 (by decide) (fun c_206 => ?_) (fun c_206 => ?_)
    · replace h := ez_ifn h c_206
      exact K_213  σ h0 x1 _ _ _ hS h (lv_sub hl [0, 1] rfl)
    · replace h := ez_ifp h c_206
      refine lv_aload_n hx hb dX12_readLine_209 rfl (lv_at hl 0 rfl) ?_
      refine ez_cVv (As := []) (rest := []) h (fun _ q => c_X12_readRule q) hC k_X12_readRule ql_RX12_315 rfl (by decide) hS (fun _ q => ez_rcv q) rfl hl.1 rfl (Nat.le_of_ble_eq_true rfl) ⟨Nat.zero_le _, Nat.zero_le _⟩ dX12_readLine_210 (fun _ σ H locs hS h => ?_)
      exact K_213  σ h0 x1 _ _ _ hS h (lv_sub hl [0, 1] rfl)
  have K_185 : ∀ (σ : ez_H) (h0 : Nat) (x1 : Int64) (H : Heap) (locs : List Loc) (ls : Array Slot), ez_S X B s.heap (σ0.length) σ H locs → z_X12_readLine_185 σ h0 x1 = some z → lv_has ls 3 [(0, .ref (B + h0)), (1, .long x1)] → W p l e R s m args below meth c H locs 0 0 Q (F0 m 185 ls []) := by
    intro σ h0 x1 H locs ls hS h hl
    refine lv_lload_n hx hb dX12_readLine_185 rfl (lv_at hl 1 rfl) ?_
    refine lv_ldc2 hx hb hown (hts _ qc_RX12_193) dX12_readLine_186 ?_
    refine W.lcmp hx hb dX12_readLine_189 ?_
    refine ez_top h (fun t_189 h => ?_)
    refine lv_if_ne (tgt := 201) hx hb dX12_readLine_190 (by decide) (fun c_190 => ?_) (fun c_190 => ?_)
    · replace h := ez_ifn h c_190
      exact K_201  σ h0 x1 _ _ _ hS h (lv_sub hl [0, 1] rfl)
    · replace h := ez_ifp h c_190
      refine lv_aload_n hx hb dX12_readLine_193 rfl (lv_at hl 0 rfl) ?_
      refine lv_aload_n hx hb dX12_readLine_194 rfl (lv_at hl 0 rfl) ?_
      refine eg_RX12_78 hC hS h dX12_readLine_195 (fun t_195 h => ?_)
      refine ez_cVv (As := [.ref (B + t_195)]) (rest := []) h (fun _ q => c_X12_readRight q) hC k_X12_readRight ql_RX12_311 rfl (by decide) hS (fun _ q => ez_rcv q) rfl hl.1 rfl (Nat.le_of_ble_eq_true rfl) ⟨Nat.zero_le _, Nat.zero_le _⟩ dX12_readLine_198 (fun _ σ H locs hS h => ?_)
      exact K_201  σ h0 x1 _ _ _ hS h (lv_sub hl [0, 1] rfl)
  have K_169 : ∀ (σ : ez_H) (h0 : Nat) (x1 : Int64) (H : Heap) (locs : List Loc) (ls : Array Slot), ez_S X B s.heap (σ0.length) σ H locs → z_X12_readLine_169 σ h0 x1 = some z → lv_has ls 3 [(0, .ref (B + h0)), (1, .long x1)] → W p l e R s m args below meth c H locs 0 0 Q (F0 m 169 ls []) := by
    intro σ h0 x1 H locs ls hS h hl
    refine lv_lload_n hx hb dX12_readLine_169 rfl (lv_at hl 1 rfl) ?_
    refine lv_ldc2 hx hb hown (hts _ qc_RX12_191) dX12_readLine_170 ?_
    refine W.lcmp hx hb dX12_readLine_173 ?_
    refine ez_top h (fun t_173 h => ?_)
    refine lv_if_ne (tgt := 185) hx hb dX12_readLine_174 (by decide) (fun c_174 => ?_) (fun c_174 => ?_)
    · replace h := ez_ifn h c_174
      exact K_185  σ h0 x1 _ _ _ hS h (lv_sub hl [0, 1] rfl)
    · replace h := ez_ifp h c_174
      refine lv_aload_n hx hb dX12_readLine_177 rfl (lv_at hl 0 rfl) ?_
      refine lv_aload_n hx hb dX12_readLine_178 rfl (lv_at hl 0 rfl) ?_
      refine eg_RX12_75 hC hS h dX12_readLine_179 (fun t_179 h => ?_)
      refine ez_cVv (As := [.ref (B + t_179)]) (rest := []) h (fun _ q => c_X12_readRight q) hC k_X12_readRight ql_RX12_311 rfl (by decide) hS (fun _ q => ez_rcv q) rfl hl.1 rfl (Nat.le_of_ble_eq_true rfl) ⟨Nat.zero_le _, Nat.zero_le _⟩ dX12_readLine_182 (fun _ σ H locs hS h => ?_)
      exact K_185  σ h0 x1 _ _ _ hS h (lv_sub hl [0, 1] rfl)
  have K_157 : ∀ (σ : ez_H) (h0 : Nat) (x1 : Int64) (H : Heap) (locs : List Loc) (ls : Array Slot), ez_S X B s.heap (σ0.length) σ H locs → z_X12_readLine_157 σ h0 x1 = some z → lv_has ls 3 [(0, .ref (B + h0)), (1, .long x1)] → W p l e R s m args below meth c H locs 0 0 Q (F0 m 157 ls []) := by
    intro σ h0 x1 H locs ls hS h hl
    refine lv_lload_n hx hb dX12_readLine_157 rfl (lv_at hl 1 rfl) ?_
    refine lv_ldc2 hx hb hown (hts _ qc_RX12_185) dX12_readLine_158 ?_
    refine W.lcmp hx hb dX12_readLine_161 ?_
    refine ez_top h (fun t_161 h => ?_)
    refine lv_if_ne (tgt := 169) hx hb dX12_readLine_162 (by decide) (fun c_162 => ?_) (fun c_162 => ?_)
    · replace h := ez_ifn h c_162
      exact K_169  σ h0 x1 _ _ _ hS h (lv_sub hl [0, 1] rfl)
    · replace h := ez_ifp h c_162
      refine lv_aload_n hx hb dX12_readLine_165 rfl (lv_at hl 0 rfl) ?_
      refine ez_cVv (As := []) (rest := []) h (fun _ q => c_X12_readPerson q) hC k_X12_readPerson ql_RX12_308 rfl (by decide) hS (fun _ q => ez_rcv q) rfl hl.1 rfl (Nat.le_of_ble_eq_true rfl) ⟨Nat.zero_le _, Nat.zero_le _⟩ dX12_readLine_166 (fun _ σ H locs hS h => ?_)
      exact K_169  σ h0 x1 _ _ _ hS h (lv_sub hl [0, 1] rfl)
  have K_145 : ∀ (σ : ez_H) (h0 : Nat) (x1 : Int64) (H : Heap) (locs : List Loc) (ls : Array Slot), ez_S X B s.heap (σ0.length) σ H locs → z_X12_readLine_145 σ h0 x1 = some z → lv_has ls 3 [(0, .ref (B + h0)), (1, .long x1)] → W p l e R s m args below meth c H locs 0 0 Q (F0 m 145 ls []) := by
    intro σ h0 x1 H locs ls hS h hl
    refine lv_lload_n hx hb dX12_readLine_145 rfl (lv_at hl 1 rfl) ?_
    refine lv_ldc2 hx hb hown (hts _ qc_RX12_179) dX12_readLine_146 ?_
    refine W.lcmp hx hb dX12_readLine_149 ?_
    refine ez_top h (fun t_149 h => ?_)
    refine lv_if_ne (tgt := 157) hx hb dX12_readLine_150 (by decide) (fun c_150 => ?_) (fun c_150 => ?_)
    · replace h := ez_ifn h c_150
      exact K_157  σ h0 x1 _ _ _ hS h (lv_sub hl [0, 1] rfl)
    · replace h := ez_ifp h c_150
      refine lv_aload_n hx hb dX12_readLine_153 rfl (lv_at hl 0 rfl) ?_
      refine ez_cVv (As := []) (rest := []) h (fun _ q => c_X12_readDoor q) hC k_X12_readDoor ql_RX12_305 rfl (by decide) hS (fun _ q => ez_rcv q) rfl hl.1 rfl (Nat.le_of_ble_eq_true rfl) ⟨Nat.zero_le _, Nat.zero_le _⟩ dX12_readLine_154 (fun _ σ H locs hS h => ?_)
      exact K_157  σ h0 x1 _ _ _ hS h (lv_sub hl [0, 1] rfl)
  have K_133 : ∀ (σ : ez_H) (h0 : Nat) (x1 : Int64) (H : Heap) (locs : List Loc) (ls : Array Slot), ez_S X B s.heap (σ0.length) σ H locs → z_X12_readLine_133 σ h0 x1 = some z → lv_has ls 3 [(0, .ref (B + h0)), (1, .long x1)] → W p l e R s m args below meth c H locs 0 0 Q (F0 m 133 ls []) := by
    intro σ h0 x1 H locs ls hS h hl
    refine lv_lload_n hx hb dX12_readLine_133 rfl (lv_at hl 1 rfl) ?_
    refine lv_ldc2 hx hb hown (hts _ qc_RX12_177) dX12_readLine_134 ?_
    refine W.lcmp hx hb dX12_readLine_137 ?_
    refine ez_top h (fun t_137 h => ?_)
    refine lv_if_ne (tgt := 145) hx hb dX12_readLine_138 (by decide) (fun c_138 => ?_) (fun c_138 => ?_)
    · replace h := ez_ifn h c_138
      exact K_145  σ h0 x1 _ _ _ hS h (lv_sub hl [0, 1] rfl)
    · replace h := ez_ifp h c_138
      refine lv_aload_n hx hb dX12_readLine_141 rfl (lv_at hl 0 rfl) ?_
      refine ez_cVv (As := []) (rest := []) h (fun _ q => c_X12_readRoom q) hC k_X12_readRoom ql_RX12_302 rfl (by decide) hS (fun _ q => ez_rcv q) rfl hl.1 rfl (Nat.le_of_ble_eq_true rfl) ⟨Nat.zero_le _, Nat.zero_le _⟩ dX12_readLine_142 (fun _ σ H locs hS h => ?_)
      exact K_145  σ h0 x1 _ _ _ hS h (lv_sub hl [0, 1] rfl)
  have K_121 : ∀ (σ : ez_H) (h0 : Nat) (x1 : Int64) (H : Heap) (locs : List Loc) (ls : Array Slot), ez_S X B s.heap (σ0.length) σ H locs → z_X12_readLine_121 σ h0 x1 = some z → lv_has ls 3 [(0, .ref (B + h0)), (1, .long x1)] → W p l e R s m args below meth c H locs 0 0 Q (F0 m 121 ls []) := by
    intro σ h0 x1 H locs ls hS h hl
    refine lv_lload_n hx hb dX12_readLine_121 rfl (lv_at hl 1 rfl) ?_
    refine lv_ldc2 hx hb hown (hts _ qc_RX12_175) dX12_readLine_122 ?_
    refine W.lcmp hx hb dX12_readLine_125 ?_
    refine ez_top h (fun t_125 h => ?_)
    refine lv_if_ne (tgt := 133) hx hb dX12_readLine_126 (by decide) (fun c_126 => ?_) (fun c_126 => ?_)
    · replace h := ez_ifn h c_126
      exact K_133  σ h0 x1 _ _ _ hS h (lv_sub hl [0, 1] rfl)
    · replace h := ez_ifp h c_126
      refine lv_aload_n hx hb dX12_readLine_129 rfl (lv_at hl 0 rfl) ?_
      refine ez_cVv (As := []) (rest := []) h (fun _ q => c_X12_readLock q) hC k_X12_readLock ql_RX12_299 rfl (by decide) hS (fun _ q => ez_rcv q) rfl hl.1 rfl (Nat.le_of_ble_eq_true rfl) ⟨Nat.zero_le _, Nat.zero_le _⟩ dX12_readLine_130 (fun _ σ H locs hS h => ?_)
      exact K_133  σ h0 x1 _ _ _ hS h (lv_sub hl [0, 1] rfl)
  have K_109 : ∀ (σ : ez_H) (h0 : Nat) (x1 : Int64) (H : Heap) (locs : List Loc) (ls : Array Slot), ez_S X B s.heap (σ0.length) σ H locs → z_X12_readLine_109 σ h0 x1 = some z → lv_has ls 3 [(0, .ref (B + h0)), (1, .long x1)] → W p l e R s m args below meth c H locs 0 0 Q (F0 m 109 ls []) := by
    intro σ h0 x1 H locs ls hS h hl
    refine lv_lload_n hx hb dX12_readLine_109 rfl (lv_at hl 1 rfl) ?_
    refine lv_ldc2 hx hb hown (hts _ qc_RX12_173) dX12_readLine_110 ?_
    refine W.lcmp hx hb dX12_readLine_113 ?_
    refine ez_top h (fun t_113 h => ?_)
    refine lv_if_ne (tgt := 121) hx hb dX12_readLine_114 (by decide) (fun c_114 => ?_) (fun c_114 => ?_)
    · replace h := ez_ifn h c_114
      exact K_121  σ h0 x1 _ _ _ hS h (lv_sub hl [0, 1] rfl)
    · replace h := ez_ifp h c_114
      refine lv_aload_n hx hb dX12_readLine_117 rfl (lv_at hl 0 rfl) ?_
      refine ez_cVv (As := []) (rest := []) h (fun _ q => c_X12_readKey q) hC k_X12_readKey ql_RX12_296 rfl (by decide) hS (fun _ q => ez_rcv q) rfl hl.1 rfl (Nat.le_of_ble_eq_true rfl) ⟨Nat.zero_le _, Nat.zero_le _⟩ dX12_readLine_118 (fun _ σ H locs hS h => ?_)
      exact K_121  σ h0 x1 _ _ _ hS h (lv_sub hl [0, 1] rfl)
  have K_85 : ∀ (σ : ez_H) (h0 : Nat) (x1 : Int64) (H : Heap) (locs : List Loc) (ls : Array Slot), ez_S X B s.heap (σ0.length) σ H locs → z_X12_readLine_85 σ h0 x1 = some z → lv_has ls 3 [(0, .ref (B + h0)), (1, .long x1)] → W p l e R s m args below meth c H locs 0 0 Q (F0 m 85 ls []) := by
    intro σ h0 x1 H locs ls hS h hl
    refine lv_lload_n hx hb dX12_readLine_85 rfl (lv_at hl 1 rfl) ?_
    refine lv_ldc2 hx hb hown (hts _ qc_RX12_171) dX12_readLine_86 ?_
    refine W.lcmp hx hb dX12_readLine_89 ?_
    refine ez_top h (fun t_89 h => ?_)
    refine lv_if_ne (tgt := 109) hx hb dX12_readLine_90 (by decide) (fun c_90 => ?_) (fun c_90 => ?_)
    · replace h := ez_ifn h c_90
      exact K_109  σ h0 x1 _ _ _ hS h (lv_sub hl [0, 1] rfl)
    · replace h := ez_ifp h c_90
      refine lv_aload_n hx hb dX12_readLine_93 rfl (lv_at hl 0 rfl) ?_
      refine eg_RX12_27 hC hS h dX12_readLine_94 (fun t_94 h => ?_)
      refine lv_aload_n hx hb dX12_readLine_97 rfl (lv_at hl 0 rfl) ?_
      refine eg_RX12_265 hC hS h dX12_readLine_98 (fun t_98 h => ?_)
      refine lv_aload_n hx hb dX12_readLine_101 rfl (lv_at hl 0 rfl) ?_
      refine lv_iconst (v := 2) hx hb dX12_readLine_102 (by decide) ?_
      refine lv_iconst (v := 0) hx hb dX12_readLine_103 (by decide) ?_
      refine lv_iconst (v := 5) hx hb dX12_readLine_104 (by decide) ?_
      refine ez_cVi (As := [.int 2, .int 0, .int 5]) (rest := [.int t_98, .ref (B + t_94)]) h (fun _ q => c_X12_once q) hC k_X12_once ql_RX12_293 rfl (by decide) hS (fun _ q => ez_rcv q) rfl hl.1 rfl (Nat.le_of_ble_eq_true rfl) ⟨Nat.zero_le _, Nat.zero_le _⟩ dX12_readLine_105 (fun t_105 σ H locs hS h => ?_)
      refine ez_ias hC hS h dX12_readLine_108 (fun σ H locs hS h => ?_)
      exact K_109  σ h0 x1 _ _ _ hS h (lv_sub hl [0, 1] rfl)
  have K_60 : ∀ (σ : ez_H) (h0 : Nat) (x1 : Int64) (H : Heap) (locs : List Loc) (ls : Array Slot), ez_S X B s.heap (σ0.length) σ H locs → z_X12_readLine_60 σ h0 x1 = some z → lv_has ls 3 [(0, .ref (B + h0)), (1, .long x1)] → W p l e R s m args below meth c H locs 0 0 Q (F0 m 60 ls []) := by
    intro σ h0 x1 H locs ls hS h hl
    refine lv_lload_n hx hb dX12_readLine_60 rfl (lv_at hl 1 rfl) ?_
    refine lv_ldc2 hx hb hown (hts _ qc_RX12_169) dX12_readLine_61 ?_
    refine W.lcmp hx hb dX12_readLine_64 ?_
    refine ez_top h (fun t_64 h => ?_)
    refine lv_if_ne (tgt := 85) hx hb dX12_readLine_65 (by decide) (fun c_65 => ?_) (fun c_65 => ?_)
    · replace h := ez_ifn h c_65
      exact K_85  σ h0 x1 _ _ _ hS h (lv_sub hl [0, 1] rfl)
    · replace h := ez_ifp h c_65
      refine lv_aload_n hx hb dX12_readLine_68 rfl (lv_at hl 0 rfl) ?_
      refine eg_RX12_24 hC hS h dX12_readLine_69 (fun t_69 h => ?_)
      refine lv_aload_n hx hb dX12_readLine_72 rfl (lv_at hl 0 rfl) ?_
      refine eg_RX12_265 hC hS h dX12_readLine_73 (fun t_73 h => ?_)
      refine lv_aload_n hx hb dX12_readLine_76 rfl (lv_at hl 0 rfl) ?_
      refine lv_iconst (v := 1) hx hb dX12_readLine_77 (by decide) ?_
      refine lv_iconst (v := 2) hx hb dX12_readLine_78 (by decide) ?_
      refine lv_bipush (v := 6) hx hb dX12_readLine_79 (by decide) ?_
      refine ez_cVi (As := [.int 1, .int 2, .int 6]) (rest := [.int t_73, .ref (B + t_69)]) h (fun _ q => c_X12_once q) hC k_X12_once ql_RX12_293 rfl (by decide) hS (fun _ q => ez_rcv q) rfl hl.1 rfl (Nat.le_of_ble_eq_true rfl) ⟨Nat.zero_le _, Nat.zero_le _⟩ dX12_readLine_81 (fun t_81 σ H locs hS h => ?_)
      refine ez_ias hC hS h dX12_readLine_84 (fun σ H locs hS h => ?_)
      exact K_85  σ h0 x1 _ _ _ hS h (lv_sub hl [0, 1] rfl)
  have K_24 : ∀ (σ : ez_H) (h0 : Nat) (x1 : Int64) (H : Heap) (locs : List Loc) (ls : Array Slot), ez_S X B s.heap (σ0.length) σ H locs → z_X12_readLine_24 σ h0 x1 = some z → lv_has ls 3 [(0, .ref (B + h0)), (1, .long x1)] → W p l e R s m args below meth c H locs 0 0 Q (F0 m 24 ls []) := by
    intro σ h0 x1 H locs ls hS h hl
    refine lv_aload_n hx hb dX12_readLine_24 rfl (lv_at hl 0 rfl) ?_
    refine ez_cVpi (As := []) (rest := []) h (fun _ q => c_X12_isGood q) hC k_X12_isGood ql_RX12_251 rfl (by decide) hS (fun _ q => ez_rcv q) rfl hl.1 rfl (Nat.le_of_ble_eq_true rfl) ⟨Nat.zero_le _, Nat.zero_le _⟩ dX12_readLine_25 (fun t_25 H locs hS h => ?_)
    refine lv_if_ne (tgt := 32) hx hb dX12_readLine_28 (by decide) (fun c_28 => ?_) (fun c_28 => ?_)
    · replace h := ez_ifn h c_28
      refine lv_aload_n hx hb dX12_readLine_32 rfl (lv_at hl 0 rfl) ?_
      refine ez_cVv (As := []) (rest := []) h (fun _ q => c_X12_goOn q) hC k_X12_goOn ql_RX12_255 rfl (by decide) hS (fun _ q => ez_rcv q) rfl hl.1 rfl (Nat.le_of_ble_eq_true rfl) ⟨Nat.zero_le _, Nat.zero_le _⟩ dX12_readLine_33 (fun _ σ H locs hS h => ?_)
      refine lv_lload_n hx hb dX12_readLine_36 rfl (lv_at hl 1 rfl) ?_
      refine lv_ldc2 hx hb hown (hts _ qc_RX12_167) dX12_readLine_37 ?_
      refine W.lcmp hx hb dX12_readLine_40 ?_
      refine ez_top h (fun t_40 h => ?_)
      refine lv_if_ne (tgt := 60) hx hb dX12_readLine_41 (by decide) (fun c_41 => ?_) (fun c_41 => ?_)
      · replace h := ez_ifn h c_41
        exact K_60  σ h0 x1 _ _ _ hS h (lv_sub hl [0, 1] rfl)
      · replace h := ez_ifp h c_41
        refine lv_aload_n hx hb dX12_readLine_44 rfl (lv_at hl 0 rfl) ?_
        refine eg_RX12_20 hC hS h dX12_readLine_45 (fun t_45 h => ?_)
        refine lv_aload_n hx hb dX12_readLine_48 rfl (lv_at hl 0 rfl) ?_
        refine eg_RX12_265 hC hS h dX12_readLine_49 (fun t_49 h => ?_)
        refine lv_aload_n hx hb dX12_readLine_52 rfl (lv_at hl 0 rfl) ?_
        refine lv_iconst (v := 0) hx hb dX12_readLine_53 (by decide) ?_
        refine lv_iconst (v := 2) hx hb dX12_readLine_54 (by decide) ?_
        refine lv_iconst (v := 5) hx hb dX12_readLine_55 (by decide) ?_
        refine ez_cVi (As := [.int 0, .int 2, .int 5]) (rest := [.int t_49, .ref (B + t_45)]) h (fun _ q => c_X12_once q) hC k_X12_once ql_RX12_293 rfl (by decide) hS (fun _ q => ez_rcv q) rfl hl.1 rfl (Nat.le_of_ble_eq_true rfl) ⟨Nat.zero_le _, Nat.zero_le _⟩ dX12_readLine_56 (fun t_56 σ H locs hS h => ?_)
        refine ez_ias hC hS h dX12_readLine_59 (fun σ H locs hS h => ?_)
        exact K_60  σ h0 x1 _ _ _ hS h (lv_sub hl [0, 1] rfl)
    · replace h := ez_ifp h c_28
      exact hret _ _ _ _ _ _ (Option.some.inj h) hS dX12_readLine_31
  have K_20 : ∀ (σ : ez_H) (h0 : Nat) (x1 : Int64) (H : Heap) (locs : List Loc) (ls : Array Slot), ez_S X B s.heap (σ0.length) σ H locs → z_X12_readLine_20 σ h0 x1 = some z → lv_has ls 3 [(0, .ref (B + h0)), (1, .long x1)] → W p l e R s m args below meth c H locs 0 0 Q (F0 m 20 ls []) := by
    intro σ h0 x1 H locs ls hS h hl
    refine lv_aload_n hx hb dX12_readLine_20 rfl (lv_at hl 0 rfl) ?_
    refine ez_cVv (As := []) (rest := []) h (fun _ q => c_X12_misplaced q) hC k_X12_misplaced ql_RX12_258 rfl (by decide) hS (fun _ q => ez_rcv q) rfl hl.1 rfl (Nat.le_of_ble_eq_true rfl) ⟨Nat.zero_le _, Nat.zero_le _⟩ dX12_readLine_21 (fun _ σ H locs hS h => ?_)
    exact K_24  σ h0 x1 _ _ _ hS h (lv_sub hl [0, 1] rfl)
  refine lv_aload_n hx hb dX12_readLine_0 rfl (lv_at hl 0 rfl) ?_
  refine eg_RX12_230 hC hS h dX12_readLine_1 (fun t_1 h => ?_)
  refine lv_lstore_n (lv' := [(1, .long t_1), (0, .ref (B + h0))]) hx hb dX12_readLine_4 rfl hl (by decide) rfl (fun ls hl => ?_)
  refine lv_aload_n hx hb dX12_readLine_5 rfl (lv_at hl 1 rfl) ?_
  refine eg_RX12_223 hC hS h dX12_readLine_6 (fun t_6 h => ?_)
  refine lv_iconst (v := 3) hx hb dX12_readLine_9 (by decide) ?_
  refine lv_icmp_ne (tgt := 20) hx hb dX12_readLine_10 (by decide) (fun c_10 => ?_) (fun c_10 => ?_)
  · replace h := ez_ifn h c_10
    exact K_20  σ h0 t_1 _ _ _ hS h (lv_sub hl [1, 0] rfl)
  · replace h := ez_ifp h c_10
    refine lv_aload_n hx hb dX12_readLine_13 rfl (lv_at hl 1 rfl) ?_
    refine ez_cVpi (As := []) (rest := []) h (fun _ q => c_X12_isFull q) hC k_X12_isFull ql_RX12_290 rfl (by decide) hS (fun _ q => ez_rcv q) rfl hl.1 rfl (Nat.le_of_ble_eq_true rfl) ⟨Nat.zero_le _, Nat.zero_le _⟩ dX12_readLine_14 (fun t_14 H locs hS h => ?_)
    refine lv_if_eq (tgt := 24) hx hb dX12_readLine_17 (by decide) (fun c_17 => ?_) (fun c_17 => ?_)
    · replace h := ez_ifp h c_17
      exact K_24  σ h0 t_1 _ _ _ hS h (lv_sub hl [1, 0] rfl)
    · replace h := ez_ifn h c_17
      exact K_20  σ h0 t_1 _ _ _ hS h (lv_sub hl [1, 0] rfl)
set_option maxHeartbeats 4000000 in
set_option maxRecDepth 100000 in
theorem c_X12_plan {l : Launch} {X : ez_X} {B : Nat} {σ : ez_H} {h0 : Nat} {z : Int32 × ez_H} (h : z_X12_plan σ h0 = some z) : ez_M l X B σ yX12_plan cX12_plan 2 (some .int) 7 [.ref (B + h0)] (some (.int z.1)) z.2 := by
  refine ez_starti (z := z) (by decide) (Nat.le_of_ble_eq_true rfl) (fun p e R s m args below meth c Q hC hret hS ls hl => ?_)
  have hC : ez_C p R s m args c X B RX12 cX12_plan 2 7 := hC
  have hx := hC.1.1
  have hb := hC.1.2.1
  have hown := hC.1.2.2.2.1
  have hts := hC.1.2.2.2.2
  have hl : lv_has ls 2 [(0, .ref (B + h0))] := hl
  obtain ⟨σ0, eσ⟩ : ∃ σ0 : ez_H, σ0 = σ := ⟨_, rfl⟩
  rw [← eσ] at hret
  have hS : ez_S X B s.heap σ0.length σ s.heap [] := eσ ▸ hS
  obtain ⟨-, h⟩ := ez_in h
  have K_95 : ∀ (σ : ez_H) (h0 : Nat) (H : Heap) (locs : List Loc) (ls : Array Slot), ez_S X B s.heap (σ0.length) σ H locs → z_X12_plan_95 σ h0 = some z → lv_has ls 2 [(0, .ref (B + h0))] → W p l e R s m args below meth c H locs 0 0 Q (F0 m 95 ls []) := by
    intro σ h0 H locs ls hS h hl
    refine lv_aload_n hx hb dX12_plan_95 rfl (lv_at hl 0 rfl) ?_
    refine ez_cVpi (As := []) (rest := []) h (fun _ q => c_X12_isGood q) hC k_X12_isGood ql_RX12_251 rfl (by decide) hS (fun _ q => ez_rcv q) rfl hl.1 rfl (Nat.le_of_ble_eq_true rfl) ⟨Nat.zero_le _, Nat.zero_le _⟩ dX12_plan_96 (fun t_96 H locs hS h => ?_)
    refine lv_if_ne (tgt := 104) hx hb dX12_plan_99 (by decide) (fun c_99 => ?_) (fun c_99 => ?_)
    · replace h := ez_ifn h c_99
      refine lv_aload_n hx hb dX12_plan_104 rfl (lv_at hl 0 rfl) ?_
      refine lv_aload_n hx hb dX12_plan_105 rfl (lv_at hl 0 rfl) ?_
      refine eg_RX12_265 hC hS h dX12_plan_106 (fun t_106 h => ?_)
      refine ep_RX12_274 hC hS h dX12_plan_109 (fun σ H locs hS h => ?_)
      refine lv_aload_n hx hb dX12_plan_112 rfl (lv_at hl 0 rfl) ?_
      refine ez_cVv (As := []) (rest := []) h (fun _ q => c_X12_startAnew q) hC k_X12_startAnew ql_RX12_158 rfl (by decide) hS (fun _ q => ez_rcv q) rfl hl.1 rfl (Nat.le_of_ble_eq_true rfl) ⟨Nat.zero_le _, Nat.zero_le _⟩ dX12_plan_113 (fun _ σ H locs hS h => ?_)
      refine lv_aload_n hx hb dX12_plan_116 rfl (lv_at hl 0 rfl) ?_
      refine eg_RX12_30 hC hS h dX12_plan_117 (fun t_117 h => ?_)
      refine lv_aload_n hx hb dX12_plan_120 rfl (lv_at hl 0 rfl) ?_
      refine eg_RX12_274 hC hS h dX12_plan_121 (fun t_121 h => ?_)
      refine ez_ial hC hS h dX12_plan_124 (fun t_124 h => ?_)
      exact hret _ _ _ _ _ _ (Option.some.inj h) rfl hS dX12_plan_125
    · replace h := ez_ifp h c_99
      refine lv_iconst (v := -1) hx hb dX12_plan_102 (by decide) ?_
      exact hret _ _ _ _ _ _ (Option.some.inj h) rfl hS dX12_plan_103
  have K_74 : ∀ (k_74 : ez_H → Nat → Option (Int32 × ez_H)) (hk_74 : ∀ (σ : ez_H) (h0 : Nat) (H : Heap) (locs : List Loc) (ls : Array Slot), ez_S X B s.heap (σ0.length) σ H locs → k_74 σ h0 = some z → lv_has ls 2 [(0, .ref (B + h0))] → W p l e R s m args below meth c H locs 0 0 Q (F0 m 74 ls [])), ∀ (σ : ez_H) (h0 : Nat) (H : Heap) (locs : List Loc) (ls : Array Slot), ez_S X B s.heap (σ0.length) σ H locs → z_X12_plan_74 k_74 σ h0 = some z → lv_has ls 2 [(0, .ref (B + h0))] → W p l e R s m args below meth c H locs 0 0 Q (F0 m 74 ls []) := by
    intro k_74 hk_74 σ h0 H locs ls hS h hl
    refine lv_aload_n hx hb dX12_plan_74 rfl (lv_at hl 0 rfl) ?_
    refine ez_cVpi (As := []) (rest := []) h (fun _ q => c_X12_isGood q) hC k_X12_isGood ql_RX12_251 rfl (by decide) hS (fun _ q => ez_rcv q) rfl hl.1 rfl (Nat.le_of_ble_eq_true rfl) ⟨Nat.zero_le _, Nat.zero_le _⟩ dX12_plan_75 (fun t_75 H locs hS h => ?_)
    refine lv_if_eq (tgt := 95) hx hb dX12_plan_78 (by decide) (fun c_78 => ?_) (fun c_78 => ?_)
    · replace h := ez_ifp h c_78
      exact K_95  σ h0 _ _ _ hS h (lv_sub hl [0] rfl)
    · replace h := ez_ifn h c_78
      refine lv_aload_n hx hb dX12_plan_81 rfl (lv_at hl 0 rfl) ?_
      refine eg_RX12_223 hC hS h dX12_plan_82 (fun t_82 h => ?_)
      refine lv_if_eq (tgt := 95) hx hb dX12_plan_85 (by decide) (fun c_85 => ?_) (fun c_85 => ?_)
      · replace h := ez_ifp h c_85
        exact K_95  σ h0 _ _ _ hS h (lv_sub hl [0] rfl)
      · replace h := ez_ifn h c_85
        refine lv_aload_n hx hb dX12_plan_88 rfl (lv_at hl 0 rfl) ?_
        refine ez_cVv (As := []) (rest := []) h (fun _ q => c_X12_readLine q) hC k_X12_readLine ql_RX12_277 rfl (by decide) hS (fun _ q => ez_rcv q) rfl hl.1 rfl (Nat.le_of_ble_eq_true rfl) ⟨Nat.zero_le _, Nat.zero_le _⟩ dX12_plan_89 (fun _ σ H locs hS h => ?_)
        refine lv_goto (tgt := 74) hx hb dX12_plan_92 (by decide) ?_
        exact hk_74 σ h0 _ _ _ hS h (lv_sub hl [0] rfl)
  have E_74 : ∀ (σ : ez_H) (h0 : Nat) (H : Heap) (locs : List Loc) (ls : Array Slot), ez_S X B s.heap (σ0.length) σ H locs → (ez_fix (fun _ _ => none) (z_X12_plan_74) ez_N) σ h0 = some z → lv_has ls 2 [(0, .ref (B + h0))] → W p l e R s m args below meth c H locs 0 0 Q (F0 m 74 ls []) := ez_fix_ind (fun k_74 : ez_H → Nat → Option (Int32 × ez_H) => ∀ (σ : ez_H) (h0 : Nat) (H : Heap) (locs : List Loc) (ls : Array Slot), ez_S X B s.heap (σ0.length) σ H locs → k_74 σ h0 = some z → lv_has ls 2 [(0, .ref (B + h0))] → W p l e R s m args below meth c H locs 0 0 Q (F0 m 74 ls [])) (fun _ _ _ _ _ _ h _ => by cases h) (fun k_74 hk_74 => K_74 k_74 hk_74) ez_N
  have K_20 : ∀ (k_20 : ez_H → Nat → Int32 → Option (Int32 × ez_H)) (hk_20 : ∀ (σ : ez_H) (h0 : Nat) (x1 : Int32) (H : Heap) (locs : List Loc) (ls : Array Slot), ez_S X B s.heap (σ0.length) σ H locs → k_20 σ h0 x1 = some z → lv_has ls 2 [(0, .ref (B + h0)), (1, .int x1)] → W p l e R s m args below meth c H locs 0 0 Q (F0 m 20 ls [])), ∀ (σ : ez_H) (h0 : Nat) (x1 : Int32) (H : Heap) (locs : List Loc) (ls : Array Slot), ez_S X B s.heap (σ0.length) σ H locs → z_X12_plan_20 k_20 σ h0 x1 = some z → lv_has ls 2 [(0, .ref (B + h0)), (1, .int x1)] → W p l e R s m args below meth c H locs 0 0 Q (F0 m 20 ls []) := by
    intro k_20 hk_20 σ h0 x1 H locs ls hS h hl
    refine lv_iload_n hx hb dX12_plan_20 rfl (lv_at hl 1 rfl) ?_
    refine lv_aload_n hx hb dX12_plan_21 rfl (lv_at hl 0 rfl) ?_
    refine eg_RX12_161 hC hS h dX12_plan_22 (fun t_22 h => ?_)
    refine lv_icmp_ge (tgt := 46) hx hb dX12_plan_25 (by decide) (fun c_25 => ?_) (fun c_25 => ?_)
    · replace h := ez_ifp h c_25
      refine lv_aload_n hx hb dX12_plan_46 rfl (lv_at hl 0 rfl) ?_
      refine lv_iconst (v := 0) hx hb dX12_plan_47 (by decide) ?_
      refine ep_RX12_271 hC hS h dX12_plan_48 (fun σ H locs hS h => ?_)
      refine lv_aload_n hx hb dX12_plan_51 rfl (lv_at hl 0 rfl) ?_
      refine lv_iconst (v := 0) hx hb dX12_plan_52 (by decide) ?_
      refine ep_RX12_213 hC hS h dX12_plan_53 (fun σ H locs hS h => ?_)
      refine lv_aload_n hx hb dX12_plan_56 rfl (lv_at hl 0 rfl) ?_
      refine lv_iconst (v := 1) hx hb dX12_plan_57 (by decide) ?_
      refine lv_aload_n hx hb dX12_plan_58 rfl (lv_at hl 0 rfl) ?_
      refine eg_RX12_274 hC hS h dX12_plan_59 (fun t_59 h => ?_)
      refine lv_isub hx hb dX12_plan_62 ?_
      refine ez_top h (fun t_62 h => ?_)
      refine ep_RX12_265 hC hS h dX12_plan_63 (fun σ H locs hS h => ?_)
      refine lv_aload_n hx hb dX12_plan_66 rfl (lv_at hl 0 rfl) ?_
      refine ez_cVv (As := []) (rest := []) h (fun _ q => c_X12_clearBank q) hC k_X12_clearBank ql_RX12_155 rfl (by decide) hS (fun _ q => ez_rcv q) rfl hl.1 rfl (Nat.le_of_ble_eq_true rfl) ⟨Nat.zero_le _, Nat.zero_le _⟩ dX12_plan_67 (fun _ σ H locs hS h => ?_)
      refine lv_aload_n hx hb dX12_plan_70 rfl (lv_at hl 0 rfl) ?_
      refine ez_cVv (As := []) (rest := []) h (fun _ q => c_X12_goOn q) hC k_X12_goOn ql_RX12_255 rfl (by decide) hS (fun _ q => ez_rcv q) rfl hl.1 rfl (Nat.le_of_ble_eq_true rfl) ⟨Nat.zero_le _, Nat.zero_le _⟩ dX12_plan_71 (fun _ σ H locs hS h => ?_)
      exact E_74  σ h0 _ _ _ hS h (lv_sub hl [0] rfl)
    · replace h := ez_ifn h c_25
      refine lv_aload_n hx hb dX12_plan_28 rfl (lv_at hl 0 rfl) ?_
      refine eg_RX12_13 hC hS h dX12_plan_29 (fun t_29 h => ?_)
      refine lv_iload_n hx hb dX12_plan_32 rfl (lv_at hl 1 rfl) ?_
      refine lv_aload_n hx hb dX12_plan_33 rfl (lv_at hl 0 rfl) ?_
      refine eg_RX12_7 hC hS h dX12_plan_34 (fun t_34 h => ?_)
      refine lv_iload_n hx hb dX12_plan_37 rfl (lv_at hl 1 rfl) ?_
      refine ez_bal hC hS h dX12_plan_38 (fun t_38 h => ?_)
      refine ez_bas hC hS h dX12_plan_39 (fun σ H locs hS h => ?_)
      obtain ⟨t_40, e_40, h⟩ := ez_let_sp h
      refine lv_iinc (v := t_40) (lv' := [(1, .int t_40), (0, .ref (B + h0))]) hx hb dX12_plan_40 hl (k := 1) rfl (by rw [e_40]; rfl) (by decide) rfl (fun ls hl => ?_)
      refine lv_goto (tgt := 20) hx hb dX12_plan_43 (by decide) ?_
      exact hk_20 σ h0 t_40 _ _ _ hS h (lv_sub hl [1, 0] rfl)
  have E_20 : ∀ (σ : ez_H) (h0 : Nat) (x1 : Int32) (H : Heap) (locs : List Loc) (ls : Array Slot), ez_S X B s.heap (σ0.length) σ H locs → (ez_fix (fun _ _ _ => none) (z_X12_plan_20) ez_N) σ h0 x1 = some z → lv_has ls 2 [(0, .ref (B + h0)), (1, .int x1)] → W p l e R s m args below meth c H locs 0 0 Q (F0 m 20 ls []) := ez_fix_ind (fun k_20 : ez_H → Nat → Int32 → Option (Int32 × ez_H) => ∀ (σ : ez_H) (h0 : Nat) (x1 : Int32) (H : Heap) (locs : List Loc) (ls : Array Slot), ez_S X B s.heap (σ0.length) σ H locs → k_20 σ h0 x1 = some z → lv_has ls 2 [(0, .ref (B + h0)), (1, .int x1)] → W p l e R s m args below meth c H locs 0 0 Q (F0 m 20 ls [])) (fun _ _ _ _ _ _ _ h _ => by cases h) (fun k_20 hk_20 => K_20 k_20 hk_20) ez_N
  refine lv_aload_n hx hb dX12_plan_0 rfl (lv_at hl 0 rfl) ?_
  refine lv_iconst (v := 0) hx hb dX12_plan_1 (by decide) ?_
  refine ep_RX12_164 hC hS h dX12_plan_2 (fun σ H locs hS h => ?_)
  refine lv_aload_n hx hb dX12_plan_5 rfl (lv_at hl 0 rfl) ?_
  refine lv_iconst (v := -1) hx hb dX12_plan_6 (by decide) ?_
  refine ep_RX12_16 hC hS h dX12_plan_7 (fun σ H locs hS h => ?_)
  refine lv_aload_n hx hb dX12_plan_10 rfl (lv_at hl 0 rfl) ?_
  refine lv_aload_n hx hb dX12_plan_11 rfl (lv_at hl 0 rfl) ?_
  refine eg_RX12_271 hC hS h dX12_plan_12 (fun t_12 h => ?_)
  refine ep_RX12_161 hC hS h dX12_plan_15 (fun σ H locs hS h => ?_)
  refine lv_iconst (v := 0) hx hb dX12_plan_18 (by decide) ?_
  refine lv_istore_n (lv' := [(1, .int 0), (0, .ref (B + h0))]) hx hb dX12_plan_19 rfl hl (by decide) rfl (fun ls hl => ?_)
  exact E_20  σ h0 (0 : Int32) _ _ _ hS h (lv_sub hl [1, 0] rfl)
set_option maxHeartbeats 4000000 in
set_option maxRecDepth 100000 in
theorem c_X12_rank {l : Launch} {X : ez_X} {B : Nat} {σ : ez_H} {h0 : Nat} {x1 : Int32} {z : Int32} (h : z_X12_rank σ h0 x1 = some z) : ez_M l X B σ yX12_rank cX12_rank 4 (some .int) 3 [.ref (B + h0), .int x1] (some (.int z)) σ := by
  refine ez_startip (z := z) (by decide) (Nat.le_of_ble_eq_true rfl) (fun p e R s m args below meth c Q hC hret hS ls hl => ?_)
  have hC : ez_C p R s m args c X B RX12 cX12_rank 4 3 := hC
  have hx := hC.1.1
  have hb := hC.1.2.1
  have hown := hC.1.2.2.2.1
  have hts := hC.1.2.2.2.2
  have hl : lv_has ls 4 [(0, .ref (B + h0)), (1, .int x1)] := hl
  obtain ⟨n0, e0⟩ : ∃ n0 : Nat, n0 = σ.length := ⟨_, rfl⟩
  rw [← e0] at hret hS
  obtain ⟨-, h⟩ := ez_in h
  have K_30 : ∀ (k_14 : Nat → Int32 → Int32 → Int32 → Option (Int32)) (hk_14 : ∀ (h0 : Nat) (x1 : Int32) (x2 : Int32) (x3 : Int32) (H : Heap) (locs : List Loc) (ls : Array Slot), ez_S X B s.heap (n0) σ H locs → k_14 h0 x1 x2 x3 = some z → lv_has ls 4 [(0, .ref (B + h0)), (1, .int x1), (2, .int x2), (3, .int x3)] → W p l e R s m args below meth c H locs 0 0 Q (F0 m 14 ls [])), ∀ (h0 : Nat) (x1 : Int32) (x2 : Int32) (x3 : Int32) (H : Heap) (locs : List Loc) (ls : Array Slot), ez_S X B s.heap (n0) σ H locs → z_X12_rank_30 σ k_14 h0 x1 x2 x3 = some z → lv_has ls 4 [(0, .ref (B + h0)), (1, .int x1), (2, .int x2), (3, .int x3)] → W p l e R s m args below meth c H locs 0 0 Q (F0 m 30 ls []) := by
    intro k_14 hk_14 h0 x1 x2 x3 H locs ls hS h hl
    obtain ⟨t_30, e_30, h⟩ := ez_let_sp h
    refine lv_iinc (v := t_30) (lv' := [(3, .int t_30), (0, .ref (B + h0)), (1, .int x1), (2, .int x2)]) hx hb dX12_rank_30 hl (k := 3) rfl (by rw [e_30]; rfl) (by decide) rfl (fun ls hl => ?_)
    refine lv_goto (tgt := 14) hx hb dX12_rank_33 (by decide) ?_
    exact hk_14 h0 x1 x2 t_30 _ _ _ hS h (lv_sub hl [1, 2, 3, 0] rfl)
  have K_14 : ∀ (k_14 : Nat → Int32 → Int32 → Int32 → Option (Int32)) (hk_14 : ∀ (h0 : Nat) (x1 : Int32) (x2 : Int32) (x3 : Int32) (H : Heap) (locs : List Loc) (ls : Array Slot), ez_S X B s.heap (n0) σ H locs → k_14 h0 x1 x2 x3 = some z → lv_has ls 4 [(0, .ref (B + h0)), (1, .int x1), (2, .int x2), (3, .int x3)] → W p l e R s m args below meth c H locs 0 0 Q (F0 m 14 ls [])), ∀ (h0 : Nat) (x1 : Int32) (x2 : Int32) (x3 : Int32) (H : Heap) (locs : List Loc) (ls : Array Slot), ez_S X B s.heap (n0) σ H locs → z_X12_rank_14 σ k_14 h0 x1 x2 x3 = some z → lv_has ls 4 [(0, .ref (B + h0)), (1, .int x1), (2, .int x2), (3, .int x3)] → W p l e R s m args below meth c H locs 0 0 Q (F0 m 14 ls []) := by
    intro k_14 hk_14 h0 x1 x2 x3 H locs ls hS h hl
    refine lv_iload_n hx hb dX12_rank_14 rfl (lv_at hl 3 rfl) ?_
    refine lv_iload_n hx hb dX12_rank_15 rfl (lv_at hl 1 rfl) ?_
    refine lv_icmp_ge (tgt := 36) hx hb dX12_rank_16 (by decide) (fun c_16 => ?_) (fun c_16 => ?_)
    · replace h := ez_ifp h c_16
      refine lv_iload_n hx hb dX12_rank_36 rfl (lv_at hl 2 rfl) ?_
      exact hret _ _ _ _ _ (Option.some.inj h) rfl hS dX12_rank_37
    · replace h := ez_ifn h c_16
      refine lv_aload_n hx hb dX12_rank_19 rfl (lv_at hl 0 rfl) ?_
      refine lv_iload_n hx hb dX12_rank_20 rfl (lv_at hl 3 rfl) ?_
      refine ez_cVpi (As := [.int x3]) (rest := []) h (fun _ q => c_X12_isLegal q) hC k_X12_isLegal ql_RX12_456 rfl (by decide) hS (fun _ q => ez_rcv q) rfl hl.1 rfl (Nat.le_of_ble_eq_true rfl) ⟨Nat.zero_le _, Nat.zero_le _⟩ dX12_rank_21 (fun t_21 H locs hS h => ?_)
      refine lv_if_eq (tgt := 30) hx hb dX12_rank_24 (by decide) (fun c_24 => ?_) (fun c_24 => ?_)
      · replace h := ez_ifp h c_24
        exact K_30 k_14 hk_14 h0 x1 x2 x3 _ _ _ hS h (lv_sub hl [0, 1, 2, 3] rfl)
      · replace h := ez_ifn h c_24
        obtain ⟨t_27, e_27, h⟩ := ez_let_sp h
        refine lv_iinc (v := t_27) (lv' := [(2, .int t_27), (0, .ref (B + h0)), (1, .int x1), (3, .int x3)]) hx hb dX12_rank_27 hl (k := 2) rfl (by rw [e_27]; rfl) (by decide) rfl (fun ls hl => ?_)
        exact K_30 k_14 hk_14 h0 x1 t_27 x3 _ _ _ hS h (lv_sub hl [1, 2, 0, 3] rfl)
  have E_14 : ∀ (h0 : Nat) (x1 : Int32) (x2 : Int32) (x3 : Int32) (H : Heap) (locs : List Loc) (ls : Array Slot), ez_S X B s.heap (n0) σ H locs → (ez_fix (fun _ _ _ _ => none) (z_X12_rank_14 σ) ez_N) h0 x1 x2 x3 = some z → lv_has ls 4 [(0, .ref (B + h0)), (1, .int x1), (2, .int x2), (3, .int x3)] → W p l e R s m args below meth c H locs 0 0 Q (F0 m 14 ls []) := ez_fix_ind (fun k_14 : Nat → Int32 → Int32 → Int32 → Option (Int32) => ∀ (h0 : Nat) (x1 : Int32) (x2 : Int32) (x3 : Int32) (H : Heap) (locs : List Loc) (ls : Array Slot), ez_S X B s.heap (n0) σ H locs → k_14 h0 x1 x2 x3 = some z → lv_has ls 4 [(0, .ref (B + h0)), (1, .int x1), (2, .int x2), (3, .int x3)] → W p l e R s m args below meth c H locs 0 0 Q (F0 m 14 ls [])) (fun _ _ _ _ _ _ _ _ h _ => by cases h) (fun k_14 hk_14 => K_14 k_14 hk_14) ez_N
  refine lv_aload_n hx hb dX12_rank_0 rfl (lv_at hl 0 rfl) ?_
  refine lv_iload_n hx hb dX12_rank_1 rfl (lv_at hl 1 rfl) ?_
  refine ez_cVpi (As := [.int x1]) (rest := []) h (fun _ q => c_X12_isLegal q) hC k_X12_isLegal ql_RX12_456 rfl (by decide) hS (fun _ q => ez_rcv q) rfl hl.1 rfl (Nat.le_of_ble_eq_true rfl) ⟨Nat.zero_le _, Nat.zero_le _⟩ dX12_rank_2 (fun t_2 H locs hS h => ?_)
  refine lv_if_ne (tgt := 10) hx hb dX12_rank_5 (by decide) (fun c_5 => ?_) (fun c_5 => ?_)
  · replace h := ez_ifn h c_5
    refine lv_iconst (v := 0) hx hb dX12_rank_10 (by decide) ?_
    refine lv_istore_n (lv' := [(2, .int 0), (0, .ref (B + h0)), (1, .int x1)]) hx hb dX12_rank_11 rfl hl (by decide) rfl (fun ls hl => ?_)
    refine lv_iconst (v := 0) hx hb dX12_rank_12 (by decide) ?_
    refine lv_istore_n (lv' := [(3, .int 0), (2, .int 0), (0, .ref (B + h0)), (1, .int x1)]) hx hb dX12_rank_13 rfl hl (by decide) rfl (fun ls hl => ?_)
    exact E_14  h0 x1 (0 : Int32) (0 : Int32) _ _ _ hS h (lv_sub hl [2, 3, 1, 0] rfl)
  · replace h := ez_ifp h c_5
    refine lv_iconst (v := -1) hx hb dX12_rank_8 (by decide) ?_
    exact hret _ _ _ _ _ (Option.some.inj h) rfl hS dX12_rank_9
set_option maxHeartbeats 4000000 in
set_option maxRecDepth 100000 in
theorem c_X12_recut {l : Launch} {X : ez_X} {B : Nat} {σ : ez_H} {h0 : Nat} {x1 : Int32} {x2 : Int32} {z : Int32 × ez_H} (h : z_X12_recut σ h0 x1 x2 = some z) : ez_M l X B σ yX12_recut cX12_recut 4 (some .int) 3 [.ref (B + h0), .int x1, .int x2] (some (.int z.1)) z.2 := by
  refine ez_starti (z := z) (by decide) (Nat.le_of_ble_eq_true rfl) (fun p e R s m args below meth c Q hC hret hS ls hl => ?_)
  have hC : ez_C p R s m args c X B RX12 cX12_recut 4 3 := hC
  have hx := hC.1.1
  have hb := hC.1.2.1
  have hown := hC.1.2.2.2.1
  have hts := hC.1.2.2.2.2
  have hl : lv_has ls 4 [(0, .ref (B + h0)), (1, .int x1), (2, .int x2)] := hl
  obtain ⟨σ0, eσ⟩ : ∃ σ0 : ez_H, σ0 = σ := ⟨_, rfl⟩
  rw [← eσ] at hret
  have hS : ez_S X B s.heap σ0.length σ s.heap [] := eσ ▸ hS
  obtain ⟨-, h⟩ := ez_in h
  have K_16 : ∀ (σ : ez_H) (H : Heap) (locs : List Loc) (ls : Array Slot), ez_S X B s.heap (σ0.length) σ H locs → z_X12_recut_16 σ = some z → lv_has ls 4 [] → W p l e R s m args below meth c H locs 0 0 Q (F0 m 16 ls []) := by
    intro σ H locs ls hS h hl
    refine lv_iconst (v := -1) hx hb dX12_recut_16 (by decide) ?_
    exact hret _ _ _ _ _ _ (Option.some.inj h) rfl hS dX12_recut_17
  refine lv_aload_n hx hb dX12_recut_0 rfl (lv_at hl 0 rfl) ?_
  refine lv_iload_n hx hb dX12_recut_1 rfl (lv_at hl 1 rfl) ?_
  refine ez_cVpi (As := [.int x1]) (rest := []) h (fun _ q => c_X12_isKey q) hC k_X12_isKey ql_RX12_462 rfl (by decide) hS (fun _ q => ez_rcv q) rfl hl.1 rfl (Nat.le_of_ble_eq_true rfl) ⟨Nat.zero_le _, Nat.zero_le _⟩ dX12_recut_2 (fun t_2 H locs hS h => ?_)
  refine lv_if_eq (tgt := 16) hx hb dX12_recut_5 (by decide) (fun c_5 => ?_) (fun c_5 => ?_)
  · replace h := ez_ifp h c_5
    exact K_16  σ _ _ _ hS h (lv_sub hl [] rfl)
  · replace h := ez_ifn h c_5
    refine lv_aload_n hx hb dX12_recut_8 rfl (lv_at hl 0 rfl) ?_
    refine lv_iload_n hx hb dX12_recut_9 rfl (lv_at hl 2 rfl) ?_
    refine ez_cVpi (As := [.int x2]) (rest := []) h (fun _ q => c_X12_isLegal q) hC k_X12_isLegal ql_RX12_456 rfl (by decide) hS (fun _ q => ez_rcv q) rfl hl.1 rfl (Nat.le_of_ble_eq_true rfl) ⟨Nat.zero_le _, Nat.zero_le _⟩ dX12_recut_10 (fun t_10 H locs hS h => ?_)
    refine lv_if_ne (tgt := 18) hx hb dX12_recut_13 (by decide) (fun c_13 => ?_) (fun c_13 => ?_)
    · replace h := ez_ifn h c_13
      refine lv_aload_n hx hb dX12_recut_18 rfl (lv_at hl 0 rfl) ?_
      refine ez_cVv (As := []) (rest := []) h (fun _ q => c_X12_keepAct q) hC k_X12_keepAct ql_RX12_600 rfl (by decide) hS (fun _ q => ez_rcv q) rfl hl.1 rfl (Nat.le_of_ble_eq_true rfl) ⟨Nat.zero_le _, Nat.zero_le _⟩ dX12_recut_19 (fun _ σ H locs hS h => ?_)
      refine lv_aload_n hx hb dX12_recut_22 rfl (lv_at hl 0 rfl) ?_
      refine lv_iload_n hx hb dX12_recut_23 rfl (lv_at hl 1 rfl) ?_
      refine ez_cVpi (As := [.int x1]) (rest := []) h (fun _ q => c_X12_numberOf q) hC k_X12_numberOf ql_RX12_450 rfl (by decide) hS (fun _ q => ez_rcv q) rfl hl.1 rfl (Nat.le_of_ble_eq_true rfl) ⟨Nat.zero_le _, Nat.zero_le _⟩ dX12_recut_24 (fun t_24 H locs hS h => ?_)
      refine lv_istore_n (lv' := [(3, .int t_24), (0, .ref (B + h0)), (1, .int x1), (2, .int x2)]) hx hb dX12_recut_27 rfl hl (by decide) rfl (fun ls hl => ?_)
      refine lv_aload_n hx hb dX12_recut_28 rfl (lv_at hl 1 rfl) ?_
      refine lv_iload_n hx hb dX12_recut_29 rfl (lv_at hl 2 rfl) ?_
      refine lv_iload_n hx hb dX12_recut_30 rfl (lv_at hl 3 rfl) ?_
      refine ez_cVv (As := [.int x1, .int x2]) (rest := []) h (fun _ q => c_X12_cutAnew q) hC k_X12_cutAnew ql_RX12_565 rfl (by decide) hS (fun _ q => ez_rcv q) rfl hl.1 rfl (Nat.le_of_ble_eq_true rfl) ⟨Nat.zero_le _, Nat.zero_le _⟩ dX12_recut_31 (fun _ σ H locs hS h => ?_)
      refine lv_aload_n hx hb dX12_recut_34 rfl (lv_at hl 1 rfl) ?_
      refine eg_RX12_118 hC hS h dX12_recut_35 (fun t_35 h => ?_)
      refine lv_bipush (v := 40) hx hb dX12_recut_38 (by decide) ?_
      refine lv_iload_n hx hb dX12_recut_40 rfl (lv_at hl 2 rfl) ?_
      refine lv_iadd hx hb dX12_recut_41 ?_
      refine ez_top h (fun t_41 h => ?_)
      refine lv_iconst (v := 0) hx hb dX12_recut_42 (by decide) ?_
      refine ez_ias hC hS h dX12_recut_43 (fun σ H locs hS h => ?_)
      refine lv_iload_n hx hb dX12_recut_44 rfl (lv_at hl 0 rfl) ?_
      exact hret _ _ _ _ _ _ (Option.some.inj h) rfl hS dX12_recut_45
    · replace h := ez_ifp h c_13
      exact K_16  σ _ _ _ hS h (lv_sub hl [] rfl)
set_option maxHeartbeats 4000000 in
set_option maxRecDepth 100000 in
theorem c_X12_swapAll {l : Launch} {X : ez_X} {B : Nat} {σ : ez_H} {h0 : Nat} {z : Unit × ez_H} (h : z_X12_swapAll σ h0 = some z) : ez_M l X B σ yX12_swapAll cX12_swapAll 3 (none) 0 [.ref (B + h0)] (none) z.2 := by
  refine ez_startv (z := z) (by decide) (Nat.le_of_ble_eq_true rfl) (fun p e R s m args below meth c Q hC hret hS ls hl => ?_)
  have hC : ez_C p R s m args c X B RX12 cX12_swapAll 3 0 := hC
  have hx := hC.1.1
  have hb := hC.1.2.1
  have hown := hC.1.2.2.2.1
  have hts := hC.1.2.2.2.2
  have hl : lv_has ls 3 [(0, .ref (B + h0))] := hl
  obtain ⟨σ0, eσ⟩ : ∃ σ0 : ez_H, σ0 = σ := ⟨_, rfl⟩
  rw [← eσ] at hret
  have hS : ez_S X B s.heap σ0.length σ s.heap [] := eσ ▸ hS
  obtain ⟨-, h⟩ := ez_in h
  have K_2 : ∀ (k_2 : ez_H → Nat → Int32 → Option (Unit × ez_H)) (hk_2 : ∀ (σ : ez_H) (h0 : Nat) (x1 : Int32) (H : Heap) (locs : List Loc) (ls : Array Slot), ez_S X B s.heap (σ0.length) σ H locs → k_2 σ h0 x1 = some z → lv_has ls 3 [(0, .ref (B + h0)), (1, .int x1)] → W p l e R s m args below meth c H locs 0 0 Q (F0 m 2 ls [])), ∀ (σ : ez_H) (h0 : Nat) (x1 : Int32) (H : Heap) (locs : List Loc) (ls : Array Slot), ez_S X B s.heap (σ0.length) σ H locs → z_X12_swapAll_2 k_2 σ h0 x1 = some z → lv_has ls 3 [(0, .ref (B + h0)), (1, .int x1)] → W p l e R s m args below meth c H locs 0 0 Q (F0 m 2 ls []) := by
    intro k_2 hk_2 σ h0 x1 H locs ls hS h hl
    refine lv_iload_n hx hb dX12_swapAll_2 rfl (lv_at hl 1 rfl) ?_
    refine lv_bipush (v := 91) hx hb dX12_swapAll_3 (by decide) ?_
    refine lv_icmp_ge (tgt := 56) hx hb dX12_swapAll_5 (by decide) (fun c_5 => ?_) (fun c_5 => ?_)
    · replace h := ez_ifp h c_5
      exact hret _ _ _ _ _ _ (Option.some.inj h) hS dX12_swapAll_56
    · replace h := ez_ifn h c_5
      refine lv_aload_n hx hb dX12_swapAll_8 rfl (lv_at hl 0 rfl) ?_
      refine eg_RX12_133 hC hS h dX12_swapAll_9 (fun t_9 h => ?_)
      refine lv_bipush (v := 91) hx hb dX12_swapAll_12 (by decide) ?_
      refine lv_aload_n hx hb dX12_swapAll_14 rfl (lv_at hl 0 rfl) ?_
      refine eg_RX12_417 hC hS h dX12_swapAll_15 (fun t_15 h => ?_)
      refine lv_imul hx hb dX12_swapAll_18 ?_
      refine ez_top h (fun t_18 h => ?_)
      refine lv_iload_n hx hb dX12_swapAll_19 rfl (lv_at hl 1 rfl) ?_
      refine lv_iadd hx hb dX12_swapAll_20 ?_
      refine ez_top h (fun t_20 h => ?_)
      refine ez_ial hC hS h dX12_swapAll_21 (fun t_21 h => ?_)
      refine lv_istore_n (lv' := [(2, .int t_21), (0, .ref (B + h0)), (1, .int x1)]) hx hb dX12_swapAll_22 rfl hl (by decide) rfl (fun ls hl => ?_)
      refine lv_aload_n hx hb dX12_swapAll_23 rfl (lv_at hl 1 rfl) ?_
      refine eg_RX12_133 hC hS h dX12_swapAll_24 (fun t_24 h => ?_)
      refine lv_bipush (v := 91) hx hb dX12_swapAll_27 (by decide) ?_
      refine lv_aload_n hx hb dX12_swapAll_29 rfl (lv_at hl 1 rfl) ?_
      refine eg_RX12_417 hC hS h dX12_swapAll_30 (fun t_30 h => ?_)
      refine lv_imul hx hb dX12_swapAll_33 ?_
      refine ez_top h (fun t_33 h => ?_)
      refine lv_iload_n hx hb dX12_swapAll_34 rfl (lv_at hl 2 rfl) ?_
      refine lv_iadd hx hb dX12_swapAll_35 ?_
      refine ez_top h (fun t_35 h => ?_)
      refine lv_aload_n hx hb dX12_swapAll_36 rfl (lv_at hl 1 rfl) ?_
      refine eg_RX12_118 hC hS h dX12_swapAll_37 (fun t_37 h => ?_)
      refine lv_iload_n hx hb dX12_swapAll_40 rfl (lv_at hl 2 rfl) ?_
      refine ez_ial hC hS h dX12_swapAll_41 (fun t_41 h => ?_)
      refine ez_ias hC hS h dX12_swapAll_42 (fun σ H locs hS h => ?_)
      refine lv_aload_n hx hb dX12_swapAll_43 rfl (lv_at hl 1 rfl) ?_
      refine eg_RX12_118 hC hS h dX12_swapAll_44 (fun t_44 h => ?_)
      refine lv_iload_n hx hb dX12_swapAll_47 rfl (lv_at hl 2 rfl) ?_
      refine lv_iload_n hx hb dX12_swapAll_48 rfl (lv_at hl 0 rfl) ?_
      refine ez_ias hC hS h dX12_swapAll_49 (fun σ H locs hS h => ?_)
      obtain ⟨t_50, e_50, h⟩ := ez_let_sp h
      refine lv_iinc (v := t_50) (lv' := [(1, .int t_50), (2, .int t_21), (0, .ref (B + h0))]) hx hb dX12_swapAll_50 hl (k := 2) rfl (by rw [e_50]; rfl) (by decide) rfl (fun ls hl => ?_)
      refine lv_goto (tgt := 2) hx hb dX12_swapAll_53 (by decide) ?_
      exact hk_2 σ h0 t_50 _ _ _ hS h (lv_sub hl [2, 0] rfl)
  have E_2 : ∀ (σ : ez_H) (h0 : Nat) (x1 : Int32) (H : Heap) (locs : List Loc) (ls : Array Slot), ez_S X B s.heap (σ0.length) σ H locs → (ez_fix (fun _ _ _ => none) (z_X12_swapAll_2) ez_N) σ h0 x1 = some z → lv_has ls 3 [(0, .ref (B + h0)), (1, .int x1)] → W p l e R s m args below meth c H locs 0 0 Q (F0 m 2 ls []) := ez_fix_ind (fun k_2 : ez_H → Nat → Int32 → Option (Unit × ez_H) => ∀ (σ : ez_H) (h0 : Nat) (x1 : Int32) (H : Heap) (locs : List Loc) (ls : Array Slot), ez_S X B s.heap (σ0.length) σ H locs → k_2 σ h0 x1 = some z → lv_has ls 3 [(0, .ref (B + h0)), (1, .int x1)] → W p l e R s m args below meth c H locs 0 0 Q (F0 m 2 ls [])) (fun _ _ _ _ _ _ _ h _ => by cases h) (fun k_2 hk_2 => K_2 k_2 hk_2) ez_N
  refine lv_iconst (v := 0) hx hb dX12_swapAll_0 (by decide) ?_
  refine lv_istore_n (lv' := [(1, .int 0), (0, .ref (B + h0))]) hx hb dX12_swapAll_1 rfl hl (by decide) rfl (fun ls hl => ?_)
  exact E_2  σ h0 (0 : Int32) _ _ _ hS h (lv_sub hl [1, 0] rfl)
set_option maxHeartbeats 4000000 in
set_option maxRecDepth 100000 in
theorem c_X12_redo {l : Launch} {X : ez_X} {B : Nat} {σ : ez_H} {h0 : Nat} {z : Int32 × ez_H} (h : z_X12_redo σ h0 = some z) : ez_M l X B σ yX12_redo cX12_redo 1 (some .boolean) 1 [.ref (B + h0)] (some (.int z.1)) z.2 := by
  refine ez_starti (z := z) (by decide) (Nat.le_of_ble_eq_true rfl) (fun p e R s m args below meth c Q hC hret hS ls hl => ?_)
  have hC : ez_C p R s m args c X B RX12 cX12_redo 1 1 := hC
  have hx := hC.1.1
  have hb := hC.1.2.1
  have hown := hC.1.2.2.2.1
  have hts := hC.1.2.2.2.2
  have hl : lv_has ls 1 [(0, .ref (B + h0))] := hl
  obtain ⟨σ0, eσ⟩ : ∃ σ0 : ez_H, σ0 = σ := ⟨_, rfl⟩
  rw [← eσ] at hret
  have hS : ez_S X B s.heap σ0.length σ s.heap [] := eσ ▸ hS
  obtain ⟨-, h⟩ := ez_in h
  refine lv_aload_n hx hb dX12_redo_0 rfl (lv_at hl 0 rfl) ?_
  refine eg_RX12_420 hC hS h dX12_redo_1 (fun t_1 h => ?_)
  refine lv_if_ne (tgt := 9) hx hb dX12_redo_4 (by decide) (fun c_4 => ?_) (fun c_4 => ?_)
  · replace h := ez_ifn h c_4
    refine lv_aload_n hx hb dX12_redo_9 rfl (lv_at hl 0 rfl) ?_
    refine ez_cVv (As := []) (rest := []) h (fun _ q => c_X12_swapAll q) hC k_X12_swapAll ql_RX12_606 rfl (by decide) hS (fun _ q => ez_rcv q) rfl hl.1 rfl (Nat.le_of_ble_eq_true rfl) ⟨Nat.zero_le _, Nat.zero_le _⟩ dX12_redo_10 (fun _ σ H locs hS h => ?_)
    refine lv_aload_n hx hb dX12_redo_13 rfl (lv_at hl 0 rfl) ?_
    refine lv_dup hx hb dX12_redo_14 rfl ?_
    refine eg_RX12_417 hC hS h dX12_redo_15 (fun t_15 h => ?_)
    refine lv_iconst (v := 1) hx hb dX12_redo_18 (by decide) ?_
    refine lv_iadd hx hb dX12_redo_19 ?_
    refine ez_top h (fun t_19 h => ?_)
    refine ep_RX12_417 hC hS h dX12_redo_20 (fun σ H locs hS h => ?_)
    refine lv_aload_n hx hb dX12_redo_23 rfl (lv_at hl 0 rfl) ?_
    refine lv_dup hx hb dX12_redo_24 rfl ?_
    refine eg_RX12_420 hC hS h dX12_redo_25 (fun t_25 h => ?_)
    refine lv_iconst (v := 1) hx hb dX12_redo_28 (by decide) ?_
    refine lv_isub hx hb dX12_redo_29 ?_
    refine ez_top h (fun t_29 h => ?_)
    refine ep_RX12_420 hC hS h dX12_redo_30 (fun σ H locs hS h => ?_)
    refine lv_iconst (v := 1) hx hb dX12_redo_33 (by decide) ?_
    have hn : narrow .boolean (.int 1) = .int 1 := by decide
    exact hret _ _ _ _ _ _ (Option.some.inj h) hn hS dX12_redo_34
  · replace h := ez_ifp h c_4
    refine lv_iconst (v := 0) hx hb dX12_redo_7 (by decide) ?_
    have hn : narrow .boolean (.int 0) = .int 0 := by decide
    exact hret _ _ _ _ _ _ (Option.some.inj h) hn hS dX12_redo_8
set_option maxHeartbeats 4000000 in
set_option maxRecDepth 100000 in
theorem c_X12_doorsTo {l : Launch} {X : ez_X} {B : Nat} {σ : ez_H} {h0 : Nat} {x1 : Int32} {x2 : Int32} {x3 : Int32} {z : Int32} (h : z_X12_doorsTo σ h0 x1 x2 x3 = some z) : ez_M l X B σ yX12_doorsTo cX12_doorsTo 10 (some .int) 1 [.ref (B + h0), .int x1, .int x2, .int x3] (some (.int z)) σ := by
  refine ez_startip (z := z) (by decide) (Nat.le_of_ble_eq_true rfl) (fun p e R s m args below meth c Q hC hret hS ls hl => ?_)
  have hC : ez_C p R s m args c X B RX12 cX12_doorsTo 10 1 := hC
  have hx := hC.1.1
  have hb := hC.1.2.1
  have hown := hC.1.2.2.2.1
  have hts := hC.1.2.2.2.2
  have hl : lv_has ls 10 [(0, .ref (B + h0)), (1, .int x1), (2, .int x2), (3, .int x3)] := hl
  obtain ⟨n0, e0⟩ : ∃ n0 : Nat, n0 = σ.length := ⟨_, rfl⟩
  rw [← e0] at hret hS
  obtain ⟨-, h⟩ := ez_in h
  have K_110 : ∀ (k_8 : Nat → Int32 → Int32 → Int32 → Int32 → Option (Int32)) (hk_8 : ∀ (h0 : Nat) (x2 : Int32) (x3 : Int32) (x4 : Int32) (x5 : Int32) (H : Heap) (locs : List Loc) (ls : Array Slot), ez_S X B s.heap (n0) σ H locs → k_8 h0 x2 x3 x4 x5 = some z → lv_has ls 10 [(0, .ref (B + h0)), (2, .int x2), (3, .int x3), (4, .int x4), (5, .int x5)] → W p l e R s m args below meth c H locs 0 0 Q (F0 m 8 ls [])) (k_34 : Nat → Int32 → Int32 → Int32 → Int32 → Int32 → Int32 → Option (Int32)) (hk_34 : ∀ (h0 : Nat) (x2 : Int32) (x3 : Int32) (x4 : Int32) (x5 : Int32) (x6 : Int32) (x7 : Int32) (H : Heap) (locs : List Loc) (ls : Array Slot), ez_S X B s.heap (n0) σ H locs → k_34 h0 x2 x3 x4 x5 x6 x7 = some z → lv_has ls 10 [(0, .ref (B + h0)), (2, .int x2), (3, .int x3), (4, .int x4), (5, .int x5), (6, .int x6), (7, .int x7)] → W p l e R s m args below meth c H locs 0 0 Q (F0 m 34 ls [])), ∀ (h0 : Nat) (x2 : Int32) (x3 : Int32) (x4 : Int32) (x5 : Int32) (x6 : Int32) (x7 : Int32) (H : Heap) (locs : List Loc) (ls : Array Slot), ez_S X B s.heap (n0) σ H locs → z_X12_doorsTo_110 σ k_8 k_34 h0 x2 x3 x4 x5 x6 x7 = some z → lv_has ls 10 [(0, .ref (B + h0)), (2, .int x2), (3, .int x3), (4, .int x4), (5, .int x5), (6, .int x6), (7, .int x7)] → W p l e R s m args below meth c H locs 0 0 Q (F0 m 110 ls []) := by
    intro k_8 hk_8 k_34 hk_34 h0 x2 x3 x4 x5 x6 x7 H locs ls hS h hl
    obtain ⟨t_110, e_110, h⟩ := ez_let_sp h
    refine lv_iinc (v := t_110) (lv' := [(7, .int t_110), (0, .ref (B + h0)), (2, .int x2), (3, .int x3), (4, .int x4), (5, .int x5), (6, .int x6)]) hx hb dX12_doorsTo_110 hl (k := 6) rfl (by rw [e_110]; rfl) (by decide) rfl (fun ls hl => ?_)
    refine lv_goto (tgt := 34) hx hb dX12_doorsTo_113 (by decide) ?_
    exact hk_34 h0 x2 x3 x4 x5 x6 t_110 _ _ _ hS h (lv_sub hl [1, 2, 3, 4, 5, 6, 0] rfl)
  have K_34 : ∀ (k_8 : Nat → Int32 → Int32 → Int32 → Int32 → Option (Int32)) (hk_8 : ∀ (h0 : Nat) (x2 : Int32) (x3 : Int32) (x4 : Int32) (x5 : Int32) (H : Heap) (locs : List Loc) (ls : Array Slot), ez_S X B s.heap (n0) σ H locs → k_8 h0 x2 x3 x4 x5 = some z → lv_has ls 10 [(0, .ref (B + h0)), (2, .int x2), (3, .int x3), (4, .int x4), (5, .int x5)] → W p l e R s m args below meth c H locs 0 0 Q (F0 m 8 ls [])) (k_34 : Nat → Int32 → Int32 → Int32 → Int32 → Int32 → Int32 → Option (Int32)) (hk_34 : ∀ (h0 : Nat) (x2 : Int32) (x3 : Int32) (x4 : Int32) (x5 : Int32) (x6 : Int32) (x7 : Int32) (H : Heap) (locs : List Loc) (ls : Array Slot), ez_S X B s.heap (n0) σ H locs → k_34 h0 x2 x3 x4 x5 x6 x7 = some z → lv_has ls 10 [(0, .ref (B + h0)), (2, .int x2), (3, .int x3), (4, .int x4), (5, .int x5), (6, .int x6), (7, .int x7)] → W p l e R s m args below meth c H locs 0 0 Q (F0 m 34 ls [])), ∀ (h0 : Nat) (x2 : Int32) (x3 : Int32) (x4 : Int32) (x5 : Int32) (x6 : Int32) (x7 : Int32) (H : Heap) (locs : List Loc) (ls : Array Slot), ez_S X B s.heap (n0) σ H locs → z_X12_doorsTo_34 σ k_8 k_34 h0 x2 x3 x4 x5 x6 x7 = some z → lv_has ls 10 [(0, .ref (B + h0)), (2, .int x2), (3, .int x3), (4, .int x4), (5, .int x5), (6, .int x6), (7, .int x7)] → W p l e R s m args below meth c H locs 0 0 Q (F0 m 34 ls []) := by
    intro k_8 hk_8 k_34 hk_34 h0 x2 x3 x4 x5 x6 x7 H locs ls hS h hl
    refine lv_iload hx hb dX12_doorsTo_34 (lv_at hl 6 rfl) ?_
    refine lv_aload_n hx hb dX12_doorsTo_36 rfl (lv_at hl 0 rfl) ?_
    refine eg_RX12_39 hC hS h dX12_doorsTo_37 (fun t_37 h => ?_)
    refine lv_aload_n hx hb dX12_doorsTo_40 rfl (lv_at hl 0 rfl) ?_
    refine eg_RX12_274 hC hS h dX12_doorsTo_41 (fun t_41 h => ?_)
    refine ez_ial hC hS h dX12_doorsTo_44 (fun t_44 h => ?_)
    refine lv_icmp_ge (tgt := 116) hx hb dX12_doorsTo_45 (by decide) (fun c_45 => ?_) (fun c_45 => ?_)
    · replace h := ez_ifp h c_45
      refine lv_iload hx hb dX12_doorsTo_116 (lv_at hl 5 rfl) ?_
      refine lv_istore (lv' := [(4, .int x6), (0, .ref (B + h0)), (2, .int x2), (3, .int x3), (5, .int x5), (6, .int x6), (7, .int x7)]) hx hb dX12_doorsTo_118 hl (by decide) rfl (fun ls hl => ?_)
      obtain ⟨t_120, e_120, h⟩ := ez_let_sp h
      refine lv_iinc (v := t_120) (lv' := [(5, .int t_120), (4, .int x6), (0, .ref (B + h0)), (2, .int x2), (3, .int x3), (6, .int x6), (7, .int x7)]) hx hb dX12_doorsTo_120 hl (k := 4) rfl (by rw [e_120]; rfl) (by decide) rfl (fun ls hl => ?_)
      refine lv_goto (tgt := 8) hx hb dX12_doorsTo_123 (by decide) ?_
      exact hk_8 h0 x2 x3 x6 t_120 _ _ _ hS h (lv_sub hl [2, 3, 4, 1, 0] rfl)
    · replace h := ez_ifn h c_45
      refine lv_bipush (v := 8) hx hb dX12_doorsTo_48 (by decide) ?_
      refine lv_aload_n hx hb dX12_doorsTo_50 rfl (lv_at hl 0 rfl) ?_
      refine eg_RX12_274 hC hS h dX12_doorsTo_51 (fun t_51 h => ?_)
      refine lv_imul hx hb dX12_doorsTo_54 ?_
      refine ez_top h (fun t_54 h => ?_)
      refine lv_iload hx hb dX12_doorsTo_55 (lv_at hl 6 rfl) ?_
      refine lv_iadd hx hb dX12_doorsTo_57 ?_
      refine ez_top h (fun t_57 h => ?_)
      refine lv_istore (lv' := [(8, .int t_57), (0, .ref (B + h0)), (2, .int x2), (3, .int x3), (4, .int x4), (5, .int x5), (6, .int x6), (7, .int x7)]) hx hb dX12_doorsTo_58 hl (by decide) rfl (fun ls hl => ?_)
      refine lv_iconst (v := 1) hx hb dX12_doorsTo_60 (by decide) ?_
      refine lv_aload_n hx hb dX12_doorsTo_61 rfl (lv_at hl 1 rfl) ?_
      refine eg_RX12_60 hC hS h dX12_doorsTo_62 (fun t_62 h => ?_)
      refine lv_iload hx hb dX12_doorsTo_65 (lv_at hl 0 rfl) ?_
      refine ez_ial hC hS h dX12_doorsTo_67 (fun t_67 h => ?_)
      refine lv_ishl hx hb dX12_doorsTo_68 ?_
      refine ez_top h (fun t_68 h => ?_)
      refine lv_iconst (v := 1) hx hb dX12_doorsTo_69 (by decide) ?_
      refine lv_aload_n hx hb dX12_doorsTo_70 rfl (lv_at hl 1 rfl) ?_
      refine eg_RX12_63 hC hS h dX12_doorsTo_71 (fun t_71 h => ?_)
      refine lv_iload hx hb dX12_doorsTo_74 (lv_at hl 0 rfl) ?_
      refine ez_ial hC hS h dX12_doorsTo_76 (fun t_76 h => ?_)
      refine lv_ishl hx hb dX12_doorsTo_77 ?_
      refine ez_top h (fun t_77 h => ?_)
      refine lv_ior hx hb dX12_doorsTo_78 ?_
      refine ez_top h (fun t_78 h => ?_)
      refine lv_istore (lv' := [(9, .int t_78), (8, .int t_57), (0, .ref (B + h0)), (2, .int x2), (3, .int x3), (4, .int x4), (5, .int x5), (6, .int x6), (7, .int x7)]) hx hb dX12_doorsTo_79 hl (by decide) rfl (fun ls hl => ?_)
      refine lv_iload_n hx hb dX12_doorsTo_81 rfl (lv_at hl 4 rfl) ?_
      refine lv_aload_n hx hb dX12_doorsTo_82 rfl (lv_at hl 2 rfl) ?_
      refine eg_RX12_66 hC hS h dX12_doorsTo_83 (fun t_83 h => ?_)
      refine lv_iload hx hb dX12_doorsTo_86 (lv_at hl 1 rfl) ?_
      refine ez_ial hC hS h dX12_doorsTo_88 (fun t_88 h => ?_)
      refine ez_cSpi (As := [.int x3, .int t_88]) (rest := []) h (fun _ q => c_X12_bit q) hC k_X12_bit ql_RX12_261 rfl (by decide) hS hl.1 rfl (Nat.le_of_ble_eq_true rfl) ⟨Nat.zero_le _, Nat.zero_le _⟩ dX12_doorsTo_89 (fun t_89 H locs hS h => ?_)
      refine lv_if_eq (tgt := 110) hx hb dX12_doorsTo_92 (by decide) (fun c_92 => ?_) (fun c_92 => ?_)
      · replace h := ez_ifp h c_92
        exact K_110 k_8 hk_8 k_34 hk_34 h0 x2 x3 x4 x5 x6 x7 _ _ _ hS h (lv_sub hl [2, 3, 4, 5, 6, 7, 8] rfl)
      · replace h := ez_ifn h c_92
        refine lv_iload hx hb dX12_doorsTo_95 (lv_at hl 5 rfl) ?_
        refine lv_iload hx hb dX12_doorsTo_97 (lv_at hl 0 rfl) ?_
        refine lv_iand hx hb dX12_doorsTo_99 ?_
        refine ez_top h (fun t_99 h => ?_)
        refine lv_if_eq (tgt := 110) hx hb dX12_doorsTo_100 (by decide) (fun c_100 => ?_) (fun c_100 => ?_)
        · replace h := ez_ifp h c_100
          exact K_110 k_8 hk_8 k_34 hk_34 h0 x2 x3 x4 x5 x6 x7 _ _ _ hS h (lv_sub hl [2, 3, 4, 5, 6, 7, 8] rfl)
        · replace h := ez_ifn h c_100
          refine lv_iload hx hb dX12_doorsTo_103 (lv_at hl 7 rfl) ?_
          refine lv_iload hx hb dX12_doorsTo_105 (lv_at hl 0 rfl) ?_
          refine lv_ior hx hb dX12_doorsTo_107 ?_
          refine ez_top h (fun t_107 h => ?_)
          refine lv_istore (lv' := [(6, .int t_107), (9, .int t_78), (8, .int t_57), (0, .ref (B + h0)), (2, .int x2), (3, .int x3), (4, .int x4), (5, .int x5), (7, .int x7)]) hx hb dX12_doorsTo_108 hl (by decide) rfl (fun ls hl => ?_)
          exact K_110 k_8 hk_8 k_34 hk_34 h0 x2 x3 x4 x5 t_107 x7 _ _ _ hS h (lv_sub hl [3, 4, 5, 6, 7, 0, 8] rfl)
  have E_34 : ∀ (k_8 : Nat → Int32 → Int32 → Int32 → Int32 → Option (Int32)) (hk_8 : ∀ (h0 : Nat) (x2 : Int32) (x3 : Int32) (x4 : Int32) (x5 : Int32) (H : Heap) (locs : List Loc) (ls : Array Slot), ez_S X B s.heap (n0) σ H locs → k_8 h0 x2 x3 x4 x5 = some z → lv_has ls 10 [(0, .ref (B + h0)), (2, .int x2), (3, .int x3), (4, .int x4), (5, .int x5)] → W p l e R s m args below meth c H locs 0 0 Q (F0 m 8 ls [])), ∀ (h0 : Nat) (x2 : Int32) (x3 : Int32) (x4 : Int32) (x5 : Int32) (x6 : Int32) (x7 : Int32) (H : Heap) (locs : List Loc) (ls : Array Slot), ez_S X B s.heap (n0) σ H locs → (ez_fix (fun _ _ _ _ _ _ _ => none) (z_X12_doorsTo_34 σ k_8) ez_N) h0 x2 x3 x4 x5 x6 x7 = some z → lv_has ls 10 [(0, .ref (B + h0)), (2, .int x2), (3, .int x3), (4, .int x4), (5, .int x5), (6, .int x6), (7, .int x7)] → W p l e R s m args below meth c H locs 0 0 Q (F0 m 34 ls []) := fun k_8 hk_8 => ez_fix_ind (fun k_34 : Nat → Int32 → Int32 → Int32 → Int32 → Int32 → Int32 → Option (Int32) => ∀ (h0 : Nat) (x2 : Int32) (x3 : Int32) (x4 : Int32) (x5 : Int32) (x6 : Int32) (x7 : Int32) (H : Heap) (locs : List Loc) (ls : Array Slot), ez_S X B s.heap (n0) σ H locs → k_34 h0 x2 x3 x4 x5 x6 x7 = some z → lv_has ls 10 [(0, .ref (B + h0)), (2, .int x2), (3, .int x3), (4, .int x4), (5, .int x5), (6, .int x6), (7, .int x7)] → W p l e R s m args below meth c H locs 0 0 Q (F0 m 34 ls [])) (fun _ _ _ _ _ _ _ _ _ _ _ h _ => by cases h) (fun k_34 hk_34 => K_34 k_8 hk_8 k_34 hk_34) ez_N
  have K_8 : ∀ (k_8 : Nat → Int32 → Int32 → Int32 → Int32 → Option (Int32)) (hk_8 : ∀ (h0 : Nat) (x2 : Int32) (x3 : Int32) (x4 : Int32) (x5 : Int32) (H : Heap) (locs : List Loc) (ls : Array Slot), ez_S X B s.heap (n0) σ H locs → k_8 h0 x2 x3 x4 x5 = some z → lv_has ls 10 [(0, .ref (B + h0)), (2, .int x2), (3, .int x3), (4, .int x4), (5, .int x5)] → W p l e R s m args below meth c H locs 0 0 Q (F0 m 8 ls [])), ∀ (h0 : Nat) (x2 : Int32) (x3 : Int32) (x4 : Int32) (x5 : Int32) (H : Heap) (locs : List Loc) (ls : Array Slot), ez_S X B s.heap (n0) σ H locs → z_X12_doorsTo_8 σ k_8 h0 x2 x3 x4 x5 = some z → lv_has ls 10 [(0, .ref (B + h0)), (2, .int x2), (3, .int x3), (4, .int x4), (5, .int x5)] → W p l e R s m args below meth c H locs 0 0 Q (F0 m 8 ls []) := by
    intro k_8 hk_8 h0 x2 x3 x4 x5 H locs ls hS h hl
    refine lv_iload hx hb dX12_doorsTo_8 (lv_at hl 4 rfl) ?_
    refine lv_bipush (v := 6) hx hb dX12_doorsTo_10 (by decide) ?_
    refine lv_icmp_gt (tgt := 126) hx hb dX12_doorsTo_12 (by decide) (fun c_12 => ?_) (fun c_12 => ?_)
    · replace h := ez_ifp h c_12
      refine lv_ldcw hx hb hown (hts _ qc_RX12_528) dX12_doorsTo_126 ?_
      exact hret _ _ _ _ _ (Option.some.inj h) rfl hS dX12_doorsTo_129
    · replace h := ez_ifn h c_12
      refine lv_iload hx hb dX12_doorsTo_15 (lv_at hl 3 rfl) ?_
      refine lv_iload_n hx hb dX12_doorsTo_17 rfl (lv_at hl 1 rfl) ?_
      refine ez_cSpi (As := [.int x4, .int x2]) (rest := []) h (fun _ q => c_X12_bit q) hC k_X12_bit ql_RX12_261 rfl (by decide) hS hl.1 rfl (Nat.le_of_ble_eq_true rfl) ⟨Nat.zero_le _, Nat.zero_le _⟩ dX12_doorsTo_18 (fun t_18 H locs hS h => ?_)
      refine lv_if_eq (tgt := 27) hx hb dX12_doorsTo_21 (by decide) (fun c_21 => ?_) (fun c_21 => ?_)
      · replace h := ez_ifp h c_21
        refine lv_iload hx hb dX12_doorsTo_27 (lv_at hl 3 rfl) ?_
        refine lv_istore (lv' := [(6, .int x4), (0, .ref (B + h0)), (2, .int x2), (3, .int x3), (4, .int x4), (5, .int x5)]) hx hb dX12_doorsTo_29 hl (by decide) rfl (fun ls hl => ?_)
        refine lv_iconst (v := 0) hx hb dX12_doorsTo_31 (by decide) ?_
        refine lv_istore (lv' := [(7, .int 0), (6, .int x4), (0, .ref (B + h0)), (2, .int x2), (3, .int x3), (4, .int x4), (5, .int x5)]) hx hb dX12_doorsTo_32 hl (by decide) rfl (fun ls hl => ?_)
        exact E_34 k_8 hk_8 h0 x2 x3 x4 x5 x4 (0 : Int32) _ _ _ hS h (lv_sub hl [2, 3, 4, 5, 6, 1, 0] rfl)
      · replace h := ez_ifn h c_21
        refine lv_iload hx hb dX12_doorsTo_24 (lv_at hl 4 rfl) ?_
        exact hret _ _ _ _ _ (Option.some.inj h) rfl hS dX12_doorsTo_26
  have E_8 : ∀ (h0 : Nat) (x2 : Int32) (x3 : Int32) (x4 : Int32) (x5 : Int32) (H : Heap) (locs : List Loc) (ls : Array Slot), ez_S X B s.heap (n0) σ H locs → (ez_fix (fun _ _ _ _ _ => none) (z_X12_doorsTo_8 σ) ez_N) h0 x2 x3 x4 x5 = some z → lv_has ls 10 [(0, .ref (B + h0)), (2, .int x2), (3, .int x3), (4, .int x4), (5, .int x5)] → W p l e R s m args below meth c H locs 0 0 Q (F0 m 8 ls []) := ez_fix_ind (fun k_8 : Nat → Int32 → Int32 → Int32 → Int32 → Option (Int32) => ∀ (h0 : Nat) (x2 : Int32) (x3 : Int32) (x4 : Int32) (x5 : Int32) (H : Heap) (locs : List Loc) (ls : Array Slot), ez_S X B s.heap (n0) σ H locs → k_8 h0 x2 x3 x4 x5 = some z → lv_has ls 10 [(0, .ref (B + h0)), (2, .int x2), (3, .int x3), (4, .int x4), (5, .int x5)] → W p l e R s m args below meth c H locs 0 0 Q (F0 m 8 ls [])) (fun _ _ _ _ _ _ _ _ _ h _ => by cases h) (fun k_8 hk_8 => K_8 k_8 hk_8) ez_N
  refine lv_iconst (v := 1) hx hb dX12_doorsTo_0 (by decide) ?_
  refine lv_iload_n hx hb dX12_doorsTo_1 rfl (lv_at hl 1 rfl) ?_
  refine lv_ishl hx hb dX12_doorsTo_2 ?_
  refine ez_top h (fun t_2 h => ?_)
  refine lv_istore (lv' := [(4, .int t_2), (0, .ref (B + h0)), (1, .int x1), (2, .int x2), (3, .int x3)]) hx hb dX12_doorsTo_3 hl (by decide) rfl (fun ls hl => ?_)
  refine lv_iconst (v := 0) hx hb dX12_doorsTo_5 (by decide) ?_
  refine lv_istore (lv' := [(5, .int 0), (4, .int t_2), (0, .ref (B + h0)), (1, .int x1), (2, .int x2), (3, .int x3)]) hx hb dX12_doorsTo_6 hl (by decide) rfl (fun ls hl => ?_)
  exact E_8  h0 x2 x3 t_2 (0 : Int32) _ _ _ hS h (lv_sub hl [2, 4, 5, 1, 0] rfl)
set_option maxHeartbeats 4000000 in
set_option maxRecDepth 100000 in
theorem c_X12_otherSide {l : Launch} {X : ez_X} {B : Nat} {σ : ez_H} {h0 : Nat} {x1 : Int32} {x2 : Int32} {z : Int32} (h : z_X12_otherSide σ h0 x1 x2 = some z) : ez_M l X B σ yX12_otherSide cX12_otherSide 4 (some .int) 0 [.ref (B + h0), .int x1, .int x2] (some (.int z)) σ := by
  refine ez_startip (z := z) (by decide) (Nat.le_of_ble_eq_true rfl) (fun p e R s m args below meth c Q hC hret hS ls hl => ?_)
  have hC : ez_C p R s m args c X B RX12 cX12_otherSide 4 0 := hC
  have hx := hC.1.1
  have hb := hC.1.2.1
  have hown := hC.1.2.2.2.1
  have hts := hC.1.2.2.2.2
  have hl : lv_has ls 4 [(0, .ref (B + h0)), (1, .int x1), (2, .int x2)] := hl
  obtain ⟨n0, e0⟩ : ∃ n0 : Nat, n0 = σ.length := ⟨_, rfl⟩
  rw [← e0] at hret hS
  obtain ⟨-, h⟩ := ez_in h
  have K_49 : ∀ (y0 : Int32) (H : Heap) (locs : List Loc) (ls : Array Slot), ez_S X B s.heap (n0) σ H locs → z_X12_otherSide_49 σ y0 = some z → lv_has ls 4 [] → W p l e R s m args below meth c H locs 0 0 Q (F0 m 49 ls [.int y0]) := by
    intro y0 H locs ls hS h hl
    exact hret _ _ _ _ _ (Option.some.inj h) rfl hS dX12_otherSide_49
  refine lv_bipush (v := 8) hx hb dX12_otherSide_0 (by decide) ?_
  refine lv_aload_n hx hb dX12_otherSide_2 rfl (lv_at hl 0 rfl) ?_
  refine eg_RX12_274 hC hS h dX12_otherSide_3 (fun t_3 h => ?_)
  refine lv_imul hx hb dX12_otherSide_6 ?_
  refine ez_top h (fun t_6 h => ?_)
  refine lv_iload_n hx hb dX12_otherSide_7 rfl (lv_at hl 1 rfl) ?_
  refine lv_iadd hx hb dX12_otherSide_8 ?_
  refine ez_top h (fun t_8 h => ?_)
  refine lv_istore_n (lv' := [(3, .int t_8), (0, .ref (B + h0)), (1, .int x1), (2, .int x2)]) hx hb dX12_otherSide_9 rfl hl (by decide) rfl (fun ls hl => ?_)
  refine lv_aload_n hx hb dX12_otherSide_10 rfl (lv_at hl 1 rfl) ?_
  refine eg_RX12_60 hC hS h dX12_otherSide_11 (fun t_11 h => ?_)
  refine lv_iload_n hx hb dX12_otherSide_14 rfl (lv_at hl 0 rfl) ?_
  refine ez_ial hC hS h dX12_otherSide_15 (fun t_15 h => ?_)
  refine lv_iload_n hx hb dX12_otherSide_16 rfl (lv_at hl 3 rfl) ?_
  refine lv_icmp_ne (tgt := 29) hx hb dX12_otherSide_17 (by decide) (fun c_17 => ?_) (fun c_17 => ?_)
  · replace h := ez_ifn h c_17
    refine lv_aload_n hx hb dX12_otherSide_29 rfl (lv_at hl 1 rfl) ?_
    refine eg_RX12_63 hC hS h dX12_otherSide_30 (fun t_30 h => ?_)
    refine lv_iload_n hx hb dX12_otherSide_33 rfl (lv_at hl 0 rfl) ?_
    refine ez_ial hC hS h dX12_otherSide_34 (fun t_34 h => ?_)
    refine lv_iload_n hx hb dX12_otherSide_35 rfl (lv_at hl 3 rfl) ?_
    refine lv_icmp_ne (tgt := 48) hx hb dX12_otherSide_36 (by decide) (fun c_36 => ?_) (fun c_36 => ?_)
    · replace h := ez_ifn h c_36
      refine lv_iconst (v := -1) hx hb dX12_otherSide_48 (by decide) ?_
      exact K_49  (-1 : Int32) _ _ _ hS h (lv_sub hl [] rfl)
    · replace h := ez_ifp h c_36
      refine lv_aload_n hx hb dX12_otherSide_39 rfl (lv_at hl 1 rfl) ?_
      refine eg_RX12_60 hC hS h dX12_otherSide_40 (fun t_40 h => ?_)
      refine lv_iload_n hx hb dX12_otherSide_43 rfl (lv_at hl 0 rfl) ?_
      refine ez_ial hC hS h dX12_otherSide_44 (fun t_44 h => ?_)
      refine lv_goto (tgt := 49) hx hb dX12_otherSide_45 (by decide) ?_
      exact K_49  t_44 _ _ _ hS h (lv_sub hl [] rfl)
  · replace h := ez_ifp h c_17
    refine lv_aload_n hx hb dX12_otherSide_20 rfl (lv_at hl 1 rfl) ?_
    refine eg_RX12_63 hC hS h dX12_otherSide_21 (fun t_21 h => ?_)
    refine lv_iload_n hx hb dX12_otherSide_24 rfl (lv_at hl 0 rfl) ?_
    refine ez_ial hC hS h dX12_otherSide_25 (fun t_25 h => ?_)
    refine lv_goto (tgt := 49) hx hb dX12_otherSide_26 (by decide) ?_
    exact K_49  t_25 _ _ _ hS h (lv_sub hl [] rfl)
set_option maxHeartbeats 4000000 in
set_option maxRecDepth 100000 in
theorem c_X12_route {l : Launch} {X : ez_X} {B : Nat} {σ : ez_H} {h0 : Nat} {x1 : Int32} {x2 : Int32} {z : Int32 × ez_H} (h : z_X12_route σ h0 x1 x2 = some z) : ez_M l X B σ yX12_route cX12_route 7 (some .int) 5 [.ref (B + h0), .int x1, .int x2] (some (.int z.1)) z.2 := by
  refine ez_starti (z := z) (by decide) (Nat.le_of_ble_eq_true rfl) (fun p e R s m args below meth c Q hC hret hS ls hl => ?_)
  have hC : ez_C p R s m args c X B RX12 cX12_route 7 5 := hC
  have hx := hC.1.1
  have hb := hC.1.2.1
  have hown := hC.1.2.2.2.1
  have hts := hC.1.2.2.2.2
  have hl : lv_has ls 7 [(0, .ref (B + h0)), (1, .int x1), (2, .int x2)] := hl
  obtain ⟨σ0, eσ⟩ : ∃ σ0 : ez_H, σ0 = σ := ⟨_, rfl⟩
  rw [← eσ] at hret
  have hS : ez_S X B s.heap σ0.length σ s.heap [] := eσ ▸ hS
  obtain ⟨-, h⟩ := ez_in h
  have K_21 : ∀ (σ : ez_H) (H : Heap) (locs : List Loc) (ls : Array Slot), ez_S X B s.heap (σ0.length) σ H locs → z_X12_route_21 σ = some z → lv_has ls 7 [] → W p l e R s m args below meth c H locs 0 0 Q (F0 m 21 ls []) := by
    intro σ H locs ls hS h hl
    refine lv_iconst (v := -1) hx hb dX12_route_21 (by decide) ?_
    exact hret _ _ _ _ _ _ (Option.some.inj h) rfl hS dX12_route_22
  have K_127 : ∀ (k_64 : ez_H → Nat → Int32 → Int32 → Int32 → Int32 → Option (Int32 × ez_H)) (hk_64 : ∀ (σ : ez_H) (h0 : Nat) (x2 : Int32) (x3 : Int32) (x4 : Int32) (x5 : Int32) (H : Heap) (locs : List Loc) (ls : Array Slot), ez_S X B s.heap (σ0.length) σ H locs → k_64 σ h0 x2 x3 x4 x5 = some z → lv_has ls 7 [(0, .ref (B + h0)), (2, .int x2), (3, .int x3), (4, .int x4), (5, .int x5)] → W p l e R s m args below meth c H locs 0 0 Q (F0 m 64 ls [])) (k_73 : ez_H → Nat → Int32 → Int32 → Int32 → Int32 → Int32 → Option (Int32 × ez_H)) (hk_73 : ∀ (σ : ez_H) (h0 : Nat) (x2 : Int32) (x3 : Int32) (x4 : Int32) (x5 : Int32) (x6 : Int32) (H : Heap) (locs : List Loc) (ls : Array Slot), ez_S X B s.heap (σ0.length) σ H locs → k_73 σ h0 x2 x3 x4 x5 x6 = some z → lv_has ls 7 [(0, .ref (B + h0)), (2, .int x2), (3, .int x3), (4, .int x4), (5, .int x5), (6, .int x6)] → W p l e R s m args below meth c H locs 0 0 Q (F0 m 73 ls [])), ∀ (σ : ez_H) (h0 : Nat) (x2 : Int32) (x3 : Int32) (x4 : Int32) (x5 : Int32) (x6 : Int32) (H : Heap) (locs : List Loc) (ls : Array Slot), ez_S X B s.heap (σ0.length) σ H locs → z_X12_route_127 k_64 k_73 σ h0 x2 x3 x4 x5 x6 = some z → lv_has ls 7 [(0, .ref (B + h0)), (2, .int x2), (3, .int x3), (4, .int x4), (5, .int x5), (6, .int x6)] → W p l e R s m args below meth c H locs 0 0 Q (F0 m 127 ls []) := by
    intro k_64 hk_64 k_73 hk_73 σ h0 x2 x3 x4 x5 x6 H locs ls hS h hl
    obtain ⟨t_127, e_127, h⟩ := ez_let_sp h
    refine lv_iinc (v := t_127) (lv' := [(6, .int t_127), (0, .ref (B + h0)), (2, .int x2), (3, .int x3), (4, .int x4), (5, .int x5)]) hx hb dX12_route_127 hl (k := 5) rfl (by rw [e_127]; rfl) (by decide) rfl (fun ls hl => ?_)
    refine lv_goto (tgt := 73) hx hb dX12_route_130 (by decide) ?_
    exact hk_73 σ h0 x2 x3 x4 x5 t_127 _ _ _ hS h (lv_sub hl [1, 2, 3, 4, 5, 0] rfl)
  have K_73 : ∀ (k_64 : ez_H → Nat → Int32 → Int32 → Int32 → Int32 → Option (Int32 × ez_H)) (hk_64 : ∀ (σ : ez_H) (h0 : Nat) (x2 : Int32) (x3 : Int32) (x4 : Int32) (x5 : Int32) (H : Heap) (locs : List Loc) (ls : Array Slot), ez_S X B s.heap (σ0.length) σ H locs → k_64 σ h0 x2 x3 x4 x5 = some z → lv_has ls 7 [(0, .ref (B + h0)), (2, .int x2), (3, .int x3), (4, .int x4), (5, .int x5)] → W p l e R s m args below meth c H locs 0 0 Q (F0 m 64 ls [])) (k_73 : ez_H → Nat → Int32 → Int32 → Int32 → Int32 → Int32 → Option (Int32 × ez_H)) (hk_73 : ∀ (σ : ez_H) (h0 : Nat) (x2 : Int32) (x3 : Int32) (x4 : Int32) (x5 : Int32) (x6 : Int32) (H : Heap) (locs : List Loc) (ls : Array Slot), ez_S X B s.heap (σ0.length) σ H locs → k_73 σ h0 x2 x3 x4 x5 x6 = some z → lv_has ls 7 [(0, .ref (B + h0)), (2, .int x2), (3, .int x3), (4, .int x4), (5, .int x5), (6, .int x6)] → W p l e R s m args below meth c H locs 0 0 Q (F0 m 73 ls [])), ∀ (σ : ez_H) (h0 : Nat) (x2 : Int32) (x3 : Int32) (x4 : Int32) (x5 : Int32) (x6 : Int32) (H : Heap) (locs : List Loc) (ls : Array Slot), ez_S X B s.heap (σ0.length) σ H locs → z_X12_route_73 k_64 k_73 σ h0 x2 x3 x4 x5 x6 = some z → lv_has ls 7 [(0, .ref (B + h0)), (2, .int x2), (3, .int x3), (4, .int x4), (5, .int x5), (6, .int x6)] → W p l e R s m args below meth c H locs 0 0 Q (F0 m 73 ls []) := by
    intro k_64 hk_64 k_73 hk_73 σ h0 x2 x3 x4 x5 x6 H locs ls hS h hl
    refine lv_iload_n hx hb dX12_route_73 rfl (lv_at hl 2 rfl) ?_
    refine lv_aload_n hx hb dX12_route_74 rfl (lv_at hl 0 rfl) ?_
    refine eg_RX12_66 hC hS h dX12_route_75 (fun t_75 h => ?_)
    refine lv_bipush (v := 8) hx hb dX12_route_78 (by decide) ?_
    refine lv_aload_n hx hb dX12_route_80 rfl (lv_at hl 0 rfl) ?_
    refine eg_RX12_274 hC hS h dX12_route_81 (fun t_81 h => ?_)
    refine lv_imul hx hb dX12_route_84 ?_
    refine ez_top h (fun t_84 h => ?_)
    refine lv_iload hx hb dX12_route_85 (lv_at hl 5 rfl) ?_
    refine lv_iadd hx hb dX12_route_87 ?_
    refine ez_top h (fun t_87 h => ?_)
    refine ez_ial hC hS h dX12_route_88 (fun t_88 h => ?_)
    refine ez_cSpi (As := [.int x3, .int t_88]) (rest := []) h (fun _ q => c_X12_bit q) hC k_X12_bit ql_RX12_261 rfl (by decide) hS hl.1 rfl (Nat.le_of_ble_eq_true rfl) ⟨Nat.zero_le _, Nat.zero_le _⟩ dX12_route_89 (fun t_89 H locs hS h => ?_)
    refine lv_if_eq (tgt := 127) hx hb dX12_route_92 (by decide) (fun c_92 => ?_) (fun c_92 => ?_)
    · replace h := ez_ifp h c_92
      exact K_127 k_64 hk_64 k_73 hk_73 σ h0 x2 x3 x4 x5 x6 _ _ _ hS h (lv_sub hl [0, 1, 2, 3, 4, 5] rfl)
    · replace h := ez_ifn h c_92
      refine lv_aload_n hx hb dX12_route_95 rfl (lv_at hl 0 rfl) ?_
      refine lv_iload hx hb dX12_route_96 (lv_at hl 5 rfl) ?_
      refine lv_iload hx hb dX12_route_98 (lv_at hl 3 rfl) ?_
      refine ez_cVpi (As := [.int x6, .int x4]) (rest := []) h (fun _ q => c_X12_otherSide q) hC k_X12_otherSide ql_RX12_583 rfl (by decide) hS (fun _ q => ez_rcv q) rfl hl.1 rfl (Nat.le_of_ble_eq_true rfl) ⟨Nat.zero_le _, Nat.zero_le _⟩ dX12_route_100 (fun t_100 H locs hS h => ?_)
      refine lv_if_lt (tgt := 127) hx hb dX12_route_103 (by decide) (fun c_103 => ?_) (fun c_103 => ?_)
      · replace h := ez_ifp h c_103
        exact K_127 k_64 hk_64 k_73 hk_73 σ h0 x2 x3 x4 x5 x6 _ _ _ hS h (lv_sub hl [0, 1, 2, 3, 4, 5] rfl)
      · replace h := ez_ifn h c_103
        refine lv_aload_n hx hb dX12_route_106 rfl (lv_at hl 0 rfl) ?_
        refine lv_aload_n hx hb dX12_route_107 rfl (lv_at hl 0 rfl) ?_
        refine lv_iload hx hb dX12_route_108 (lv_at hl 5 rfl) ?_
        refine lv_iload hx hb dX12_route_110 (lv_at hl 3 rfl) ?_
        refine ez_cVpi (As := [.int x6, .int x4]) (rest := [.ref (B + h0)]) h (fun _ q => c_X12_otherSide q) hC k_X12_otherSide ql_RX12_583 rfl (by decide) hS (fun _ q => ez_rcv q) rfl hl.1 rfl (Nat.le_of_ble_eq_true rfl) ⟨Nat.zero_le _, Nat.zero_le _⟩ dX12_route_112 (fun t_112 H locs hS h => ?_)
        refine lv_iload_n hx hb dX12_route_115 rfl (lv_at hl 1 rfl) ?_
        refine lv_iload_n hx hb dX12_route_116 rfl (lv_at hl 2 rfl) ?_
        refine ez_cVpi (As := [.int t_112, .int x2, .int x3]) (rest := []) h (fun _ q => c_X12_doorsTo q) hC k_X12_doorsTo ql_RX12_580 rfl (by decide) hS (fun _ q => ez_rcv q) rfl hl.1 rfl (Nat.le_of_ble_eq_true rfl) ⟨Nat.zero_le _, Nat.zero_le _⟩ dX12_route_117 (fun t_117 H locs hS h => ?_)
        refine lv_iload hx hb dX12_route_120 (lv_at hl 4 rfl) ?_
        refine lv_iconst (v := 1) hx hb dX12_route_122 (by decide) ?_
        refine lv_isub hx hb dX12_route_123 ?_
        refine ez_top h (fun t_123 h => ?_)
        refine lv_icmp_eq (tgt := 133) hx hb dX12_route_124 (by decide) (fun c_124 => ?_) (fun c_124 => ?_)
        · replace h := ez_ifp h c_124
          refine lv_aload_n hx hb dX12_route_133 rfl (lv_at hl 0 rfl) ?_
          refine eg_RX12_127 hC hS h dX12_route_134 (fun t_134 h => ?_)
          refine lv_aload_n hx hb dX12_route_137 rfl (lv_at hl 0 rfl) ?_
          refine eg_RX12_426 hC hS h dX12_route_138 (fun t_138 h => ?_)
          refine lv_iload hx hb dX12_route_141 (lv_at hl 5 rfl) ?_
          refine ez_ias hC hS h dX12_route_143 (fun σ H locs hS h => ?_)
          refine lv_aload_n hx hb dX12_route_144 rfl (lv_at hl 0 rfl) ?_
          refine lv_dup hx hb dX12_route_145 rfl ?_
          refine eg_RX12_426 hC hS h dX12_route_146 (fun t_146 h => ?_)
          refine lv_iconst (v := 1) hx hb dX12_route_149 (by decide) ?_
          refine lv_iadd hx hb dX12_route_150 ?_
          refine ez_top h (fun t_150 h => ?_)
          refine ep_RX12_426 hC hS h dX12_route_151 (fun σ H locs hS h => ?_)
          obtain ⟨t_154, e_154, h⟩ := ez_let_sp h
          refine lv_iinc (v := t_154) (lv' := [(5, .int t_154), (0, .ref (B + h0)), (2, .int x2), (3, .int x3), (4, .int x4), (6, .int x6)]) hx hb dX12_route_154 hl (k := 4) rfl (by rw [e_154]; rfl) (by decide) rfl (fun ls hl => ?_)
          refine lv_aload_n hx hb dX12_route_157 rfl (lv_at hl 1 rfl) ?_
          refine lv_iload hx hb dX12_route_158 (lv_at hl 5 rfl) ?_
          refine lv_iload hx hb dX12_route_160 (lv_at hl 4 rfl) ?_
          refine ez_cVpi (As := [.int x6, .int x4]) (rest := []) h (fun _ q => c_X12_otherSide q) hC k_X12_otherSide ql_RX12_583 rfl (by decide) hS (fun _ q => ez_rcv q) rfl hl.1 rfl (Nat.le_of_ble_eq_true rfl) ⟨Nat.zero_le _, Nat.zero_le _⟩ dX12_route_162 (fun t_162 H locs hS h => ?_)
          refine lv_istore (lv' := [(4, .int t_162), (5, .int t_154), (0, .ref (B + h0)), (2, .int x2), (3, .int x3), (6, .int x6)]) hx hb dX12_route_165 hl (by decide) rfl (fun ls hl => ?_)
          refine lv_goto (tgt := 64) hx hb dX12_route_167 (by decide) ?_
          exact hk_64 σ h0 x2 x3 t_162 t_154 _ _ _ hS h (lv_sub hl [2, 3, 4, 0, 1] rfl)
        · replace h := ez_ifn h c_124
          exact K_127 k_64 hk_64 k_73 hk_73 σ h0 x2 x3 x4 x5 x6 _ _ _ hS h (lv_sub hl [0, 1, 2, 3, 4, 5] rfl)
  have E_73 : ∀ (k_64 : ez_H → Nat → Int32 → Int32 → Int32 → Int32 → Option (Int32 × ez_H)) (hk_64 : ∀ (σ : ez_H) (h0 : Nat) (x2 : Int32) (x3 : Int32) (x4 : Int32) (x5 : Int32) (H : Heap) (locs : List Loc) (ls : Array Slot), ez_S X B s.heap (σ0.length) σ H locs → k_64 σ h0 x2 x3 x4 x5 = some z → lv_has ls 7 [(0, .ref (B + h0)), (2, .int x2), (3, .int x3), (4, .int x4), (5, .int x5)] → W p l e R s m args below meth c H locs 0 0 Q (F0 m 64 ls [])), ∀ (σ : ez_H) (h0 : Nat) (x2 : Int32) (x3 : Int32) (x4 : Int32) (x5 : Int32) (x6 : Int32) (H : Heap) (locs : List Loc) (ls : Array Slot), ez_S X B s.heap (σ0.length) σ H locs → (ez_fix (fun _ _ _ _ _ _ _ => none) (z_X12_route_73 k_64) ez_N) σ h0 x2 x3 x4 x5 x6 = some z → lv_has ls 7 [(0, .ref (B + h0)), (2, .int x2), (3, .int x3), (4, .int x4), (5, .int x5), (6, .int x6)] → W p l e R s m args below meth c H locs 0 0 Q (F0 m 73 ls []) := fun k_64 hk_64 => ez_fix_ind (fun k_73 : ez_H → Nat → Int32 → Int32 → Int32 → Int32 → Int32 → Option (Int32 × ez_H) => ∀ (σ : ez_H) (h0 : Nat) (x2 : Int32) (x3 : Int32) (x4 : Int32) (x5 : Int32) (x6 : Int32) (H : Heap) (locs : List Loc) (ls : Array Slot), ez_S X B s.heap (σ0.length) σ H locs → k_73 σ h0 x2 x3 x4 x5 x6 = some z → lv_has ls 7 [(0, .ref (B + h0)), (2, .int x2), (3, .int x3), (4, .int x4), (5, .int x5), (6, .int x6)] → W p l e R s m args below meth c H locs 0 0 Q (F0 m 73 ls [])) (fun _ _ _ _ _ _ _ _ _ _ _ h _ => by cases h) (fun k_73 hk_73 => K_73 k_64 hk_64 k_73 hk_73) ez_N
  have K_64 : ∀ (k_64 : ez_H → Nat → Int32 → Int32 → Int32 → Int32 → Option (Int32 × ez_H)) (hk_64 : ∀ (σ : ez_H) (h0 : Nat) (x2 : Int32) (x3 : Int32) (x4 : Int32) (x5 : Int32) (H : Heap) (locs : List Loc) (ls : Array Slot), ez_S X B s.heap (σ0.length) σ H locs → k_64 σ h0 x2 x3 x4 x5 = some z → lv_has ls 7 [(0, .ref (B + h0)), (2, .int x2), (3, .int x3), (4, .int x4), (5, .int x5)] → W p l e R s m args below meth c H locs 0 0 Q (F0 m 64 ls [])), ∀ (σ : ez_H) (h0 : Nat) (x2 : Int32) (x3 : Int32) (x4 : Int32) (x5 : Int32) (H : Heap) (locs : List Loc) (ls : Array Slot), ez_S X B s.heap (σ0.length) σ H locs → z_X12_route_64 k_64 σ h0 x2 x3 x4 x5 = some z → lv_has ls 7 [(0, .ref (B + h0)), (2, .int x2), (3, .int x3), (4, .int x4), (5, .int x5)] → W p l e R s m args below meth c H locs 0 0 Q (F0 m 64 ls []) := by
    intro k_64 hk_64 σ h0 x2 x3 x4 x5 H locs ls hS h hl
    refine lv_iload hx hb dX12_route_64 (lv_at hl 3 rfl) ?_
    refine lv_iload_n hx hb dX12_route_66 rfl (lv_at hl 1 rfl) ?_
    refine lv_icmp_eq (tgt := 170) hx hb dX12_route_67 (by decide) (fun c_67 => ?_) (fun c_67 => ?_)
    · replace h := ez_ifp h c_67
      refine lv_aload_n hx hb dX12_route_170 rfl (lv_at hl 0 rfl) ?_
      refine eg_RX12_426 hC hS h dX12_route_171 (fun t_171 h => ?_)
      exact hret _ _ _ _ _ _ (Option.some.inj h) rfl hS dX12_route_174
    · replace h := ez_ifn h c_67
      refine lv_iconst (v := 0) hx hb dX12_route_70 (by decide) ?_
      refine lv_istore (lv' := [(6, .int 0), (0, .ref (B + h0)), (2, .int x2), (3, .int x3), (4, .int x4), (5, .int x5)]) hx hb dX12_route_71 hl (by decide) rfl (fun ls hl => ?_)
      exact E_73 k_64 hk_64 σ h0 x2 x3 x4 x5 (0 : Int32) _ _ _ hS h (lv_sub hl [1, 2, 3, 4, 5, 0] rfl)
  have E_64 : ∀ (σ : ez_H) (h0 : Nat) (x2 : Int32) (x3 : Int32) (x4 : Int32) (x5 : Int32) (H : Heap) (locs : List Loc) (ls : Array Slot), ez_S X B s.heap (σ0.length) σ H locs → (ez_fix (fun _ _ _ _ _ _ => none) (z_X12_route_64) ez_N) σ h0 x2 x3 x4 x5 = some z → lv_has ls 7 [(0, .ref (B + h0)), (2, .int x2), (3, .int x3), (4, .int x4), (5, .int x5)] → W p l e R s m args below meth c H locs 0 0 Q (F0 m 64 ls []) := ez_fix_ind (fun k_64 : ez_H → Nat → Int32 → Int32 → Int32 → Int32 → Option (Int32 × ez_H) => ∀ (σ : ez_H) (h0 : Nat) (x2 : Int32) (x3 : Int32) (x4 : Int32) (x5 : Int32) (H : Heap) (locs : List Loc) (ls : Array Slot), ez_S X B s.heap (σ0.length) σ H locs → k_64 σ h0 x2 x3 x4 x5 = some z → lv_has ls 7 [(0, .ref (B + h0)), (2, .int x2), (3, .int x3), (4, .int x4), (5, .int x5)] → W p l e R s m args below meth c H locs 0 0 Q (F0 m 64 ls [])) (fun _ _ _ _ _ _ _ _ _ _ h _ => by cases h) (fun k_64 hk_64 => K_64 k_64 hk_64) ez_N
  refine lv_aload_n hx hb dX12_route_0 rfl (lv_at hl 0 rfl) ?_
  refine lv_iconst (v := 0) hx hb dX12_route_1 (by decide) ?_
  refine ep_RX12_426 hC hS h dX12_route_2 (fun σ H locs hS h => ?_)
  refine lv_aload_n hx hb dX12_route_5 rfl (lv_at hl 0 rfl) ?_
  refine lv_iload_n hx hb dX12_route_6 rfl (lv_at hl 1 rfl) ?_
  refine ez_cVpi (As := [.int x1]) (rest := []) h (fun _ q => c_X12_isPerson q) hC k_X12_isPerson ql_RX12_495 rfl (by decide) hS (fun _ q => ez_rcv q) rfl hl.1 rfl (Nat.le_of_ble_eq_true rfl) ⟨Nat.zero_le _, Nat.zero_le _⟩ dX12_route_7 (fun t_7 H locs hS h => ?_)
  refine lv_if_eq (tgt := 21) hx hb dX12_route_10 (by decide) (fun c_10 => ?_) (fun c_10 => ?_)
  · replace h := ez_ifp h c_10
    exact K_21  σ _ _ _ hS h (lv_sub hl [] rfl)
  · replace h := ez_ifn h c_10
    refine lv_aload_n hx hb dX12_route_13 rfl (lv_at hl 0 rfl) ?_
    refine lv_iload_n hx hb dX12_route_14 rfl (lv_at hl 2 rfl) ?_
    refine ez_cVpi (As := [.int x2]) (rest := []) h (fun _ q => c_X12_isRoom q) hC k_X12_isRoom ql_RX12_577 rfl (by decide) hS (fun _ q => ez_rcv q) rfl hl.1 rfl (Nat.le_of_ble_eq_true rfl) ⟨Nat.zero_le _, Nat.zero_le _⟩ dX12_route_15 (fun t_15 H locs hS h => ?_)
    refine lv_if_ne (tgt := 23) hx hb dX12_route_18 (by decide) (fun c_18 => ?_) (fun c_18 => ?_)
    · replace h := ez_ifn h c_18
      refine lv_aload_n hx hb dX12_route_23 rfl (lv_at hl 0 rfl) ?_
      refine lv_aload_n hx hb dX12_route_24 rfl (lv_at hl 0 rfl) ?_
      refine lv_iload_n hx hb dX12_route_25 rfl (lv_at hl 1 rfl) ?_
      refine ez_cVpi (As := [.int x1]) (rest := [.ref (B + h0)]) h (fun _ q => c_X12_keysOf q) hC k_X12_keysOf ql_RX12_498 rfl (by decide) hS (fun _ q => ez_rcv q) rfl hl.1 rfl (Nat.le_of_ble_eq_true rfl) ⟨Nat.zero_le _, Nat.zero_le _⟩ dX12_route_26 (fun t_26 H locs hS h => ?_)
      refine ez_cVpi (As := [.int t_26]) (rest := []) h (fun _ q => c_X12_locksWith q) hC k_X12_locksWith ql_RX12_571 rfl (by decide) hS (fun _ q => ez_rcv q) rfl hl.1 rfl (Nat.le_of_ble_eq_true rfl) ⟨Nat.zero_le _, Nat.zero_le _⟩ dX12_route_29 (fun t_29 H locs hS h => ?_)
      refine lv_istore_n (lv' := [(3, .int t_29), (0, .ref (B + h0)), (1, .int x1), (2, .int x2)]) hx hb dX12_route_32 rfl hl (by decide) rfl (fun ls hl => ?_)
      refine lv_aload_n hx hb dX12_route_33 rfl (lv_at hl 1 rfl) ?_
      refine eg_RX12_118 hC hS h dX12_route_34 (fun t_34 h => ?_)
      refine lv_bipush (v := 86) hx hb dX12_route_37 (by decide) ?_
      refine lv_iload_n hx hb dX12_route_39 rfl (lv_at hl 2 rfl) ?_
      refine lv_iadd hx hb dX12_route_40 ?_
      refine ez_top h (fun t_40 h => ?_)
      refine ez_ial hC hS h dX12_route_41 (fun t_41 h => ?_)
      refine lv_istore (lv' := [(4, .int t_41), (3, .int t_29), (0, .ref (B + h0)), (1, .int x1), (2, .int x2)]) hx hb dX12_route_42 hl (by decide) rfl (fun ls hl => ?_)
      refine lv_aload_n hx hb dX12_route_44 rfl (lv_at hl 2 rfl) ?_
      refine lv_iload hx hb dX12_route_45 (lv_at hl 0 rfl) ?_
      refine lv_iload_n hx hb dX12_route_47 rfl (lv_at hl 4 rfl) ?_
      refine lv_iload_n hx hb dX12_route_48 rfl (lv_at hl 1 rfl) ?_
      refine ez_cVpi (As := [.int t_41, .int x2, .int t_29]) (rest := []) h (fun _ q => c_X12_doorsTo q) hC k_X12_doorsTo ql_RX12_580 rfl (by decide) hS (fun _ q => ez_rcv q) rfl hl.1 rfl (Nat.le_of_ble_eq_true rfl) ⟨Nat.zero_le _, Nat.zero_le _⟩ dX12_route_49 (fun t_49 H locs hS h => ?_)
      refine lv_istore (lv' := [(5, .int t_49), (4, .int t_41), (3, .int t_29), (0, .ref (B + h0)), (1, .int x1), (2, .int x2)]) hx hb dX12_route_52 hl (by decide) rfl (fun ls hl => ?_)
      refine lv_iload hx hb dX12_route_54 (lv_at hl 0 rfl) ?_
      refine lv_ldcw hx hb hown (hts _ qc_RX12_528) dX12_route_56 ?_
      refine lv_icmp_ne (tgt := 64) hx hb dX12_route_59 (by decide) (fun c_59 => ?_) (fun c_59 => ?_)
      · replace h := ez_ifn h c_59
        exact E_64  σ h0 x2 t_29 t_41 t_49 _ _ _ hS h (lv_sub hl [3, 5, 2, 1, 0] rfl)
      · replace h := ez_ifp h c_59
        refine lv_iconst (v := -1) hx hb dX12_route_62 (by decide) ?_
        exact hret _ _ _ _ _ _ (Option.some.inj h) rfl hS dX12_route_63
    · replace h := ez_ifp h c_18
      exact K_21  σ _ _ _ hS h (lv_sub hl [] rfl)
