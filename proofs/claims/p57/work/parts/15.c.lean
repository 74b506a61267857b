theorem tq_ofWF {l : Launch} {y : MethodName} {ws ws' : List Cond} {rm : Room} {Pc : Array Value → State → Prop} {Qc : Array Value → State → Outcome → State → Prop} {mc ms : Nat} {free : Addr → Prop} {cc : ByteArray} {maxL : Nat} {ret : Option FieldType}
    (hy : plainFor y = true) (hw : ws = Cond.code y cc maxL ret :: ws')
    (body : ∀ p e s m args below meth c s₁, BodyLoose p l y (headSpec ws rm) cc maxL ret e s m args below meth c s₁ → c.maxLocals = maxL → Pc args s →
      W p l e (headSpec ws rm).room s m args below meth c s.heap [] 0 0 (MQ below Qc args s mc ms free) (entryFrame m args maxL)) : Met l y ws rm Pc Qc mc ms free := by
  refine MetFree.of_bodySF (code := cc) (maxLocals := maxL) (ret := ret) hy ?_ ?_
  · intro args s m h hn
    obtain ⟨meth, c, h1, h2, h3, h4, h5, h6, -, -⟩ := Cond.code_spec hn (atoms_spec (ws := ws) h _ (by rw [hw]; exact List.mem_cons_self))
    exact ⟨meth, c, h1, h2, h3, h4, h5, h6⟩
  · intro p e s m args below meth c s₁ B hml hP _
    have hh0 : s₁.heap = s.heap := by rw [B.state]; rfl
    obtain ⟨t, a1, o, b1, b2, b3⟩ := body p e s m args below meth c s₁ B hml hP s₁ hh0 (Stand.of_body B)
    exact ⟨t, o, a1, b1, b2, ⟨b3.1, b3.2⟩⟩
theorem tq_startipF {l : Launch} {X : tq_X} {Z : tq_Z} {f : Nat → va_E} {ty : FieldType} {y : MethodName} {cc : ByteArray} {maxL h : Nat} {vs : List Value} {rp : Option Value → Prop} (hy : plainFor y = true) (hvs : (lg_sl vs).length ≤ maxL) (body : ∀ (p : Program) (e : Env) (R : Room) (s : State) (m : MethodId) (args : Array Value) (below : List Frame) (meth : Method) (c : Code) (Q : State → Prop), tq_C p R s m args c X (tq_A Z) y.cls cc maxL h → (∀ (v : Int32) (ls : Array Slot) (pc : Nat), narrow ty (.int v) = .int v → rp (some (.int v)) → decode cc pc = .ok (.ireturn, 1) → W p l e R s m args below meth c s.heap [] 0 0 Q (F0 m pc ls [.int v])) → tq_S X Z (tq_A Z) s.heap f [] f s.heap [] → ∀ ls : Array Slot, lv_has ls maxL (lv_args 0 vs) → W p l e R s m args below meth c s.heap [] 0 0 Q (F0 m 0 ls [])) : tq_Mp l X Z f y cc maxL (some ty) h vs rp := by
  refine tq_ofWF (cc := cc) (maxL := maxL) (ret := some ty) hy rfl ?_
  intro p e s m args below meth c s₁ B hml hv
  obtain ⟨rfl, ⟨hf, hP⟩, hK, hV⟩ := hv
  have hts := atoms_spec (ws := Cond.code y cc maxL (some ty) :: tq_tbl) B.pre
  have hlocks := B.notSynchronized
  have hl := lv_entry vs (n := maxL) hvs
  rw [lg_entry_eq]
  generalize (lg_sl vs ++ List.replicate (maxL - (lg_sl vs).length) Slot.unset).toArray = ls at hl ⊢
  exact body p e _ s m _ below meth c _ ⟨⟨B.exec, B.bytes, hml, findClass_of_methodNamed B.named, fun w hw => hts w (List.mem_cons_of_mem _ hw)⟩, hK, Nat.le_refl _, Nat.le_refl _, hV⟩ (fun v ls pc hn hp hd => W.zret B.exec B.bytes B.returns hn (fun t ht hW => ⟨_, rfl, hp, ht⟩) (fun q hq => by cases hq) hd) ⟨hf, hP, va_S.rf, tq_k.rf, fun _ h9 => h9⟩ ls hl
theorem fm_q (x : Int32) : (x / 41).toInt = x.toInt.tdiv 41 := by
  rw [Int32.toInt_div_of_ne_right x 41 (by decide)]
  rfl
theorem fm_rem (x : Int32) : (x - x / 41 * 41).toInt = x.toInt - x.toInt.tdiv 41 * 41 := by
  have h1 := (tq_top x).1
  have h2 := (tq_top x).2
  have hq := fm_q x
  have h41 : (41 : Int32).toInt = 41 := by decide
  have hb : -52377650 ≤ x.toInt.tdiv 41 ∧ x.toInt.tdiv 41 ≤ 52377650 ∧ -40 ≤ x.toInt - x.toInt.tdiv 41 * 41 ∧ x.toInt - x.toInt.tdiv 41 * 41 ≤ 40 := by
    rcases Int.le_total 0 x.toInt with h | h
    · rw [Int.tdiv_eq_ediv_of_nonneg h]; omega
    · obtain ⟨y, hy⟩ : ∃ y : Int, x.toInt = -y := ⟨-x.toInt, by omega⟩
      rw [hy, Int.neg_tdiv, Int.tdiv_eq_ediv_of_nonneg (by omega)]; omega
  have h3 : -2147483648 ≤ x.toInt.tdiv 41 * 41 ∧ x.toInt.tdiv 41 * 41 ≤ 2147483647 := by
    rcases Int.le_total 0 x.toInt with h | h
    · rw [Int.tdiv_eq_ediv_of_nonneg h]; omega
    · obtain ⟨y, hy⟩ : ∃ y : Int, x.toInt = -y := ⟨-x.toInt, by omega⟩
      rw [hy, Int.neg_tdiv, Int.tdiv_eq_ediv_of_nonneg (by omega)]; omega
  rw [Int32.toInt_sub, Int32.toInt_mul, hq, h41]
  rw [tq_bm (z := x.toInt.tdiv 41 * 41) h3.1 h3.2]
  exact tq_bm (by omega) (by omega)
theorem fm_iv (x : Int32) : tq_iv (-40) 40 (x - x / 41 * 41) ∧ (0 ≤ x.toInt → tq_iv 0 40 (x - x / 41 * 41)) ∧ (x.toInt < 0 → tq_iv (-40) 0 (x - x / 41 * 41)) := by
  unfold tq_iv
  rw [fm_rem]
  rcases Int.le_total 0 x.toInt with h | h
  · rw [Int.tdiv_eq_ediv_of_nonneg h]; refine ⟨⟨by omega, by omega⟩, fun _ => ⟨by omega, by omega⟩, fun q => ⟨by omega, by omega⟩⟩
  · obtain ⟨y, hy⟩ : ∃ y : Int, x.toInt = -y := ⟨-x.toInt, by omega⟩
    rw [hy, Int.neg_tdiv, Int.tdiv_eq_ediv_of_nonneg (by omega)]; refine ⟨⟨by omega, by omega⟩, fun q => ⟨by omega, by omega⟩, fun q => ⟨by omega, by omega⟩⟩
theorem fm_neg (x : Int32) : x.toInt < 0 ↔ x.toBitVec.msb = true := by
  show x.toBitVec.toInt < 0 ↔ _
  rw [BitVec.toInt_neg_iff, BitVec.msb_eq_decide]
  simp
  omega
theorem fm_xor (x : Int32) : (x ^^^ 41).toInt < 0 ↔ x.toInt < 0 := by
  rw [fm_neg, fm_neg, Int32.toBitVec_xor, BitVec.msb_xor]
  have : (41 : Int32).toBitVec.msb = false := by decide
  rw [this, Bool.xor_false]
set_option maxHeartbeats 4000000 in
set_option maxRecDepth 100000 in
theorem c_J9_floorMod_7cf53 (l : Launch) (X : tq_X) (Z : tq_Z) (f : Nat → va_E) (x0 : Int32) (x1 : Int32) (i_x1 : tq_iv 41 41 x1) : tq_Mp l X Z f yJ9_floorMod_7cf53 cJ9_floorMod_7cf53 3 (some .int) 0 [.int x0, .int x1] (tq_ri 0 40) := by
  obtain rfl : x1 = 41 := Int32.toInt_inj.mp (by have := i_x1.1; have := i_x1.2; have h1 : (41 : Int32).toInt = 41 := (by decide); omega)
  refine tq_startipF (by decide +kernel) (Nat.le_of_ble_eq_true rfl) (fun p e R s m args below meth c Q hC hret hS ls hl => ?_)
  have hC : tq_C p R s m args c X (tq_A Z) RJ9 cJ9_floorMod_7cf53 3 0 := hC
  have hx := hC.1.1
  have hb := hC.1.2.1
  have hl : lv_has ls 3 [(0, .int x0), (1, .int 41)] := hl
  obtain ⟨f1, f2, f3⟩ := fm_iv x0
  refine lv_iload_n hx hb dJ9_floorMod_7cf53_0 rfl (lv_at hl 0 rfl) ?_
  refine lv_iload_n hx hb dJ9_floorMod_7cf53_1 rfl (lv_at hl 1 rfl) ?_
  refine lv_irem hx hb dJ9_floorMod_7cf53_2 (by decide) ?_
  refine lv_topi (fun t_2 e_2 => ?_)
  rw [← e_2] at f1 f2 f3
  refine lv_istore_n (lv' := [(2, .int t_2), (0, .int x0), (1, .int 41)]) hx hb dJ9_floorMod_7cf53_3 rfl hl (by decide) rfl (fun ls hl => ?_)
  refine lv_iload_n hx hb dJ9_floorMod_7cf53_4 rfl (lv_at hl 1 rfl) ?_
  refine lv_iload_n hx hb dJ9_floorMod_7cf53_5 rfl (lv_at hl 2 rfl) ?_
  refine lv_ixor hx hb dJ9_floorMod_7cf53_6 ?_
  have K_18 : tq_iv 0 40 t_2 → W p l e R s m args below meth c s.heap [] 0 0 Q (F0 m 18 ls []) := by
    intro h0
    refine lv_iload_n hx hb dJ9_floorMod_7cf53_18 rfl (lv_at hl 0 rfl) ?_
    exact hret t_2 _ _ rfl ⟨_, rfl, h0⟩ dJ9_floorMod_7cf53_19
  have hz : (0 : Int32).toInt = 0 := by decide
  refine lv_if_ge (tgt := 18) hx hb dJ9_floorMod_7cf53_7 (by decide) (fun c_7 => ?_) (fun c_7 => ?_)
  · rw [Int32.le_iff_toInt_le, hz] at c_7
    have hn : ¬ x0.toInt < 0 := fun q => by have := (fm_xor x0).mpr q; omega
    exact K_18 (f2 (by omega))
  · rw [Int32.le_iff_toInt_le, hz] at c_7
    have hn : x0.toInt < 0 := (fm_xor x0).mp (by omega)
    have f4 := f3 hn
    refine lv_iload_n hx hb dJ9_floorMod_7cf53_10 rfl (lv_at hl 0 rfl) ?_
    refine lv_if_eq (tgt := 18) hx hb dJ9_floorMod_7cf53_11 (by decide) (fun c_11 => ?_) (fun c_11 => ?_)
    · exact K_18 (by rw [c_11]; exact ⟨by decide, by decide⟩)
    · refine lv_iload_n hx hb dJ9_floorMod_7cf53_14 rfl (lv_at hl 0 rfl) ?_
      refine lv_iload_n hx hb dJ9_floorMod_7cf53_15 rfl (lv_at hl 2 rfl) ?_
      refine lv_iadd hx hb dJ9_floorMod_7cf53_16 ?_
      refine lv_topi (fun t_16 e_16 => ?_)
      have f5 := tq_add e_16 f4 (⟨by decide, by decide⟩ : tq_iv 41 41 41) (by decide) (by decide)
      have f6 : ¬ t_2.toInt = 0 := fun q => c_11 (Int32.toInt_inj.mp (by rw [q, hz]))
      have f7 : t_16.toInt = t_2.toInt + 41 := by rw [e_16, tq_addT f4 (⟨by decide, by decide⟩ : tq_iv 41 41 41) (by decide) (by decide)]; rfl
      have f8 := f4.1
      have f9 := f4.2
      exact hret t_16 _ _ rfl ⟨_, rfl, ⟨by omega, by omega⟩⟩ dJ9_floorMod_7cf53_17
set_option maxHeartbeats 4000000 in
set_option maxRecDepth 100000 in
theorem c_X1_slot (l : Launch) (X : tq_X) (Z : tq_Z) (f : Nat → va_E) (h0 : Nat) (z_h0 : tq_z Z h0 (.inl 1)) (x1 : Int32) : tq_Mp l X Z f yX1_slot cX1_slot 2 (some (.object "PinPlan$State")) 1 [.ref h0, .int x1] (tq_rr Z (.inl 7)) := by
  refine tq_startrp (Or.inl ⟨_, rfl⟩) (by decide) (Nat.le_of_ble_eq_true rfl) (fun p e R s m args below meth c Q hC hret hS ls hl => ?_)
  have hC : tq_C p R s m args c X (tq_A Z) RX1 cX1_slot 2 1 := hC
  have hx := hC.1.1
  have hb := hC.1.2.1
  have hown := hC.1.2.2.2.1
  have hts := hC.1.2.2.2.2
  have hl : lv_has ls 2 [(0, .ref h0), (1, .int x1)] := hl
  refine lv_aload_n hx hb dX1_slot_0 rfl (lv_at hl 0 rfl) ?_
  refine gf_RX1_11 hC hS z_h0 dX1_slot_1 (fun t_1 p_1 q_1 => ?_)
  refine lv_aload_n hx hb dX1_slot_4 rfl (lv_at hl 0 rfl) ?_
  refine gf_RX1_16 hC hS z_h0 dX1_slot_5 (fun t_5 p_5 q_5 => ?_)
  refine lv_iload_n hx hb dX1_slot_8 rfl (lv_at hl 1 rfl) ?_
  refine lv_iadd hx hb dX1_slot_9 ?_
  refine lv_topi (fun t_9 e_9 => ?_)
  refine lv_bipush (v := 41) hx hb dX1_slot_10 (by decide) ?_
  refine tq_callSpi (As := [.int t_9, .int 41]) (rest := [.ref t_1]) hC (c_J9_floorMod_7cf53 l X Z _ t_9 41 (tq_w (⟨by decide, by decide⟩ : tq_iv 41 41 41) (by decide) (by decide))) k_J9_floorMod_7cf53 ql_RX1_26 rfl (by decide) hS hl.1 rfl (Nat.le_of_ble_eq_true rfl) ⟨Nat.zero_le _, Nat.zero_le _⟩ dX1_slot_12 (fun t_12 p_12 => ?_)
  refine tq_sald hC hS p_1 (tq_vin p_12 (by decide) (by decide)) dX1_slot_15 (fun t_15 p_15 => ?_)
  exact hret t_15 _ _ ⟨_, rfl, p_15⟩ dX1_slot_16
set_option maxHeartbeats 4000000 in
set_option maxRecDepth 100000 in
theorem c_X1_keep (l : Launch) (X : tq_X) (Z : tq_Z) (f : Nat → va_E) (h0 : Nat) (z_h0 : tq_z Z h0 (.inl 1)) (h1 : Nat) (z_h1 : tq_z Z h1 (.inl 7)) : tq_M l X Z f [(1, 1), (1, 2), (1, 3)] yX1_keep cX1_keep 2 (none) 2 [.ref h0, .ref h1] tq_rv := by
  refine tq_startv (by decide) (Nat.le_of_ble_eq_true rfl) (fun p e R s m args below meth c Q hC hret hS ls hl => ?_)
  have hC : tq_C p R s m args c X (tq_A Z) RX1 cX1_keep 2 2 := hC
  have hx := hC.1.1
  have hb := hC.1.2.1
  have hown := hC.1.2.2.2.1
  have hts := hC.1.2.2.2.2
  have hl : lv_has ls 2 [(0, .ref h0), (1, .ref h1)] := hl
  generalize hf0 : f = f0 at hret
  have hS : tq_S X Z (tq_A Z) s.heap f0 [(1, 1), (1, 2), (1, 3)] f s.heap [] := hf0 ▸ hS
  refine lv_aload_n hx hb dX1_keep_0 rfl (lv_at hl 0 rfl) ?_
  refine gf_RX1_20 hC hS z_h0 dX1_keep_1 (fun t_1 p_1 q_1 => ?_)
  refine lv_bipush (v := 40) hx hb dX1_keep_4 (by decide) ?_
  have K_32 : ∀ (f : Nat → va_E) (H : Heap) (locs : List Loc) (ls : Array Slot), tq_S X Z (tq_A Z) s.heap f0 [(1, 1), (1, 2), (1, 3)] f H locs → lv_has ls 2 [(0, .ref h0), (1, .ref h1)] → W p l e R s m args below meth c H locs 0 0 Q (F0 m 32 ls []) := by
    intro f H locs ls  hS hl
    refine lv_aload_n hx hb dX1_keep_32 rfl (lv_at hl 0 rfl) ?_
    refine lv_aload_n hx hb dX1_keep_33 rfl (lv_at hl 0 rfl) ?_
    refine gf_RX1_20 hC hS z_h0 dX1_keep_34 (fun t_34 p_34 q_34 => ?_)
    refine tq_callVpr (As := [.int t_34]) (rest := []) hC (c_X1_slot l X Z _ h0 z_h0 t_34) k_X1_slot ql_RX1_32 rfl (by decide) hS z_h0 rfl hl.1 rfl (Nat.le_of_ble_eq_true rfl) ⟨Nat.zero_le _, Nat.zero_le _⟩ dX1_keep_37 (fun t_37 p_37 => ?_)
    refine lv_aload_n hx hb dX1_keep_40 rfl (lv_at hl 1 rfl) ?_
    refine tq_callVv (As := [.ref h1]) (rest := []) hC (c_X7_copyFrom l X Z _ t_37 p_37 h1 z_h1) k_X7_copyFrom ql_RX1_36 (by decide) rfl (by decide) hS p_37 rfl hl.1 rfl (Nat.le_of_ble_eq_true rfl) ⟨Nat.zero_le _, Nat.zero_le _⟩ dX1_keep_41 (fun f1_41 H locs hS k_41 => ?_)
    refine lv_aload_n hx hb dX1_keep_44 rfl (lv_at hl 0 rfl) ?_
    refine lv_dup hx hb dX1_keep_45 rfl ?_
    refine gf_RX1_20 hC hS z_h0 dX1_keep_46 (fun t_46 p_46 q_46 => ?_)
    refine lv_iconst (v := 1) hx hb dX1_keep_49 (by decide) ?_
    refine lv_iadd hx hb dX1_keep_50 ?_
    refine lv_topi (fun t_50 e_50 => ?_)
    refine pf_RX1_20 hC hS z_h0 (by decide) trivial dX1_keep_51 (fun f H locs hS q_51 k_51 => ?_)
    refine lv_aload_n hx hb dX1_keep_54 rfl (lv_at hl 0 rfl) ?_
    refine lv_aload_n hx hb dX1_keep_55 rfl (lv_at hl 0 rfl) ?_
    refine gf_RX1_20 hC hS z_h0 dX1_keep_56 (fun t_56 p_56 q_56 => ?_)
    refine pf_RX1_23 hC hS z_h0 (by decide) trivial dX1_keep_59 (fun f H locs hS q_59 k_59 => ?_)
    exact hret _ _ _ _ _ rfl hS dX1_keep_62
  refine lv_icmp_lt (tgt := 32) hx hb dX1_keep_6 (by decide) (fun c_6 => ?_) (fun c_6 => ?_)
  · skip
    have i1_t_1 : tq_iv (-2147483648) 39 t_1 := tq_cut (tq_top t_1) (tq_ltL c_6 (tq_top t_1) (⟨by decide, by decide⟩ : tq_iv 40 40 40)) (by decide) (by decide)
    exact K_32 _ _ _ _ hS (lv_sub hl [0, 1] rfl)
  · skip
    have i2_t_1 : tq_iv 40 2147483647 t_1 := tq_cut (tq_top t_1) (tq_leR (tq_nlt c_6) (⟨by decide, by decide⟩ : tq_iv 40 40 40) (tq_top t_1)) (by decide) (by decide)
    refine lv_aload_n hx hb dX1_keep_9 rfl (lv_at hl 0 rfl) ?_
    refine lv_aload_n hx hb dX1_keep_10 rfl (lv_at hl 0 rfl) ?_
    refine gf_RX1_16 hC hS z_h0 dX1_keep_11 (fun t_11 p_11 q_11 => ?_)
    refine lv_iconst (v := 1) hx hb dX1_keep_14 (by decide) ?_
    refine lv_iadd hx hb dX1_keep_15 ?_
    refine lv_topi (fun t_15 e_15 => ?_)
    refine lv_bipush (v := 41) hx hb dX1_keep_16 (by decide) ?_
    refine lv_irem hx hb dX1_keep_18 (tq_nz (⟨by decide, by decide⟩ : tq_iv 41 41 41) (by decide)) ?_
    refine lv_topi (fun t_18 e_18 => ?_)
    refine pf_RX1_16 hC hS z_h0 (by decide) trivial dX1_keep_19 (fun f H locs hS q_19 k_19 => ?_)
    refine lv_aload_n hx hb dX1_keep_22 rfl (lv_at hl 0 rfl) ?_
    refine lv_dup hx hb dX1_keep_23 rfl ?_
    refine gf_RX1_20 hC hS z_h0 dX1_keep_24 (fun t_24 p_24 q_24 => ?_)
    refine lv_iconst (v := 1) hx hb dX1_keep_27 (by decide) ?_
    refine lv_isub hx hb dX1_keep_28 ?_
    refine lv_topi (fun t_28 e_28 => ?_)
    refine pf_RX1_20 hC hS z_h0 (by decide) trivial dX1_keep_29 (fun f H locs hS q_29 k_29 => ?_)
    exact K_32 _ _ _ _ hS (lv_sub hl [0, 1] rfl)
set_option maxHeartbeats 4000000 in
set_option maxRecDepth 100000 in
theorem c_X3_otherSide (l : Launch) (X : tq_X) (Z : tq_Z) (f : Nat → va_E) (h0 : Nat) (z_h0 : tq_z Z h0 (.inl 3)) (x1 : Int32) (x2 : Int32) : tq_Mp l X Z f yX3_otherSide cX3_otherSide 3 (some .int) 2 [.ref h0, .int x1, .int x2] (tq_ri (-2147483648) 2147483647) := by
  refine tq_startip (by decide) (Nat.le_of_ble_eq_true rfl) (fun p e R s m args below meth c Q hC hret hS ls hl => ?_)
  have hC : tq_C p R s m args c X (tq_A Z) RX3 cX3_otherSide 3 2 := hC
  have hx := hC.1.1
  have hb := hC.1.2.1
  have hown := hC.1.2.2.2.1
  have hts := hC.1.2.2.2.2
  have hl : lv_has ls 3 [(0, .ref h0), (1, .int x1), (2, .int x2)] := hl
  refine lv_aload_n hx hb dX3_otherSide_0 rfl (lv_at hl 0 rfl) ?_
  refine lv_iload_n hx hb dX3_otherSide_1 rfl (lv_at hl 1 rfl) ?_
  refine tq_callVpi (As := [.int x1]) (rest := []) hC (c_X3_doorFrom l X Z _ h0 z_h0 x1) k_X3_doorFrom ql_RX3_104 rfl (by decide) hS z_h0 rfl hl.1 rfl (Nat.le_of_ble_eq_true rfl) ⟨Nat.zero_le _, Nat.zero_le _⟩ dX3_otherSide_2 (fun t_2 p_2 => ?_)
  refine lv_iload_n hx hb dX3_otherSide_5 rfl (lv_at hl 2 rfl) ?_
  refine lv_icmp_ne (tgt := 15) hx hb dX3_otherSide_6 (by decide) (fun c_6 => ?_) (fun c_6 => ?_)
  · skip
    refine lv_aload_n hx hb dX3_otherSide_15 rfl (lv_at hl 0 rfl) ?_
    refine lv_iload_n hx hb dX3_otherSide_16 rfl (lv_at hl 1 rfl) ?_
    refine tq_callVpi (As := [.int x1]) (rest := []) hC (c_X3_doorTo l X Z _ h0 z_h0 x1) k_X3_doorTo ql_RX3_108 rfl (by decide) hS z_h0 rfl hl.1 rfl (Nat.le_of_ble_eq_true rfl) ⟨Nat.zero_le _, Nat.zero_le _⟩ dX3_otherSide_17 (fun t_17 p_17 => ?_)
    refine lv_iload_n hx hb dX3_otherSide_20 rfl (lv_at hl 2 rfl) ?_
    have K_33 : ∀ (y0_33 : Int32) (ls : Array Slot), lv_has ls 3 [] → W p l e R s m args below meth c s.heap [] 0 0 Q (F0 m 33 ls [.int y0_33]) := by
      intro y0_33 ls  hl
      exact hret y0_33 _ _ rfl ⟨_, rfl, tq_w (tq_top y0_33) (by decide) (by decide)⟩ dX3_otherSide_33
    refine lv_icmp_ne (tgt := 32) hx hb dX3_otherSide_21 (by decide) (fun c_21 => ?_) (fun c_21 => ?_)
    · skip
      refine lv_iconst (v := -1) hx hb dX3_otherSide_32 (by decide) ?_
      exact K_33 (-1) _ (lv_sub hl [] rfl)
    · skip
      refine lv_aload_n hx hb dX3_otherSide_24 rfl (lv_at hl 0 rfl) ?_
      refine lv_iload_n hx hb dX3_otherSide_25 rfl (lv_at hl 1 rfl) ?_
      refine tq_callVpi (As := [.int x1]) (rest := []) hC (c_X3_doorFrom l X Z _ h0 z_h0 x1) k_X3_doorFrom ql_RX3_104 rfl (by decide) hS z_h0 rfl hl.1 rfl (Nat.le_of_ble_eq_true rfl) ⟨Nat.zero_le _, Nat.zero_le _⟩ dX3_otherSide_26 (fun t_26 p_26 => ?_)
      refine lv_goto (tgt := 33) hx hb dX3_otherSide_29 (by decide) ?_
      exact K_33 t_26 _ (lv_sub hl [] rfl)
  · skip
    refine lv_aload_n hx hb dX3_otherSide_9 rfl (lv_at hl 0 rfl) ?_
    refine lv_iload_n hx hb dX3_otherSide_10 rfl (lv_at hl 1 rfl) ?_
    refine tq_callVpi (As := [.int x1]) (rest := []) hC (c_X3_doorTo l X Z _ h0 z_h0 x1) k_X3_doorTo ql_RX3_108 rfl (by decide) hS z_h0 rfl hl.1 rfl (Nat.le_of_ble_eq_true rfl) ⟨Nat.zero_le _, Nat.zero_le _⟩ dX3_otherSide_11 (fun t_11 p_11 => ?_)
    exact hret t_11 _ _ rfl ⟨_, rfl, tq_w (tq_top t_11) (by decide) (by decide)⟩ dX3_otherSide_14
set_option maxHeartbeats 4000000 in
set_option maxRecDepth 100000 in
theorem c_X11_walk (l : Launch) (X : tq_X) (Z : tq_Z) (f : Nat → va_E) (h0 : Nat) (z_h0 : tq_z Z h0 (.inl 11)) (x1 : Int32) (x2 : Int32) : tq_M l X Z f [(1, 1), (1, 2), (1, 3)] yX11_walk cX11_walk 5 (some .int) 5 [.ref h0, .int x1, .int x2] (tq_ri (-2147483648) 2147483647) := by
  refine tq_starti (by decide) (Nat.le_of_ble_eq_true rfl) (fun p e R s m args below meth c Q hC hret hS ls hl => ?_)
  have hC : tq_C p R s m args c X (tq_A Z) RX11 cX11_walk 5 5 := hC
  have hx := hC.1.1
  have hb := hC.1.2.1
  have hown := hC.1.2.2.2.1
  have hts := hC.1.2.2.2.2
  have hl : lv_has ls 5 [(0, .ref h0), (1, .int x1), (2, .int x2)] := hl
  generalize hf0 : f = f0 at hret
  have hS : tq_S X Z (tq_A Z) s.heap f0 [(1, 1), (1, 2), (1, 3)] f s.heap [] := hf0 ▸ hS
  refine lv_aload_n hx hb dX11_walk_0 rfl (lv_at hl 0 rfl) ?_
  refine gf_RX11_29 hC hS z_h0 dX11_walk_1 (fun t_1 p_1 q_1 => ?_)
  refine lv_iload_n hx hb dX11_walk_4 rfl (lv_at hl 1 rfl) ?_
  refine tq_callVpi (As := [.int x1]) (rest := []) hC (c_X3_hasPerson l X Z _ t_1 p_1 x1) k_X3_hasPerson ql_RX11_200 rfl (by decide) hS p_1 rfl hl.1 rfl (Nat.le_of_ble_eq_true rfl) ⟨Nat.zero_le _, Nat.zero_le _⟩ dX11_walk_5 (fun t_5 p_5 => ?_)
  have K_22 : ∀ (f : Nat → va_E) (H : Heap) (locs : List Loc) (ls : Array Slot), tq_S X Z (tq_A Z) s.heap f0 [(1, 1), (1, 2), (1, 3)] f H locs → lv_has ls 5 [] → W p l e R s m args below meth c H locs 0 0 Q (F0 m 22 ls []) := by
    intro f H locs ls  hS hl
    refine lv_iconst (v := -1) hx hb dX11_walk_22 (by decide) ?_
    exact hret (-1) _ _ _ _ _ rfl ⟨_, rfl, tq_w (⟨by decide, by decide⟩ : tq_iv (-1) (-1) (-1)) (by decide) (by decide)⟩ hS dX11_walk_23
  refine lv_if_eq (tgt := 22) hx hb dX11_walk_8 (by decide) (fun c_8 => ?_) (fun c_8 => ?_)
  · skip
    have i1_t_5 : tq_iv 0 0 t_5 := tq_cut p_5 (tq_eqL c_8 (⟨by decide, by decide⟩ : tq_iv 0 0 0)) (by decide) (by decide)
    exact K_22 _ _ _ _ hS (lv_sub hl [] rfl)
  · skip
    have i2_t_5 : tq_iv 1 1 t_5 := tq_w (tq_neLo c_8 p_5 (⟨by decide, by decide⟩ : tq_iv 0 0 0)) (by decide) (by decide)
    refine lv_aload_n hx hb dX11_walk_11 rfl (lv_at hl 0 rfl) ?_
    refine gf_RX11_29 hC hS z_h0 dX11_walk_12 (fun t_12 p_12 q_12 => ?_)
    refine lv_iload_n hx hb dX11_walk_15 rfl (lv_at hl 2 rfl) ?_
    refine tq_callVpi (As := [.int x2]) (rest := []) hC (c_X3_hasDoor l X Z _ t_12 p_12 x2) k_X3_hasDoor ql_RX11_188 rfl (by decide) hS p_12 rfl hl.1 rfl (Nat.le_of_ble_eq_true rfl) ⟨Nat.zero_le _, Nat.zero_le _⟩ dX11_walk_16 (fun t_16 p_16 => ?_)
    refine lv_if_ne (tgt := 24) hx hb dX11_walk_19 (by decide) (fun c_19 => ?_) (fun c_19 => ?_)
    · skip
      have i3_t_16 : tq_iv 1 1 t_16 := tq_w (tq_neLo c_19 p_16 (⟨by decide, by decide⟩ : tq_iv 0 0 0)) (by decide) (by decide)
      refine lv_aload_n hx hb dX11_walk_24 rfl (lv_at hl 0 rfl) ?_
      refine gf_RX11_29 hC hS z_h0 dX11_walk_25 (fun t_25 p_25 q_25 => ?_)
      refine lv_iload_n hx hb dX11_walk_28 rfl (lv_at hl 2 rfl) ?_
      refine lv_aload_n hx hb dX11_walk_29 rfl (lv_at hl 0 rfl) ?_
      refine gf_RX11_41 hC hS z_h0 dX11_walk_30 (fun t_30 p_30 q_30 => ?_)
      refine lv_iload_n hx hb dX11_walk_33 rfl (lv_at hl 1 rfl) ?_
      refine tq_callVpi (As := [.int x1]) (rest := [.int x2, .ref t_25]) hC (c_X7_room l X Z _ t_30 p_30 x1) k_X7_room ql_RX11_203 rfl (by decide) hS p_30 rfl hl.1 rfl (Nat.le_of_ble_eq_true rfl) ⟨Nat.zero_le _, Nat.zero_le _⟩ dX11_walk_34 (fun t_34 p_34 => ?_)
      refine tq_callVpi (As := [.int x2, .int t_34]) (rest := []) hC (c_X3_otherSide l X Z _ t_25 p_25 x2 t_34) k_X3_otherSide ql_RX11_219 rfl (by decide) hS p_25 rfl hl.1 rfl (Nat.le_of_ble_eq_true rfl) ⟨Nat.zero_le _, Nat.zero_le _⟩ dX11_walk_37 (fun t_37 p_37 => ?_)
      refine lv_istore_n (lv' := [(3, .int t_37), (0, .ref h0), (1, .int x1), (2, .int x2)]) hx hb dX11_walk_40 rfl hl (by decide) rfl (fun ls hl => ?_)
      refine lv_aload_n hx hb dX11_walk_41 rfl (lv_at hl 1 rfl) ?_
      refine gf_RX11_79 hC hS z_h0 dX11_walk_42 (fun t_42 p_42 q_42 => ?_)
      refine lv_aload_n hx hb dX11_walk_45 rfl (lv_at hl 1 rfl) ?_
      refine gf_RX11_29 hC hS z_h0 dX11_walk_46 (fun t_46 p_46 q_46 => ?_)
      refine lv_iload_n hx hb dX11_walk_49 rfl (lv_at hl 3 rfl) ?_
      refine tq_callVpi (As := [.int x2]) (rest := [.ref t_42]) hC (c_X3_doorLock l X Z _ t_46 p_46 x2) k_X3_doorLock ql_RX11_197 rfl (by decide) hS p_46 rfl hl.1 rfl (Nat.le_of_ble_eq_true rfl) ⟨Nat.zero_le _, Nat.zero_le _⟩ dX11_walk_50 (fun t_50 p_50 => ?_)
      refine tq_callVpi (As := [.int t_50]) (rest := []) hC (c_X2_keysFor l X Z _ t_42 p_42 t_50) k_X2_keysFor ql_RX11_176 rfl (by decide) hS p_42 rfl hl.1 rfl (Nat.le_of_ble_eq_true rfl) ⟨Nat.zero_le _, Nat.zero_le _⟩ dX11_walk_53 (fun t_53 p_53 => ?_)
      refine lv_aload_n hx hb dX11_walk_56 rfl (lv_at hl 1 rfl) ?_
      refine gf_RX11_41 hC hS z_h0 dX11_walk_57 (fun t_57 p_57 q_57 => ?_)
      refine lv_iload_n hx hb dX11_walk_60 rfl (lv_at hl 2 rfl) ?_
      refine lv_aload_n hx hb dX11_walk_61 rfl (lv_at hl 1 rfl) ?_
      refine gf_RX11_29 hC hS z_h0 dX11_walk_62 (fun t_62 p_62 q_62 => ?_)
      refine gf_RX11_128 hC hS p_62 dX11_walk_65 (fun t_65 p_65 q_65 => ?_)
      refine tq_callVpi (As := [.int x1, .int t_65]) (rest := [.int t_53]) hC (c_X7_heldBy l X Z _ t_57 p_57 x1 t_65) k_X7_heldBy ql_RX11_206 rfl (by decide) hS p_57 rfl hl.1 rfl (Nat.le_of_ble_eq_true rfl) ⟨Nat.zero_le _, Nat.zero_le _⟩ dX11_walk_68 (fun t_68 p_68 => ?_)
      refine lv_iand hx hb dX11_walk_71 ?_
      refine lv_topi (fun t_71 e_71 => ?_)
      refine lv_istore (lv' := [(4, .int t_71), (3, .int t_37), (0, .ref h0), (1, .int x1), (2, .int x2)]) hx hb dX11_walk_72 hl (by decide) rfl (fun ls hl => ?_)
      refine lv_iload_n hx hb dX11_walk_74 rfl (lv_at hl 1 rfl) ?_
      refine lv_iconst (v := -1) hx hb dX11_walk_75 (by decide) ?_
      have K_84 : ∀ (f : Nat → va_E) (H : Heap) (locs : List Loc) (ls : Array Slot), tq_S X Z (tq_A Z) s.heap f0 [(1, 1), (1, 2), (1, 3)] f H locs → lv_has ls 5 [] → W p l e R s m args below meth c H locs 0 0 Q (F0 m 84 ls []) := by
        intro f H locs ls  hS hl
        refine lv_iconst (v := -1) hx hb dX11_walk_84 (by decide) ?_
        exact hret (-1) _ _ _ _ _ rfl ⟨_, rfl, tq_w (⟨by decide, by decide⟩ : tq_iv (-1) (-1) (-1)) (by decide) (by decide)⟩ hS dX11_walk_85
      refine lv_icmp_eq (tgt := 84) hx hb dX11_walk_76 (by decide) (fun c_76 => ?_) (fun c_76 => ?_)
      · skip
        have i4_t_37 : tq_iv (-1) (-1) t_37 := tq_cut (tq_top t_37) (tq_eqL c_76 (⟨by decide, by decide⟩ : tq_iv (-1) (-1) (-1))) (by decide) (by decide)
        exact K_84 _ _ _ _ hS (lv_sub hl [] rfl)
      · skip
        refine lv_iload hx hb dX11_walk_79 (lv_at hl 0 rfl) ?_
        refine lv_if_ne (tgt := 86) hx hb dX11_walk_81 (by decide) (fun c_81 => ?_) (fun c_81 => ?_)
        · skip
          refine lv_aload_n hx hb dX11_walk_86 rfl (lv_at hl 2 rfl) ?_
          refine gf_RX11_51 hC hS z_h0 dX11_walk_87 (fun t_87 p_87 q_87 => ?_)
          refine lv_aload_n hx hb dX11_walk_90 rfl (lv_at hl 2 rfl) ?_
          refine gf_RX11_41 hC hS z_h0 dX11_walk_91 (fun t_91 p_91 q_91 => ?_)
          refine tq_callVv (As := [.ref t_91]) (rest := []) hC (c_X1_keep l X Z _ t_87 p_87 t_91 p_91) k_X1_keep ql_RX11_222 (by decide) rfl (by decide) hS p_87 rfl hl.1 rfl (Nat.le_of_ble_eq_true rfl) ⟨Nat.zero_le _, Nat.zero_le _⟩ dX11_walk_94 (fun f1_94 H locs hS k_94 => ?_)
          refine lv_aload_n hx hb dX11_walk_97 rfl (lv_at hl 2 rfl) ?_
          refine lv_aload_n hx hb dX11_walk_98 rfl (lv_at hl 2 rfl) ?_
          refine gf_RX11_41 hC hS z_h0 dX11_walk_99 (fun t_99 p_99 q_99 => ?_)
          refine lv_iload hx hb dX11_walk_102 (lv_at hl 0 rfl) ?_
          refine tq_callSpi (As := [.int t_71]) (rest := [.ref t_99, .ref h0]) hC (c_J6_numberOfTrailingZeros_0f7a4 l X Z _ t_71) k_J6_numberOfTrailingZeros_0f7a4 ql_RX11_225 rfl (by decide) hS hl.1 rfl (Nat.le_of_ble_eq_true rfl) ⟨Nat.zero_le _, Nat.zero_le _⟩ dX11_walk_104 (fun t_104 p_104 => ?_)
          refine tq_callVv (As := [.ref t_99, .int t_104]) (rest := []) hC (c_X11_useOnce l X Z _ h0 z_h0 t_99 p_99 t_104) k_X11_useOnce ql_RX11_228 (by decide) rfl (by decide) hS z_h0 rfl hl.1 rfl (Nat.le_of_ble_eq_true rfl) ⟨Nat.zero_le _, Nat.zero_le _⟩ dX11_walk_107 (fun f1_107 H locs hS k_107 => ?_)
          refine lv_aload_n hx hb dX11_walk_110 rfl (lv_at hl 2 rfl) ?_
          refine gf_RX11_41 hC hS z_h0 dX11_walk_111 (fun t_111 p_111 q_111 => ?_)
          refine lv_iload_n hx hb dX11_walk_114 rfl (lv_at hl 3 rfl) ?_
          refine lv_iload_n hx hb dX11_walk_115 rfl (lv_at hl 1 rfl) ?_
          refine tq_callVv (As := [.int x1, .int t_37]) (rest := []) hC (c_X7_putRoom l X Z _ t_111 p_111 x1 t_37) k_X7_putRoom ql_RX11_232 (by decide) rfl (by decide) hS p_111 rfl hl.1 rfl (Nat.le_of_ble_eq_true rfl) ⟨Nat.zero_le _, Nat.zero_le _⟩ dX11_walk_116 (fun f1_116 H locs hS k_116 => ?_)
          refine lv_iload_n hx hb dX11_walk_119 rfl (lv_at hl 1 rfl) ?_
          exact hret t_37 _ _ _ _ _ rfl ⟨_, rfl, tq_w (tq_top t_37) (by decide) (by decide)⟩ hS dX11_walk_120
        · skip
          have i5_t_71 : tq_iv 0 0 t_71 := tq_cut (tq_top t_71) (tq_eqL c_81 (⟨by decide, by decide⟩ : tq_iv 0 0 0)) (by decide) (by decide)
          exact K_84 _ _ _ _ hS (lv_sub hl [] rfl)
    · skip
      have i6_t_16 : tq_iv 0 0 t_16 := tq_cut p_16 (tq_eqL c_19 (⟨by decide, by decide⟩ : tq_iv 0 0 0)) (by decide) (by decide)
      exact K_22 _ _ _ _ hS (lv_sub hl [] rfl)
set_option maxHeartbeats 4000000 in
set_option maxRecDepth 100000 in
theorem c_X11_handOver (l : Launch) (X : tq_X) (Z : tq_Z) (f : Nat → va_E) (h0 : Nat) (z_h0 : tq_z Z h0 (.inl 11)) (x1 : Int32) (x2 : Int32) : tq_M l X Z f [(1, 1), (1, 2), (1, 3)] yX11_handOver cX11_handOver 4 (some .int) 3 [.ref h0, .int x1, .int x2] (tq_ri (-2147483648) 2147483647) := by
  refine tq_starti (by decide) (Nat.le_of_ble_eq_true rfl) (fun p e R s m args below meth c Q hC hret hS ls hl => ?_)
  have hC : tq_C p R s m args c X (tq_A Z) RX11 cX11_handOver 4 3 := hC
  have hx := hC.1.1
  have hb := hC.1.2.1
  have hown := hC.1.2.2.2.1
  have hts := hC.1.2.2.2.2
  have hl : lv_has ls 4 [(0, .ref h0), (1, .int x1), (2, .int x2)] := hl
  generalize hf0 : f = f0 at hret
  have hS : tq_S X Z (tq_A Z) s.heap f0 [(1, 1), (1, 2), (1, 3)] f s.heap [] := hf0 ▸ hS
  refine lv_aload_n hx hb dX11_handOver_0 rfl (lv_at hl 0 rfl) ?_
  refine gf_RX11_41 hC hS z_h0 dX11_handOver_1 (fun t_1 p_1 q_1 => ?_)
  refine lv_iload_n hx hb dX11_handOver_4 rfl (lv_at hl 1 rfl) ?_
  refine tq_callVpi (As := [.int x1]) (rest := []) hC (c_X7_holder l X Z _ t_1 p_1 x1) k_X7_holder ql_RX11_152 rfl (by decide) hS p_1 rfl hl.1 rfl (Nat.le_of_ble_eq_true rfl) ⟨Nat.zero_le _, Nat.zero_le _⟩ dX11_handOver_5 (fun t_5 p_5 => ?_)
  refine lv_istore_n (lv' := [(3, .int t_5), (0, .ref h0), (1, .int x1), (2, .int x2)]) hx hb dX11_handOver_8 rfl hl (by decide) rfl (fun ls hl => ?_)
  refine lv_aload_n hx hb dX11_handOver_9 rfl (lv_at hl 1 rfl) ?_
  refine gf_RX11_51 hC hS z_h0 dX11_handOver_10 (fun t_10 p_10 q_10 => ?_)
  refine lv_aload_n hx hb dX11_handOver_13 rfl (lv_at hl 1 rfl) ?_
  refine gf_RX11_41 hC hS z_h0 dX11_handOver_14 (fun t_14 p_14 q_14 => ?_)
  refine tq_callVv (As := [.ref t_14]) (rest := []) hC (c_X1_keep l X Z _ t_10 p_10 t_14 p_14) k_X1_keep ql_RX11_222 (by decide) rfl (by decide) hS p_10 rfl hl.1 rfl (Nat.le_of_ble_eq_true rfl) ⟨Nat.zero_le _, Nat.zero_le _⟩ dX11_handOver_17 (fun f1_17 H locs hS k_17 => ?_)
  refine lv_aload_n hx hb dX11_handOver_20 rfl (lv_at hl 1 rfl) ?_
  refine gf_RX11_41 hC hS z_h0 dX11_handOver_21 (fun t_21 p_21 q_21 => ?_)
  refine lv_iload_n hx hb dX11_handOver_24 rfl (lv_at hl 2 rfl) ?_
  refine lv_iload_n hx hb dX11_handOver_25 rfl (lv_at hl 3 rfl) ?_
  refine tq_callVv (As := [.int x1, .int x2]) (rest := []) hC (c_X7_putHolder l X Z _ t_21 p_21 x1 x2) k_X7_putHolder ql_RX11_276 (by decide) rfl (by decide) hS p_21 rfl hl.1 rfl (Nat.le_of_ble_eq_true rfl) ⟨Nat.zero_le _, Nat.zero_le _⟩ dX11_handOver_26 (fun f1_26 H locs hS k_26 => ?_)
  refine lv_iload_n hx hb dX11_handOver_29 rfl (lv_at hl 0 rfl) ?_
  exact hret t_5 _ _ _ _ _ rfl ⟨_, rfl, tq_w (tq_top t_5) (by decide) (by decide)⟩ hS dX11_handOver_30
set_option maxHeartbeats 4000000 in
set_option maxRecDepth 100000 in
theorem c_X11_give (l : Launch) (X : tq_X) (Z : tq_Z) (f : Nat → va_E) (h0 : Nat) (z_h0 : tq_z Z h0 (.inl 11)) (x1 : Int32) (x2 : Int32) : tq_M l X Z f [(1, 1), (1, 2), (1, 3)] yX11_give cX11_give 4 (some .int) 4 [.ref h0, .int x1, .int x2] (tq_ri (-2147483648) 2147483647) := by
  refine tq_starti (by decide) (Nat.le_of_ble_eq_true rfl) (fun p e R s m args below meth c Q hC hret hS ls hl => ?_)
  have hC : tq_C p R s m args c X (tq_A Z) RX11 cX11_give 4 4 := hC
  have hx := hC.1.1
  have hb := hC.1.2.1
  have hown := hC.1.2.2.2.1
  have hts := hC.1.2.2.2.2
  have hl : lv_has ls 4 [(0, .ref h0), (1, .int x1), (2, .int x2)] := hl
  generalize hf0 : f = f0 at hret
  have hS : tq_S X Z (tq_A Z) s.heap f0 [(1, 1), (1, 2), (1, 3)] f s.heap [] := hf0 ▸ hS
  refine lv_aload_n hx hb dX11_give_0 rfl (lv_at hl 0 rfl) ?_
  refine gf_RX11_29 hC hS z_h0 dX11_give_1 (fun t_1 p_1 q_1 => ?_)
  refine lv_iload_n hx hb dX11_give_4 rfl (lv_at hl 1 rfl) ?_
  refine tq_callVpi (As := [.int x1]) (rest := []) hC (c_X3_hasKey l X Z _ t_1 p_1 x1) k_X3_hasKey ql_RX11_137 rfl (by decide) hS p_1 rfl hl.1 rfl (Nat.le_of_ble_eq_true rfl) ⟨Nat.zero_le _, Nat.zero_le _⟩ dX11_give_5 (fun t_5 p_5 => ?_)
  have K_22 : ∀ (f : Nat → va_E) (H : Heap) (locs : List Loc) (ls : Array Slot), tq_S X Z (tq_A Z) s.heap f0 [(1, 1), (1, 2), (1, 3)] f H locs → lv_has ls 4 [] → W p l e R s m args below meth c H locs 0 0 Q (F0 m 22 ls []) := by
    intro f H locs ls  hS hl
    refine lv_bipush (v := -3) hx hb dX11_give_22 (by decide) ?_
    exact hret (-3) _ _ _ _ _ rfl ⟨_, rfl, tq_w (⟨by decide, by decide⟩ : tq_iv (-3) (-3) (-3)) (by decide) (by decide)⟩ hS dX11_give_24
  refine lv_if_eq (tgt := 22) hx hb dX11_give_8 (by decide) (fun c_8 => ?_) (fun c_8 => ?_)
  · skip
    have i1_t_5 : tq_iv 0 0 t_5 := tq_cut p_5 (tq_eqL c_8 (⟨by decide, by decide⟩ : tq_iv 0 0 0)) (by decide) (by decide)
    exact K_22 _ _ _ _ hS (lv_sub hl [] rfl)
  · skip
    have i2_t_5 : tq_iv 1 1 t_5 := tq_w (tq_neLo c_8 p_5 (⟨by decide, by decide⟩ : tq_iv 0 0 0)) (by decide) (by decide)
    refine lv_aload_n hx hb dX11_give_11 rfl (lv_at hl 0 rfl) ?_
    refine gf_RX11_29 hC hS z_h0 dX11_give_12 (fun t_12 p_12 q_12 => ?_)
    refine lv_iload_n hx hb dX11_give_15 rfl (lv_at hl 2 rfl) ?_
    refine tq_callVpi (As := [.int x2]) (rest := []) hC (c_X3_hasPerson l X Z _ t_12 p_12 x2) k_X3_hasPerson ql_RX11_200 rfl (by decide) hS p_12 rfl hl.1 rfl (Nat.le_of_ble_eq_true rfl) ⟨Nat.zero_le _, Nat.zero_le _⟩ dX11_give_16 (fun t_16 p_16 => ?_)
    refine lv_if_ne (tgt := 25) hx hb dX11_give_19 (by decide) (fun c_19 => ?_) (fun c_19 => ?_)
    · skip
      have i3_t_16 : tq_iv 1 1 t_16 := tq_w (tq_neLo c_19 p_16 (⟨by decide, by decide⟩ : tq_iv 0 0 0)) (by decide) (by decide)
      refine lv_aload_n hx hb dX11_give_25 rfl (lv_at hl 0 rfl) ?_
      refine gf_RX11_41 hC hS z_h0 dX11_give_26 (fun t_26 p_26 q_26 => ?_)
      refine lv_iload_n hx hb dX11_give_29 rfl (lv_at hl 1 rfl) ?_
      refine tq_callVpi (As := [.int x1]) (rest := []) hC (c_X7_holder l X Z _ t_26 p_26 x1) k_X7_holder ql_RX11_152 rfl (by decide) hS p_26 rfl hl.1 rfl (Nat.le_of_ble_eq_true rfl) ⟨Nat.zero_le _, Nat.zero_le _⟩ dX11_give_30 (fun t_30 p_30 => ?_)
      refine lv_istore_n (lv' := [(3, .int t_30), (0, .ref h0), (1, .int x1), (2, .int x2)]) hx hb dX11_give_33 rfl hl (by decide) rfl (fun ls hl => ?_)
      refine lv_iload_n hx hb dX11_give_34 rfl (lv_at hl 0 rfl) ?_
      refine lv_iload_n hx hb dX11_give_35 rfl (lv_at hl 3 rfl) ?_
      have K_45 : ∀ (f : Nat → va_E) (H : Heap) (locs : List Loc) (ls : Array Slot), tq_S X Z (tq_A Z) s.heap f0 [(1, 1), (1, 2), (1, 3)] f H locs → lv_has ls 4 [] → W p l e R s m args below meth c H locs 0 0 Q (F0 m 45 ls []) := by
        intro f H locs ls  hS hl
        refine lv_bipush (v := -3) hx hb dX11_give_45 (by decide) ?_
        exact hret (-3) _ _ _ _ _ rfl ⟨_, rfl, tq_w (⟨by decide, by decide⟩ : tq_iv (-3) (-3) (-3)) (by decide) (by decide)⟩ hS dX11_give_47
      refine lv_icmp_eq (tgt := 45) hx hb dX11_give_36 (by decide) (fun c_36 => ?_) (fun c_36 => ?_)
      · skip
        exact K_45 _ _ _ _ hS (lv_sub hl [] rfl)
      · skip
        refine lv_iload_n hx hb dX11_give_39 rfl (lv_at hl 0 rfl) ?_
        refine lv_bipush (v := -2) hx hb dX11_give_40 (by decide) ?_
        refine lv_icmp_ne (tgt := 48) hx hb dX11_give_42 (by decide) (fun c_42 => ?_) (fun c_42 => ?_)
        · skip
          refine lv_iload_n hx hb dX11_give_48 rfl (lv_at hl 0 rfl) ?_
          refine lv_iconst (v := -1) hx hb dX11_give_49 (by decide) ?_
          have K_75 : ∀ (f : Nat → va_E) (H : Heap) (locs : List Loc) (ls : Array Slot), tq_S X Z (tq_A Z) s.heap f0 [(1, 1), (1, 2), (1, 3)] f H locs → lv_has ls 4 [(0, .ref h0), (1, .int x1), (2, .int x2)] → W p l e R s m args below meth c H locs 0 0 Q (F0 m 75 ls []) := by
            intro f H locs ls  hS hl
            refine lv_aload_n hx hb dX11_give_75 rfl (lv_at hl 0 rfl) ?_
            refine lv_iload_n hx hb dX11_give_76 rfl (lv_at hl 1 rfl) ?_
            refine lv_iload_n hx hb dX11_give_77 rfl (lv_at hl 2 rfl) ?_
            refine tq_callVi (As := [.int x1, .int x2]) (rest := []) hC (c_X11_handOver l X Z _ h0 z_h0 x1 x2) k_X11_handOver ql_RX11_273 (by decide) rfl (by decide) hS z_h0 rfl hl.1 rfl (Nat.le_of_ble_eq_true rfl) ⟨Nat.zero_le _, Nat.zero_le _⟩ dX11_give_78 (fun t_78 f1_78 H locs p_78 hS k_78 => ?_)
            exact hret t_78 _ _ _ _ _ rfl ⟨_, rfl, tq_w (tq_top t_78) (by decide) (by decide)⟩ hS dX11_give_81
          refine lv_icmp_eq (tgt := 75) hx hb dX11_give_50 (by decide) (fun c_50 => ?_) (fun c_50 => ?_)
          · skip
            have i4_t_30 : tq_iv (-1) (-1) t_30 := tq_cut (tq_top t_30) (tq_eqL c_50 (⟨by decide, by decide⟩ : tq_iv (-1) (-1) (-1))) (by decide) (by decide)
            exact K_75 _ _ _ _ hS (lv_sub hl [1, 2, 3] rfl)
          · skip
            refine lv_aload_n hx hb dX11_give_53 rfl (lv_at hl 1 rfl) ?_
            refine gf_RX11_41 hC hS z_h0 dX11_give_54 (fun t_54 p_54 q_54 => ?_)
            refine lv_iload_n hx hb dX11_give_57 rfl (lv_at hl 0 rfl) ?_
            refine tq_callVpi (As := [.int t_30]) (rest := []) hC (c_X7_room l X Z _ t_54 p_54 t_30) k_X7_room ql_RX11_203 rfl (by decide) hS p_54 rfl hl.1 rfl (Nat.le_of_ble_eq_true rfl) ⟨Nat.zero_le _, Nat.zero_le _⟩ dX11_give_58 (fun t_58 p_58 => ?_)
            refine lv_aload_n hx hb dX11_give_61 rfl (lv_at hl 1 rfl) ?_
            refine gf_RX11_41 hC hS z_h0 dX11_give_62 (fun t_62 p_62 q_62 => ?_)
            refine lv_iload_n hx hb dX11_give_65 rfl (lv_at hl 3 rfl) ?_
            refine tq_callVpi (As := [.int x2]) (rest := [.int t_58]) hC (c_X7_room l X Z _ t_62 p_62 x2) k_X7_room ql_RX11_203 rfl (by decide) hS p_62 rfl hl.1 rfl (Nat.le_of_ble_eq_true rfl) ⟨Nat.zero_le _, Nat.zero_le _⟩ dX11_give_66 (fun t_66 p_66 => ?_)
            refine lv_icmp_eq (tgt := 75) hx hb dX11_give_69 (by decide) (fun c_69 => ?_) (fun c_69 => ?_)
            · skip
              exact K_75 _ _ _ _ hS (lv_sub hl [1, 2, 3] rfl)
            · skip
              refine lv_bipush (v := -3) hx hb dX11_give_72 (by decide) ?_
              exact hret (-3) _ _ _ _ _ rfl ⟨_, rfl, tq_w (⟨by decide, by decide⟩ : tq_iv (-3) (-3) (-3)) (by decide) (by decide)⟩ hS dX11_give_74
        · skip
          have i5_t_30 : tq_iv (-2) (-2) t_30 := tq_cut (tq_top t_30) (tq_eqL c_42 (⟨by decide, by decide⟩ : tq_iv (-2) (-2) (-2))) (by decide) (by decide)
          exact K_45 _ _ _ _ hS (lv_sub hl [] rfl)
    · skip
      have i6_t_16 : tq_iv 0 0 t_16 := tq_cut p_16 (tq_eqL c_19 (⟨by decide, by decide⟩ : tq_iv 0 0 0)) (by decide) (by decide)
      exact K_22 _ _ _ _ hS (lv_sub hl [] rfl)
set_option maxHeartbeats 4000000 in
set_option maxRecDepth 100000 in
theorem c_X11_hang (l : Launch) (X : tq_X) (Z : tq_Z) (f : Nat → va_E) (h0 : Nat) (z_h0 : tq_z Z h0 (.inl 11)) (x1 : Int32) : tq_M l X Z f [(1, 1), (1, 2), (1, 3)] yX11_hang cX11_hang 2 (some .int) 4 [.ref h0, .int x1] (tq_ri (-2147483648) 2147483647) := by
  refine tq_starti (by decide) (Nat.le_of_ble_eq_true rfl) (fun p e R s m args below meth c Q hC hret hS ls hl => ?_)
  have hC : tq_C p R s m args c X (tq_A Z) RX11 cX11_hang 2 4 := hC
  have hx := hC.1.1
  have hb := hC.1.2.1
  have hown := hC.1.2.2.2.1
  have hts := hC.1.2.2.2.2
  have hl : lv_has ls 2 [(0, .ref h0), (1, .int x1)] := hl
  generalize hf0 : f = f0 at hret
  have hS : tq_S X Z (tq_A Z) s.heap f0 [(1, 1), (1, 2), (1, 3)] f s.heap [] := hf0 ▸ hS
  refine lv_aload_n hx hb dX11_hang_0 rfl (lv_at hl 0 rfl) ?_
  refine gf_RX11_29 hC hS z_h0 dX11_hang_1 (fun t_1 p_1 q_1 => ?_)
  refine lv_iload_n hx hb dX11_hang_4 rfl (lv_at hl 1 rfl) ?_
  refine tq_callVpi (As := [.int x1]) (rest := []) hC (c_X3_hasKey l X Z _ t_1 p_1 x1) k_X3_hasKey ql_RX11_137 rfl (by decide) hS p_1 rfl hl.1 rfl (Nat.le_of_ble_eq_true rfl) ⟨Nat.zero_le _, Nat.zero_le _⟩ dX11_hang_5 (fun t_5 p_5 => ?_)
  have K_22 : ∀ (f : Nat → va_E) (H : Heap) (locs : List Loc) (ls : Array Slot), tq_S X Z (tq_A Z) s.heap f0 [(1, 1), (1, 2), (1, 3)] f H locs → lv_has ls 2 [] → W p l e R s m args below meth c H locs 0 0 Q (F0 m 22 ls []) := by
    intro f H locs ls  hS hl
    refine lv_bipush (v := -3) hx hb dX11_hang_22 (by decide) ?_
    exact hret (-3) _ _ _ _ _ rfl ⟨_, rfl, tq_w (⟨by decide, by decide⟩ : tq_iv (-3) (-3) (-3)) (by decide) (by decide)⟩ hS dX11_hang_24
  refine lv_if_eq (tgt := 22) hx hb dX11_hang_8 (by decide) (fun c_8 => ?_) (fun c_8 => ?_)
  · skip
    have i1_t_5 : tq_iv 0 0 t_5 := tq_cut p_5 (tq_eqL c_8 (⟨by decide, by decide⟩ : tq_iv 0 0 0)) (by decide) (by decide)
    exact K_22 _ _ _ _ hS (lv_sub hl [] rfl)
  · skip
    have i2_t_5 : tq_iv 1 1 t_5 := tq_w (tq_neLo c_8 p_5 (⟨by decide, by decide⟩ : tq_iv 0 0 0)) (by decide) (by decide)
    refine lv_aload_n hx hb dX11_hang_11 rfl (lv_at hl 0 rfl) ?_
    refine gf_RX11_41 hC hS z_h0 dX11_hang_12 (fun t_12 p_12 q_12 => ?_)
    refine lv_iload_n hx hb dX11_hang_15 rfl (lv_at hl 1 rfl) ?_
    refine tq_callVpi (As := [.int x1]) (rest := []) hC (c_X7_holder l X Z _ t_12 p_12 x1) k_X7_holder ql_RX11_152 rfl (by decide) hS p_12 rfl hl.1 rfl (Nat.le_of_ble_eq_true rfl) ⟨Nat.zero_le _, Nat.zero_le _⟩ dX11_hang_16 (fun t_16 p_16 => ?_)
    refine lv_if_ge (tgt := 25) hx hb dX11_hang_19 (by decide) (fun c_19 => ?_) (fun c_19 => ?_)
    · skip
      have i3_t_16 : tq_iv 0 2147483647 t_16 := tq_cut (tq_top t_16) (tq_leR c_19 (⟨by decide, by decide⟩ : tq_iv 0 0 0) (tq_top t_16)) (by decide) (by decide)
      refine lv_aload_n hx hb dX11_hang_25 rfl (lv_at hl 0 rfl) ?_
      refine lv_iload_n hx hb dX11_hang_26 rfl (lv_at hl 1 rfl) ?_
      refine lv_iconst (v := -1) hx hb dX11_hang_27 (by decide) ?_
      refine tq_callVi (As := [.int x1, .int (-1)]) (rest := []) hC (c_X11_handOver l X Z _ h0 z_h0 x1 (-1)) k_X11_handOver ql_RX11_273 (by decide) rfl (by decide) hS z_h0 rfl hl.1 rfl (Nat.le_of_ble_eq_true rfl) ⟨Nat.zero_le _, Nat.zero_le _⟩ dX11_hang_28 (fun t_28 f1_28 H locs p_28 hS k_28 => ?_)
      exact hret t_28 _ _ _ _ _ rfl ⟨_, rfl, tq_w (tq_top t_28) (by decide) (by decide)⟩ hS dX11_hang_31
    · skip
      have i4_t_16 : tq_iv (-2147483648) (-1) t_16 := tq_cut (tq_top t_16) (tq_ltL (tq_nle c_19) (tq_top t_16) (⟨by decide, by decide⟩ : tq_iv 0 0 0)) (by decide) (by decide)
      exact K_22 _ _ _ _ hS (lv_sub hl [] rfl)
set_option maxHeartbeats 4000000 in
set_option maxRecDepth 100000 in
theorem c_X11_lose (l : Launch) (X : tq_X) (Z : tq_Z) (f : Nat → va_E) (h0 : Nat) (z_h0 : tq_z Z h0 (.inl 11)) (x1 : Int32) : tq_M l X Z f [(1, 1), (1, 2), (1, 3)] yX11_lose cX11_lose 2 (some .int) 4 [.ref h0, .int x1] (tq_ri (-2147483648) 2147483647) := by
  refine tq_starti (by decide) (Nat.le_of_ble_eq_true rfl) (fun p e R s m args below meth c Q hC hret hS ls hl => ?_)
  have hC : tq_C p R s m args c X (tq_A Z) RX11 cX11_lose 2 4 := hC
  have hx := hC.1.1
  have hb := hC.1.2.1
  have hown := hC.1.2.2.2.1
  have hts := hC.1.2.2.2.2
  have hl : lv_has ls 2 [(0, .ref h0), (1, .int x1)] := hl
  generalize hf0 : f = f0 at hret
  have hS : tq_S X Z (tq_A Z) s.heap f0 [(1, 1), (1, 2), (1, 3)] f s.heap [] := hf0 ▸ hS
  refine lv_aload_n hx hb dX11_lose_0 rfl (lv_at hl 0 rfl) ?_
  refine gf_RX11_29 hC hS z_h0 dX11_lose_1 (fun t_1 p_1 q_1 => ?_)
  refine lv_iload_n hx hb dX11_lose_4 rfl (lv_at hl 1 rfl) ?_
  refine tq_callVpi (As := [.int x1]) (rest := []) hC (c_X3_hasKey l X Z _ t_1 p_1 x1) k_X3_hasKey ql_RX11_137 rfl (by decide) hS p_1 rfl hl.1 rfl (Nat.le_of_ble_eq_true rfl) ⟨Nat.zero_le _, Nat.zero_le _⟩ dX11_lose_5 (fun t_5 p_5 => ?_)
  have K_24 : ∀ (f : Nat → va_E) (H : Heap) (locs : List Loc) (ls : Array Slot), tq_S X Z (tq_A Z) s.heap f0 [(1, 1), (1, 2), (1, 3)] f H locs → lv_has ls 2 [] → W p l e R s m args below meth c H locs 0 0 Q (F0 m 24 ls []) := by
    intro f H locs ls  hS hl
    refine lv_bipush (v := -3) hx hb dX11_lose_24 (by decide) ?_
    exact hret (-3) _ _ _ _ _ rfl ⟨_, rfl, tq_w (⟨by decide, by decide⟩ : tq_iv (-3) (-3) (-3)) (by decide) (by decide)⟩ hS dX11_lose_26
  refine lv_if_eq (tgt := 24) hx hb dX11_lose_8 (by decide) (fun c_8 => ?_) (fun c_8 => ?_)
  · skip
    have i1_t_5 : tq_iv 0 0 t_5 := tq_cut p_5 (tq_eqL c_8 (⟨by decide, by decide⟩ : tq_iv 0 0 0)) (by decide) (by decide)
    exact K_24 _ _ _ _ hS (lv_sub hl [] rfl)
  · skip
    have i2_t_5 : tq_iv 1 1 t_5 := tq_w (tq_neLo c_8 p_5 (⟨by decide, by decide⟩ : tq_iv 0 0 0)) (by decide) (by decide)
    refine lv_aload_n hx hb dX11_lose_11 rfl (lv_at hl 0 rfl) ?_
    refine gf_RX11_41 hC hS z_h0 dX11_lose_12 (fun t_12 p_12 q_12 => ?_)
    refine lv_iload_n hx hb dX11_lose_15 rfl (lv_at hl 1 rfl) ?_
    refine tq_callVpi (As := [.int x1]) (rest := []) hC (c_X7_holder l X Z _ t_12 p_12 x1) k_X7_holder ql_RX11_152 rfl (by decide) hS p_12 rfl hl.1 rfl (Nat.le_of_ble_eq_true rfl) ⟨Nat.zero_le _, Nat.zero_le _⟩ dX11_lose_16 (fun t_16 p_16 => ?_)
    refine lv_bipush (v := -2) hx hb dX11_lose_19 (by decide) ?_
    refine lv_icmp_ne (tgt := 27) hx hb dX11_lose_21 (by decide) (fun c_21 => ?_) (fun c_21 => ?_)
    · skip
      refine lv_aload_n hx hb dX11_lose_27 rfl (lv_at hl 0 rfl) ?_
      refine lv_iload_n hx hb dX11_lose_28 rfl (lv_at hl 1 rfl) ?_
      refine lv_bipush (v := -2) hx hb dX11_lose_29 (by decide) ?_
      refine tq_callVi (As := [.int x1, .int (-2)]) (rest := []) hC (c_X11_handOver l X Z _ h0 z_h0 x1 (-2)) k_X11_handOver ql_RX11_273 (by decide) rfl (by decide) hS z_h0 rfl hl.1 rfl (Nat.le_of_ble_eq_true rfl) ⟨Nat.zero_le _, Nat.zero_le _⟩ dX11_lose_31 (fun t_31 f1_31 H locs p_31 hS k_31 => ?_)
      exact hret t_31 _ _ _ _ _ rfl ⟨_, rfl, tq_w (tq_top t_31) (by decide) (by decide)⟩ hS dX11_lose_34
    · skip
      have i3_t_16 : tq_iv (-2) (-2) t_16 := tq_cut (tq_top t_16) (tq_eqL c_21 (⟨by decide, by decide⟩ : tq_iv (-2) (-2) (-2))) (by decide) (by decide)
      exact K_24 _ _ _ _ hS (lv_sub hl [] rfl)
set_option maxHeartbeats 4000000 in
set_option maxRecDepth 100000 in
theorem c_X11_find (l : Launch) (X : tq_X) (Z : tq_Z) (f : Nat → va_E) (h0 : Nat) (z_h0 : tq_z Z h0 (.inl 11)) (x1 : Int32) (x2 : Int32) : tq_M l X Z f [(1, 1), (1, 2), (1, 3)] yX11_find cX11_find 3 (some .int) 4 [.ref h0, .int x1, .int x2] (tq_ri (-1) 63) := by
  refine tq_starti (by decide) (Nat.le_of_ble_eq_true rfl) (fun p e R s m args below meth c Q hC hret hS ls hl => ?_)
  have hC : tq_C p R s m args c X (tq_A Z) RX11 cX11_find 3 4 := hC
  have hx := hC.1.1
  have hb := hC.1.2.1
  have hown := hC.1.2.2.2.1
  have hts := hC.1.2.2.2.2
  have hl : lv_has ls 3 [(0, .ref h0), (1, .int x1), (2, .int x2)] := hl
  generalize hf0 : f = f0 at hret
  have hS : tq_S X Z (tq_A Z) s.heap f0 [(1, 1), (1, 2), (1, 3)] f s.heap [] := hf0 ▸ hS
  refine lv_aload_n hx hb dX11_find_0 rfl (lv_at hl 0 rfl) ?_
  refine gf_RX11_29 hC hS z_h0 dX11_find_1 (fun t_1 p_1 q_1 => ?_)
  refine lv_iload_n hx hb dX11_find_4 rfl (lv_at hl 1 rfl) ?_
  refine tq_callVpi (As := [.int x1]) (rest := []) hC (c_X3_hasKey l X Z _ t_1 p_1 x1) k_X3_hasKey ql_RX11_137 rfl (by decide) hS p_1 rfl hl.1 rfl (Nat.le_of_ble_eq_true rfl) ⟨Nat.zero_le _, Nat.zero_le _⟩ dX11_find_5 (fun t_5 p_5 => ?_)
  have K_35 : ∀ (f : Nat → va_E) (H : Heap) (locs : List Loc) (ls : Array Slot), tq_S X Z (tq_A Z) s.heap f0 [(1, 1), (1, 2), (1, 3)] f H locs → lv_has ls 3 [] → W p l e R s m args below meth c H locs 0 0 Q (F0 m 35 ls []) := by
    intro f H locs ls  hS hl
    refine lv_iconst (v := -1) hx hb dX11_find_35 (by decide) ?_
    exact hret (-1) _ _ _ _ _ rfl ⟨_, rfl, tq_w (⟨by decide, by decide⟩ : tq_iv (-1) (-1) (-1)) (by decide) (by decide)⟩ hS dX11_find_36
  refine lv_if_eq (tgt := 35) hx hb dX11_find_8 (by decide) (fun c_8 => ?_) (fun c_8 => ?_)
  · skip
    have i1_t_5 : tq_iv 0 0 t_5 := tq_cut p_5 (tq_eqL c_8 (⟨by decide, by decide⟩ : tq_iv 0 0 0)) (by decide) (by decide)
    exact K_35 _ _ _ _ hS (lv_sub hl [] rfl)
  · skip
    have i2_t_5 : tq_iv 1 1 t_5 := tq_w (tq_neLo c_8 p_5 (⟨by decide, by decide⟩ : tq_iv 0 0 0)) (by decide) (by decide)
    refine lv_aload_n hx hb dX11_find_11 rfl (lv_at hl 0 rfl) ?_
    refine gf_RX11_29 hC hS z_h0 dX11_find_12 (fun t_12 p_12 q_12 => ?_)
    refine lv_iload_n hx hb dX11_find_15 rfl (lv_at hl 2 rfl) ?_
    refine tq_callVpi (As := [.int x2]) (rest := []) hC (c_X3_hasPerson l X Z _ t_12 p_12 x2) k_X3_hasPerson ql_RX11_200 rfl (by decide) hS p_12 rfl hl.1 rfl (Nat.le_of_ble_eq_true rfl) ⟨Nat.zero_le _, Nat.zero_le _⟩ dX11_find_16 (fun t_16 p_16 => ?_)
    refine lv_if_eq (tgt := 35) hx hb dX11_find_19 (by decide) (fun c_19 => ?_) (fun c_19 => ?_)
    · skip
      have i3_t_16 : tq_iv 0 0 t_16 := tq_cut p_16 (tq_eqL c_19 (⟨by decide, by decide⟩ : tq_iv 0 0 0)) (by decide) (by decide)
      exact K_35 _ _ _ _ hS (lv_sub hl [] rfl)
    · skip
      have i4_t_16 : tq_iv 1 1 t_16 := tq_w (tq_neLo c_19 p_16 (⟨by decide, by decide⟩ : tq_iv 0 0 0)) (by decide) (by decide)
      refine lv_aload_n hx hb dX11_find_22 rfl (lv_at hl 0 rfl) ?_
      refine gf_RX11_41 hC hS z_h0 dX11_find_23 (fun t_23 p_23 q_23 => ?_)
      refine lv_iload_n hx hb dX11_find_26 rfl (lv_at hl 1 rfl) ?_
      refine tq_callVpi (As := [.int x1]) (rest := []) hC (c_X7_holder l X Z _ t_23 p_23 x1) k_X7_holder ql_RX11_152 rfl (by decide) hS p_23 rfl hl.1 rfl (Nat.le_of_ble_eq_true rfl) ⟨Nat.zero_le _, Nat.zero_le _⟩ dX11_find_27 (fun t_27 p_27 => ?_)
      refine lv_bipush (v := -2) hx hb dX11_find_30 (by decide) ?_
      refine lv_icmp_eq (tgt := 37) hx hb dX11_find_32 (by decide) (fun c_32 => ?_) (fun c_32 => ?_)
      · skip
        have i5_t_27 : tq_iv (-2) (-2) t_27 := tq_cut (tq_top t_27) (tq_eqL c_32 (⟨by decide, by decide⟩ : tq_iv (-2) (-2) (-2))) (by decide) (by decide)
        refine lv_aload_n hx hb dX11_find_37 rfl (lv_at hl 0 rfl) ?_
        refine lv_iload_n hx hb dX11_find_38 rfl (lv_at hl 1 rfl) ?_
        refine lv_iload_n hx hb dX11_find_39 rfl (lv_at hl 2 rfl) ?_
        refine tq_callVi (As := [.int x1, .int x2]) (rest := []) hC (c_X11_handOver l X Z _ h0 z_h0 x1 x2) k_X11_handOver ql_RX11_273 (by decide) rfl (by decide) hS z_h0 rfl hl.1 rfl (Nat.le_of_ble_eq_true rfl) ⟨Nat.zero_le _, Nat.zero_le _⟩ dX11_find_40 (fun t_40 f1_40 H locs p_40 hS k_40 => ?_)
        refine lv_pop hx hb dX11_find_43 rfl ?_
        refine lv_aload_n hx hb dX11_find_44 rfl (lv_at hl 0 rfl) ?_
        refine gf_RX11_41 hC hS z_h0 dX11_find_45 (fun t_45 p_45 q_45 => ?_)
        refine lv_iload_n hx hb dX11_find_48 rfl (lv_at hl 2 rfl) ?_
        refine lv_aload_n hx hb dX11_find_49 rfl (lv_at hl 0 rfl) ?_
        refine gf_RX11_29 hC hS z_h0 dX11_find_50 (fun t_50 p_50 q_50 => ?_)
        refine gf_RX11_128 hC hS p_50 dX11_find_53 (fun t_53 p_53 q_53 => ?_)
        refine tq_callVpi (As := [.int x2, .int t_53]) (rest := []) hC (c_X7_heldBy l X Z _ t_45 p_45 x2 t_53) k_X7_heldBy ql_RX11_206 rfl (by decide) hS p_45 rfl hl.1 rfl (Nat.le_of_ble_eq_true rfl) ⟨Nat.zero_le _, Nat.zero_le _⟩ dX11_find_56 (fun t_56 p_56 => ?_)
        refine tq_callSpi (As := [.int t_56]) (rest := []) hC (c_J6_bitCount_0f7a4 l X Z _ t_56) k_J6_bitCount_0f7a4 ql_RX11_171 rfl (by decide) hS hl.1 rfl (Nat.le_of_ble_eq_true rfl) ⟨Nat.zero_le _, Nat.zero_le _⟩ dX11_find_59 (fun t_59 p_59 => ?_)
        exact hret t_59 _ _ _ _ _ rfl ⟨_, rfl, tq_w p_59 (by decide) (by decide)⟩ hS dX11_find_62
      · skip
        exact K_35 _ _ _ _ hS (lv_sub hl [] rfl)
set_option maxHeartbeats 4000000 in
set_option maxRecDepth 100000 in
theorem c_X11_file (l : Launch) (X : tq_X) (Z : tq_Z) (f : Nat → va_E) (h0 : Nat) (z_h0 : tq_z Z h0 (.inl 11)) (x1 : Int32) (x2 : Int32) : tq_M l X Z f [(1, 1), (1, 2), (1, 3)] yX11_file cX11_file 4 (some .int) 4 [.ref h0, .int x1, .int x2] (tq_ri (-2147483648) 2147483647) := by
  refine tq_starti (by decide) (Nat.le_of_ble_eq_true rfl) (fun p e R s m args below meth c Q hC hret hS ls hl => ?_)
  have hC : tq_C p R s m args c X (tq_A Z) RX11 cX11_file 4 4 := hC
  have hx := hC.1.1
  have hb := hC.1.2.1
  have hown := hC.1.2.2.2.1
  have hts := hC.1.2.2.2.2
  have hl : lv_has ls 4 [(0, .ref h0), (1, .int x1), (2, .int x2)] := hl
  generalize hf0 : f = f0 at hret
  have hS : tq_S X Z (tq_A Z) s.heap f0 [(1, 1), (1, 2), (1, 3)] f s.heap [] := hf0 ▸ hS
  refine lv_aload_n hx hb dX11_file_0 rfl (lv_at hl 0 rfl) ?_
  refine gf_RX11_29 hC hS z_h0 dX11_file_1 (fun t_1 p_1 q_1 => ?_)
  refine lv_iload_n hx hb dX11_file_4 rfl (lv_at hl 1 rfl) ?_
  refine tq_callVpi (As := [.int x1]) (rest := []) hC (c_X3_hasKey l X Z _ t_1 p_1 x1) k_X3_hasKey ql_RX11_137 rfl (by decide) hS p_1 rfl hl.1 rfl (Nat.le_of_ble_eq_true rfl) ⟨Nat.zero_le _, Nat.zero_le _⟩ dX11_file_5 (fun t_5 p_5 => ?_)
  have K_22 : ∀ (f : Nat → va_E) (H : Heap) (locs : List Loc) (ls : Array Slot), tq_S X Z (tq_A Z) s.heap f0 [(1, 1), (1, 2), (1, 3)] f H locs → lv_has ls 4 [] → W p l e R s m args below meth c H locs 0 0 Q (F0 m 22 ls []) := by
    intro f H locs ls  hS hl
    refine lv_iconst (v := -1) hx hb dX11_file_22 (by decide) ?_
    exact hret (-1) _ _ _ _ _ rfl ⟨_, rfl, tq_w (⟨by decide, by decide⟩ : tq_iv (-1) (-1) (-1)) (by decide) (by decide)⟩ hS dX11_file_23
  refine lv_if_eq (tgt := 22) hx hb dX11_file_8 (by decide) (fun c_8 => ?_) (fun c_8 => ?_)
  · skip
    have i1_t_5 : tq_iv 0 0 t_5 := tq_cut p_5 (tq_eqL c_8 (⟨by decide, by decide⟩ : tq_iv 0 0 0)) (by decide) (by decide)
    exact K_22 _ _ _ _ hS (lv_sub hl [] rfl)
  · skip
    have i2_t_5 : tq_iv 1 1 t_5 := tq_w (tq_neLo c_8 p_5 (⟨by decide, by decide⟩ : tq_iv 0 0 0)) (by decide) (by decide)
    refine lv_aload_n hx hb dX11_file_11 rfl (lv_at hl 0 rfl) ?_
    refine gf_RX11_37 hC hS z_h0 dX11_file_12 (fun t_12 p_12 q_12 => ?_)
    refine lv_iload_n hx hb dX11_file_15 rfl (lv_at hl 2 rfl) ?_
    refine tq_callVpi (As := [.int x2]) (rest := []) hC (c_X6_hasChamber l X Z _ t_12 p_12 x2) k_X6_hasChamber ql_RX11_158 rfl (by decide) hS p_12 rfl hl.1 rfl (Nat.le_of_ble_eq_true rfl) ⟨Nat.zero_le _, Nat.zero_le _⟩ dX11_file_16 (fun t_16 p_16 => ?_)
    refine lv_if_ne (tgt := 24) hx hb dX11_file_19 (by decide) (fun c_19 => ?_) (fun c_19 => ?_)
    · skip
      have i3_t_16 : tq_iv 1 1 t_16 := tq_w (tq_neLo c_19 p_16 (⟨by decide, by decide⟩ : tq_iv 0 0 0)) (by decide) (by decide)
      refine lv_aload_n hx hb dX11_file_24 rfl (lv_at hl 0 rfl) ?_
      refine gf_RX11_37 hC hS z_h0 dX11_file_25 (fun t_25 p_25 q_25 => ?_)
      refine lv_aload_n hx hb dX11_file_28 rfl (lv_at hl 0 rfl) ?_
      refine gf_RX11_41 hC hS z_h0 dX11_file_29 (fun t_29 p_29 q_29 => ?_)
      refine lv_iload_n hx hb dX11_file_32 rfl (lv_at hl 1 rfl) ?_
      refine tq_callVpi (As := [.int x1]) (rest := [.ref t_25]) hC (c_X7_bits l X Z _ t_29 p_29 x1) k_X7_bits ql_RX11_140 rfl (by decide) hS p_29 rfl hl.1 rfl (Nat.le_of_ble_eq_true rfl) ⟨Nat.zero_le _, Nat.zero_le _⟩ dX11_file_33 (fun t_33 p_33 => ?_)
      refine lv_iload_n hx hb dX11_file_36 rfl (lv_at hl 2 rfl) ?_
      refine tq_callVpi (As := [.int t_33, .int x2]) (rest := []) hC (c_X6_deeper l X Z _ t_25 p_25 t_33 x2) k_X6_deeper ql_RX11_264 rfl (by decide) hS p_25 rfl hl.1 rfl (Nat.le_of_ble_eq_true rfl) ⟨Nat.zero_le _, Nat.zero_le _⟩ dX11_file_37 (fun t_37 p_37 => ?_)
      refine lv_istore_n (lv' := [(3, .int t_37), (0, .ref h0), (1, .int x1), (2, .int x2)]) hx hb dX11_file_40 rfl hl (by decide) rfl (fun ls hl => ?_)
      refine lv_iload_n hx hb dX11_file_41 rfl (lv_at hl 0 rfl) ?_
      refine lv_if_ne (tgt := 47) hx hb dX11_file_42 (by decide) (fun c_42 => ?_) (fun c_42 => ?_)
      · skip
        refine lv_aload_n hx hb dX11_file_47 rfl (lv_at hl 1 rfl) ?_
        refine gf_RX11_51 hC hS z_h0 dX11_file_48 (fun t_48 p_48 q_48 => ?_)
        refine lv_aload_n hx hb dX11_file_51 rfl (lv_at hl 1 rfl) ?_
        refine gf_RX11_41 hC hS z_h0 dX11_file_52 (fun t_52 p_52 q_52 => ?_)
        refine tq_callVv (As := [.ref t_52]) (rest := []) hC (c_X1_keep l X Z _ t_48 p_48 t_52 p_52) k_X1_keep ql_RX11_222 (by decide) rfl (by decide) hS p_48 rfl hl.1 rfl (Nat.le_of_ble_eq_true rfl) ⟨Nat.zero_le _, Nat.zero_le _⟩ dX11_file_55 (fun f1_55 H locs hS k_55 => ?_)
        refine lv_aload_n hx hb dX11_file_58 rfl (lv_at hl 1 rfl) ?_
        refine gf_RX11_41 hC hS z_h0 dX11_file_59 (fun t_59 p_59 q_59 => ?_)
        refine lv_iload_n hx hb dX11_file_62 rfl (lv_at hl 2 rfl) ?_
        refine lv_iload_n hx hb dX11_file_63 rfl (lv_at hl 0 rfl) ?_
        refine tq_callVv (As := [.int x1, .int t_37]) (rest := []) hC (c_X7_putBits l X Z _ t_59 p_59 x1 t_37) k_X7_putBits ql_RX11_267 (by decide) rfl (by decide) hS p_59 rfl hl.1 rfl (Nat.le_of_ble_eq_true rfl) ⟨Nat.zero_le _, Nat.zero_le _⟩ dX11_file_64 (fun f1_64 H locs hS k_64 => ?_)
        refine lv_aload_n hx hb dX11_file_67 rfl (lv_at hl 1 rfl) ?_
        refine gf_RX11_37 hC hS z_h0 dX11_file_68 (fun t_68 p_68 q_68 => ?_)
        refine lv_iload_n hx hb dX11_file_71 rfl (lv_at hl 0 rfl) ?_
        refine lv_iload_n hx hb dX11_file_72 rfl (lv_at hl 3 rfl) ?_
        refine tq_callVpi (As := [.int t_37, .int x2]) (rest := []) hC (c_X6_depthAt l X Z _ t_68 p_68 t_37 x2) k_X6_depthAt ql_RX11_161 rfl (by decide) hS p_68 rfl hl.1 rfl (Nat.le_of_ble_eq_true rfl) ⟨Nat.zero_le _, Nat.zero_le _⟩ dX11_file_73 (fun t_73 p_73 => ?_)
        exact hret t_73 _ _ _ _ _ rfl ⟨_, rfl, tq_w (tq_top t_73) (by decide) (by decide)⟩ hS dX11_file_76
      · skip
        have i4_t_37 : tq_iv 0 0 t_37 := tq_cut (tq_top t_37) (tq_eqL c_42 (⟨by decide, by decide⟩ : tq_iv 0 0 0)) (by decide) (by decide)
        refine lv_iconst (v := -1) hx hb dX11_file_45 (by decide) ?_
        exact hret (-1) _ _ _ _ _ rfl ⟨_, rfl, tq_w (⟨by decide, by decide⟩ : tq_iv (-1) (-1) (-1)) (by decide) (by decide)⟩ hS dX11_file_46
    · skip
      have i5_t_16 : tq_iv 0 0 t_16 := tq_cut p_16 (tq_eqL c_19 (⟨by decide, by decide⟩ : tq_iv 0 0 0)) (by decide) (by decide)
      exact K_22 _ _ _ _ hS (lv_sub hl [] rfl)
set_option maxHeartbeats 4000000 in
set_option maxRecDepth 100000 in
theorem c_X11_recut (l : Launch) (X : tq_X) (Z : tq_Z) (f : Nat → va_E) (h0 : Nat) (z_h0 : tq_z Z h0 (.inl 11)) (x1 : Int32) (x2 : Int32) : tq_M l X Z f [(1, 1), (1, 2), (1, 3)] yX11_recut cX11_recut 5 (some .int) 4 [.ref h0, .int x1, .int x2] (tq_ri (-2147483648) 2147483647) := by
  refine tq_starti (by decide) (Nat.le_of_ble_eq_true rfl) (fun p e R s m args below meth c Q hC hret hS ls hl => ?_)
  have hC : tq_C p R s m args c X (tq_A Z) RX11 cX11_recut 5 4 := hC
  have hx := hC.1.1
  have hb := hC.1.2.1
  have hown := hC.1.2.2.2.1
  have hts := hC.1.2.2.2.2
  have hl : lv_has ls 5 [(0, .ref h0), (1, .int x1), (2, .int x2)] := hl
  generalize hf0 : f = f0 at hret
  have hS : tq_S X Z (tq_A Z) s.heap f0 [(1, 1), (1, 2), (1, 3)] f s.heap [] := hf0 ▸ hS
  refine lv_aload_n hx hb dX11_recut_0 rfl (lv_at hl 0 rfl) ?_
  refine gf_RX11_37 hC hS z_h0 dX11_recut_1 (fun t_1 p_1 q_1 => ?_)
  refine lv_iload_n hx hb dX11_recut_4 rfl (lv_at hl 2 rfl) ?_
  refine tq_callVpi (As := [.int x2]) (rest := []) hC (c_X6_bitsOf l X Z _ t_1 p_1 x2) k_X6_bitsOf ql_RX11_212 rfl (by decide) hS p_1 rfl hl.1 rfl (Nat.le_of_ble_eq_true rfl) ⟨Nat.zero_le _, Nat.zero_le _⟩ dX11_recut_5 (fun t_5 p_5 => ?_)
  refine lv_istore_n (lv' := [(3, .int t_5), (0, .ref h0), (1, .int x1), (2, .int x2)]) hx hb dX11_recut_8 rfl hl (by decide) rfl (fun ls hl => ?_)
  refine lv_aload_n hx hb dX11_recut_9 rfl (lv_at hl 1 rfl) ?_
  refine gf_RX11_29 hC hS z_h0 dX11_recut_10 (fun t_10 p_10 q_10 => ?_)
  refine lv_iload_n hx hb dX11_recut_13 rfl (lv_at hl 2 rfl) ?_
  refine tq_callVpi (As := [.int x1]) (rest := []) hC (c_X3_hasKey l X Z _ t_10 p_10 x1) k_X3_hasKey ql_RX11_137 rfl (by decide) hS p_10 rfl hl.1 rfl (Nat.le_of_ble_eq_true rfl) ⟨Nat.zero_le _, Nat.zero_le _⟩ dX11_recut_14 (fun t_14 p_14 => ?_)
  have K_24 : ∀ (f : Nat → va_E) (H : Heap) (locs : List Loc) (ls : Array Slot), tq_S X Z (tq_A Z) s.heap f0 [(1, 1), (1, 2), (1, 3)] f H locs → lv_has ls 5 [] → W p l e R s m args below meth c H locs 0 0 Q (F0 m 24 ls []) := by
    intro f H locs ls  hS hl
    refine lv_iconst (v := -1) hx hb dX11_recut_24 (by decide) ?_
    exact hret (-1) _ _ _ _ _ rfl ⟨_, rfl, tq_w (⟨by decide, by decide⟩ : tq_iv (-1) (-1) (-1)) (by decide) (by decide)⟩ hS dX11_recut_25
  refine lv_if_eq (tgt := 24) hx hb dX11_recut_17 (by decide) (fun c_17 => ?_) (fun c_17 => ?_)
  · skip
    have i1_t_14 : tq_iv 0 0 t_14 := tq_cut p_14 (tq_eqL c_17 (⟨by decide, by decide⟩ : tq_iv 0 0 0)) (by decide) (by decide)
    exact K_24 _ _ _ _ hS (lv_sub hl [] rfl)
  · skip
    have i2_t_14 : tq_iv 1 1 t_14 := tq_w (tq_neLo c_17 p_14 (⟨by decide, by decide⟩ : tq_iv 0 0 0)) (by decide) (by decide)
    refine lv_iload_n hx hb dX11_recut_20 rfl (lv_at hl 0 rfl) ?_
    refine lv_if_ne (tgt := 26) hx hb dX11_recut_21 (by decide) (fun c_21 => ?_) (fun c_21 => ?_)
    · skip
      refine lv_aload_n hx hb dX11_recut_26 rfl (lv_at hl 1 rfl) ?_
      refine gf_RX11_37 hC hS z_h0 dX11_recut_27 (fun t_27 p_27 q_27 => ?_)
      refine lv_aload_n hx hb dX11_recut_30 rfl (lv_at hl 1 rfl) ?_
      refine gf_RX11_41 hC hS z_h0 dX11_recut_31 (fun t_31 p_31 q_31 => ?_)
      refine lv_iload_n hx hb dX11_recut_34 rfl (lv_at hl 2 rfl) ?_
      refine tq_callVpi (As := [.int x1]) (rest := [.ref t_27]) hC (c_X7_bits l X Z _ t_31 p_31 x1) k_X7_bits ql_RX11_140 rfl (by decide) hS p_31 rfl hl.1 rfl (Nat.le_of_ble_eq_true rfl) ⟨Nat.zero_le _, Nat.zero_le _⟩ dX11_recut_35 (fun t_35 p_35 => ?_)
      refine tq_callVpi (As := [.int t_35]) (rest := []) hC (c_X6_numberOf l X Z _ t_27 p_27 t_35) k_X6_numberOf ql_RX11_144 rfl (by decide) hS p_27 rfl hl.1 rfl (Nat.le_of_ble_eq_true rfl) ⟨Nat.zero_le _, Nat.zero_le _⟩ dX11_recut_38 (fun t_38 p_38 => ?_)
      refine lv_istore (lv' := [(4, .int t_38), (3, .int t_5), (0, .ref h0), (1, .int x1), (2, .int x2)]) hx hb dX11_recut_41 hl (by decide) rfl (fun ls hl => ?_)
      refine lv_aload_n hx hb dX11_recut_43 rfl (lv_at hl 2 rfl) ?_
      refine gf_RX11_51 hC hS z_h0 dX11_recut_44 (fun t_44 p_44 q_44 => ?_)
      refine lv_aload_n hx hb dX11_recut_47 rfl (lv_at hl 2 rfl) ?_
      refine gf_RX11_41 hC hS z_h0 dX11_recut_48 (fun t_48 p_48 q_48 => ?_)
      refine tq_callVv (As := [.ref t_48]) (rest := []) hC (c_X1_keep l X Z _ t_44 p_44 t_48 p_48) k_X1_keep ql_RX11_222 (by decide) rfl (by decide) hS p_44 rfl hl.1 rfl (Nat.le_of_ble_eq_true rfl) ⟨Nat.zero_le _, Nat.zero_le _⟩ dX11_recut_51 (fun f1_51 H locs hS k_51 => ?_)
      refine lv_aload_n hx hb dX11_recut_54 rfl (lv_at hl 2 rfl) ?_
      refine gf_RX11_41 hC hS z_h0 dX11_recut_55 (fun t_55 p_55 q_55 => ?_)
      refine lv_iload_n hx hb dX11_recut_58 rfl (lv_at hl 3 rfl) ?_
      refine lv_iload_n hx hb dX11_recut_59 rfl (lv_at hl 1 rfl) ?_
      refine tq_callVv (As := [.int x1, .int t_5]) (rest := []) hC (c_X7_putBits l X Z _ t_55 p_55 x1 t_5) k_X7_putBits ql_RX11_267 (by decide) rfl (by decide) hS p_55 rfl hl.1 rfl (Nat.le_of_ble_eq_true rfl) ⟨Nat.zero_le _, Nat.zero_le _⟩ dX11_recut_60 (fun f1_60 H locs hS k_60 => ?_)
      refine lv_aload_n hx hb dX11_recut_63 rfl (lv_at hl 2 rfl) ?_
      refine gf_RX11_41 hC hS z_h0 dX11_recut_64 (fun t_64 p_64 q_64 => ?_)
      refine lv_iload_n hx hb dX11_recut_67 rfl (lv_at hl 3 rfl) ?_
      refine lv_iconst (v := 0) hx hb dX11_recut_68 (by decide) ?_
      refine tq_callVv (As := [.int x1, .int 0]) (rest := []) hC (c_X7_putUsed l X Z _ t_64 p_64 x1 0) k_X7_putUsed ql_RX11_270 (by decide) rfl (by decide) hS p_64 rfl hl.1 rfl (Nat.le_of_ble_eq_true rfl) ⟨Nat.zero_le _, Nat.zero_le _⟩ dX11_recut_69 (fun f1_69 H locs hS k_69 => ?_)
      refine lv_iload hx hb dX11_recut_72 (lv_at hl 0 rfl) ?_
      exact hret t_38 _ _ _ _ _ rfl ⟨_, rfl, tq_w (tq_top t_38) (by decide) (by decide)⟩ hS dX11_recut_74
    · skip
      have i3_t_5 : tq_iv 0 0 t_5 := tq_cut (tq_top t_5) (tq_eqL c_21 (⟨by decide, by decide⟩ : tq_iv 0 0 0)) (by decide) (by decide)
      exact K_24 _ _ _ _ hS (lv_sub hl [] rfl)
set_option maxHeartbeats 4000000 in
set_option maxRecDepth 100000 in
theorem c_X3_allKeys (l : Launch) (X : tq_X) (Z : tq_Z) (f : Nat → va_E) (h0 : Nat) (z_h0 : tq_z Z h0 (.inl 3)) : tq_Mp l X Z f yX3_allKeys cX3_allKeys 1 (some .int) 0 [.ref h0] (tq_ri 0 255) := by
  refine tq_startip (by decide) (Nat.le_of_ble_eq_true rfl) (fun p e R s m args below meth c Q hC hret hS ls hl => ?_)
  have hC : tq_C p R s m args c X (tq_A Z) RX3 cX3_allKeys 1 0 := hC
  have hx := hC.1.1
  have hb := hC.1.2.1
  have hown := hC.1.2.2.2.1
  have hts := hC.1.2.2.2.2
  have hl : lv_has ls 1 [(0, .ref h0)] := hl
  refine lv_iconst (v := 1) hx hb dX3_allKeys_0 (by decide) ?_
  refine lv_aload_n hx hb dX3_allKeys_1 rfl (lv_at hl 0 rfl) ?_
  refine gf_RX3_55 hC hS z_h0 dX3_allKeys_2 (fun t_2 p_2 q_2 => ?_)
  refine lv_ishl hx hb dX3_allKeys_5 ?_
  refine lv_topi (fun t_5 e_5 => ?_)
  have i1_t_5 : tq_iv 1 256 t_5 := tq_shl1 e_5 p_2 (by decide) (by decide) (by decide) (by decide)
  refine lv_iconst (v := 1) hx hb dX3_allKeys_6 (by decide) ?_
  refine lv_isub hx hb dX3_allKeys_7 ?_
  refine lv_topi (fun t_7 e_7 => ?_)
  have i2_t_7 : tq_iv 0 255 t_7 := tq_w (tq_sub e_7 i1_t_5 (⟨by decide, by decide⟩ : tq_iv 1 1 1) (by decide) (by decide)) (by decide) (by decide)
  exact hret t_7 _ _ rfl ⟨_, rfl, tq_w i2_t_7 (by decide) (by decide)⟩ dX3_allKeys_8
set_option maxHeartbeats 4000000 in
set_option maxRecDepth 100000 in
theorem c_X3_hasKeys (l : Launch) (X : tq_X) (Z : tq_Z) (f : Nat → va_E) (h0 : Nat) (z_h0 : tq_z Z h0 (.inl 3)) (x1 : Int32) : tq_Mp l X Z f yX3_hasKeys cX3_hasKeys 2 (some .boolean) 1 [.ref h0, .int x1] (tq_ri 0 1) := by
  refine tq_startip (by decide) (Nat.le_of_ble_eq_true rfl) (fun p e R s m args below meth c Q hC hret hS ls hl => ?_)
  have hC : tq_C p R s m args c X (tq_A Z) RX3 cX3_hasKeys 2 1 := hC
  have hx := hC.1.1
  have hb := hC.1.2.1
  have hown := hC.1.2.2.2.1
  have hts := hC.1.2.2.2.2
  have hl : lv_has ls 2 [(0, .ref h0), (1, .int x1)] := hl
  refine lv_iload_n hx hb dX3_hasKeys_0 rfl (lv_at hl 1 rfl) ?_
  refine lv_aload_n hx hb dX3_hasKeys_1 rfl (lv_at hl 0 rfl) ?_
  refine tq_callVpi (As := []) (rest := [.int x1]) hC (c_X3_allKeys l X Z _ h0 z_h0) k_X3_allKeys ql_RX3_93 rfl (by decide) hS z_h0 rfl hl.1 rfl (Nat.le_of_ble_eq_true rfl) ⟨Nat.zero_le _, Nat.zero_le _⟩ dX3_hasKeys_2 (fun t_2 p_2 => ?_)
  refine lv_iconst (v := -1) hx hb dX3_hasKeys_5 (by decide) ?_
  refine lv_ixor hx hb dX3_hasKeys_6 ?_
  refine lv_topi (fun t_6 e_6 => ?_)
  refine lv_iand hx hb dX3_hasKeys_7 ?_
  refine lv_topi (fun t_7 e_7 => ?_)
  have K_16 : ∀ (y0_16 : Int32) (ls : Array Slot), tq_iv 0 1 y0_16 → lv_has ls 2 [] → W p l e R s m args below meth c s.heap [] 0 0 Q (F0 m 16 ls [.int y0_16]) := by
    intro y0_16 ls  i1_y0_16 hl
    exact hret y0_16 _ _ (tq_nb i1_y0_16 (by decide) (by decide)) ⟨_, rfl, tq_w i1_y0_16 (by decide) (by decide)⟩ dX3_hasKeys_16
  refine lv_if_ne (tgt := 15) hx hb dX3_hasKeys_8 (by decide) (fun c_8 => ?_) (fun c_8 => ?_)
  · skip
    refine lv_iconst (v := 0) hx hb dX3_hasKeys_15 (by decide) ?_
    exact K_16 0 _ (tq_w (⟨by decide, by decide⟩ : tq_iv 0 0 0) (by decide) (by decide)) (lv_sub hl [] rfl)
  · skip
    have i2_t_7 : tq_iv 0 0 t_7 := tq_cut (tq_top t_7) (tq_eqL c_8 (⟨by decide, by decide⟩ : tq_iv 0 0 0)) (by decide) (by decide)
    refine lv_iconst (v := 1) hx hb dX3_hasKeys_11 (by decide) ?_
    refine lv_goto (tgt := 16) hx hb dX3_hasKeys_12 (by decide) ?_
    exact K_16 1 _ (tq_w (⟨by decide, by decide⟩ : tq_iv 1 1 1) (by decide) (by decide)) (lv_sub hl [] rfl)
set_option maxHeartbeats 4000000 in
set_option maxRecDepth 100000 in
theorem c_X5_pinsFor (l : Launch) (X : tq_X) (Z : tq_Z) (f : Nat → va_E) (h0 : Nat) (z_h0 : tq_z Z h0 (.inl 5)) (x1 : Int32) : tq_Mp l X Z f yX5_pinsFor cX5_pinsFor 4 (some .int) 2 [.ref h0, .int x1] (tq_ri (-2147483648) 2147483647) := by
  refine tq_startip (by decide) (Nat.le_of_ble_eq_true rfl) (fun p e R s m args below meth c Q hC hret hS ls hl => ?_)
  have hC : tq_C p R s m args c X (tq_A Z) RX5 cX5_pinsFor 4 2 := hC
  have hx := hC.1.1
  have hb := hC.1.2.1
  have hown := hC.1.2.2.2.1
  have hts := hC.1.2.2.2.2
  have hl : lv_has ls 4 [(0, .ref h0), (1, .int x1)] := hl
  refine lv_iconst (v := 0) hx hb dX5_pinsFor_0 (by decide) ?_
  refine lv_istore_n (lv' := [(2, .int 0), (0, .ref h0), (1, .int x1)]) hx hb dX5_pinsFor_1 rfl hl (by decide) rfl (fun ls hl => ?_)
  refine lv_iconst (v := 0) hx hb dX5_pinsFor_2 (by decide) ?_
  refine lv_istore_n (lv' := [(3, .int 0), (2, .int 0), (0, .ref h0), (1, .int x1)]) hx hb dX5_pinsFor_3 rfl hl (by decide) rfl (fun ls hl => ?_)
  have K_4 : ∀ (n_4 : Nat) (x3_4 : Int32) (x2_4 : Int32) (ls : Array Slot), tq_iv 0 8 x3_4 → (2147483647 - x3_4.toInt).toNat < n_4 → lv_has ls 4 [(3, .int x3_4), (2, .int x2_4), (0, .ref h0), (1, .int x1)] → W p l e R s m args below meth c s.heap [] 0 0 Q (F0 m 4 ls []) := by
    intro n_4
    induction n_4 with
    | zero => intro x3_4 x2_4 ls  i1_x3_4 hn_4; exact absurd hn_4 (Nat.not_lt_zero _)
    | succ n_4 ih_4 =>
      intro x3_4 x2_4 ls  i1_x3_4 hn_4 hl
      refine lv_iload_n hx hb dX5_pinsFor_4 rfl (lv_at hl 0 rfl) ?_
      refine lv_aload_n hx hb dX5_pinsFor_5 rfl (lv_at hl 2 rfl) ?_
      refine gf_RX5_9 hC hS z_h0 dX5_pinsFor_6 (fun t_6 p_6 q_6 => ?_)
      refine gf_RX5_34 hC hS p_6 dX5_pinsFor_9 (fun t_9 p_9 q_9 => ?_)
      refine lv_icmp_ge (tgt := 40) hx hb dX5_pinsFor_12 (by decide) (fun c_12 => ?_) (fun c_12 => ?_)
      · skip
        refine lv_iload_n hx hb dX5_pinsFor_40 rfl (lv_at hl 1 rfl) ?_
        exact hret x2_4 _ _ rfl ⟨_, rfl, tq_w (tq_top x2_4) (by decide) (by decide)⟩ dX5_pinsFor_41
      · skip
        have i2_x3_4 : tq_iv 0 7 x3_4 := tq_cut i1_x3_4 (tq_ltL (tq_nle c_12) i1_x3_4 p_9) (by decide) (by decide)
        have i3_t_9 : tq_iv 1 8 t_9 := tq_cut p_9 (tq_ltR (tq_nle c_12) i1_x3_4 p_9) (by decide) (by decide)
        refine lv_iload_n hx hb dX5_pinsFor_15 rfl (lv_at hl 3 rfl) ?_
        refine lv_iload_n hx hb dX5_pinsFor_16 rfl (lv_at hl 0 rfl) ?_
        refine lv_ishr hx hb dX5_pinsFor_17 ?_
        refine lv_topi (fun t_17 e_17 => ?_)
        refine lv_iconst (v := 1) hx hb dX5_pinsFor_18 (by decide) ?_
        refine lv_iand hx hb dX5_pinsFor_19 ?_
        refine lv_topi (fun t_19 e_19 => ?_)
        have i4_t_19 : tq_iv 0 1 t_19 := tq_and2 e_19 (⟨by decide, by decide⟩ : tq_iv 1 1 1) (by decide)
        have K_34 : ∀ (x2_34 : Int32) (ls : Array Slot), lv_has ls 4 [(3, .int x3_4), (2, .int x2_34), (0, .ref h0), (1, .int x1)] → W p l e R s m args below meth c s.heap [] 0 0 Q (F0 m 34 ls []) := by
          intro x2_34 ls  hl
          obtain ⟨t_34, e_34⟩ : ∃ y : Int32, y = x3_4 + 1 := ⟨_, rfl⟩
          have i5_t_34 : tq_iv 1 8 t_34 := tq_w (tq_add e_34 i2_x3_4 (⟨by decide, by decide⟩ : tq_iv 1 1 1) (by decide) (by decide)) (by decide) (by decide)
          refine lv_iinc (v := t_34) (lv' := [(3, .int t_34), (2, .int x2_34), (0, .ref h0), (1, .int x1)]) hx hb dX5_pinsFor_34 hl (k := 0) rfl (by rw [e_34]; rfl) (by decide) rfl (fun ls hl => ?_)
          refine lv_goto (tgt := 4) hx hb dX5_pinsFor_37 (by decide) ?_
          exact ih_4 t_34 x2_34 _ (tq_w i5_t_34 (by decide) (by decide)) (tq_up e_34 i2_x3_4 (⟨by decide, by decide⟩ : tq_iv 1 1 1) (by decide) (by decide) hn_4) (lv_sub hl [0, 1, 2, 3] rfl)
        refine lv_if_eq (tgt := 34) hx hb dX5_pinsFor_20 (by decide) (fun c_20 => ?_) (fun c_20 => ?_)
        · skip
          have i6_t_19 : tq_iv 0 0 t_19 := tq_cut i4_t_19 (tq_eqL c_20 (⟨by decide, by decide⟩ : tq_iv 0 0 0)) (by decide) (by decide)
          exact K_34 x2_4 _ (lv_sub hl [0, 1, 2, 3] rfl)
        · skip
          have i7_t_19 : tq_iv 1 1 t_19 := tq_w (tq_neLo c_20 i4_t_19 (⟨by decide, by decide⟩ : tq_iv 0 0 0)) (by decide) (by decide)
          refine lv_iload_n hx hb dX5_pinsFor_23 rfl (lv_at hl 1 rfl) ?_
          refine lv_aload_n hx hb dX5_pinsFor_24 rfl (lv_at hl 2 rfl) ?_
          refine gf_RX5_15 hC hS z_h0 dX5_pinsFor_25 (fun t_25 p_25 q_25 => ?_)
          refine lv_iload_n hx hb dX5_pinsFor_28 rfl (lv_at hl 0 rfl) ?_
          refine tq_callVpi (As := [.int x3_4]) (rest := [.int x2_4]) hC (c_X7_bits l X Z _ t_25 p_25 x3_4) k_X7_bits ql_RX5_37 rfl (by decide) hS p_25 rfl hl.1 rfl (Nat.le_of_ble_eq_true rfl) ⟨Nat.zero_le _, Nat.zero_le _⟩ dX5_pinsFor_29 (fun t_29 p_29 => ?_)
          refine lv_ior hx hb dX5_pinsFor_32 ?_
          refine lv_topi (fun t_32 e_32 => ?_)
          refine lv_istore_n (lv' := [(2, .int t_32), (3, .int x3_4), (0, .ref h0), (1, .int x1)]) hx hb dX5_pinsFor_33 rfl hl (by decide) rfl (fun ls hl => ?_)
          exact K_34 t_32 _ (lv_sub hl [1, 0, 2, 3] rfl)
  exact K_4 _ 0 0 _ (tq_w (⟨by decide, by decide⟩ : tq_iv 0 0 0) (by decide) (by decide)) (Nat.lt_succ_self _) (lv_sub hl [0, 1, 2, 3] rfl)
set_option maxHeartbeats 4000000 in
set_option maxRecDepth 100000 in
theorem c_X11_pin (l : Launch) (X : tq_X) (Z : tq_Z) (f : Nat → va_E) (h0 : Nat) (z_h0 : tq_z Z h0 (.inl 11)) (x1 : Int32) (x2 : Int32) : tq_M l X Z f [(1, 1), (1, 2), (1, 3)] yX11_pin cX11_pin 3 (some .int) 3 [.ref h0, .int x1, .int x2] (tq_ri (-1) 63) := by
  refine tq_starti (by decide) (Nat.le_of_ble_eq_true rfl) (fun p e R s m args below meth c Q hC hret hS ls hl => ?_)
  have hC : tq_C p R s m args c X (tq_A Z) RX11 cX11_pin 3 3 := hC
  have hx := hC.1.1
  have hb := hC.1.2.1
  have hown := hC.1.2.2.2.1
  have hts := hC.1.2.2.2.2
  have hl : lv_has ls 3 [(0, .ref h0), (1, .int x1), (2, .int x2)] := hl
  generalize hf0 : f = f0 at hret
  have hS : tq_S X Z (tq_A Z) s.heap f0 [(1, 1), (1, 2), (1, 3)] f s.heap [] := hf0 ▸ hS
  refine lv_aload_n hx hb dX11_pin_0 rfl (lv_at hl 0 rfl) ?_
  refine gf_RX11_29 hC hS z_h0 dX11_pin_1 (fun t_1 p_1 q_1 => ?_)
  refine lv_iload_n hx hb dX11_pin_4 rfl (lv_at hl 1 rfl) ?_
  refine tq_callVpi (As := [.int x1]) (rest := []) hC (c_X3_hasLock l X Z _ t_1 p_1 x1) k_X3_hasLock ql_RX11_165 rfl (by decide) hS p_1 rfl hl.1 rfl (Nat.le_of_ble_eq_true rfl) ⟨Nat.zero_le _, Nat.zero_le _⟩ dX11_pin_5 (fun t_5 p_5 => ?_)
  have K_26 : ∀ (f : Nat → va_E) (H : Heap) (locs : List Loc) (ls : Array Slot), tq_S X Z (tq_A Z) s.heap f0 [(1, 1), (1, 2), (1, 3)] f H locs → lv_has ls 3 [] → W p l e R s m args below meth c H locs 0 0 Q (F0 m 26 ls []) := by
    intro f H locs ls  hS hl
    refine lv_iconst (v := -1) hx hb dX11_pin_26 (by decide) ?_
    exact hret (-1) _ _ _ _ _ rfl ⟨_, rfl, tq_w (⟨by decide, by decide⟩ : tq_iv (-1) (-1) (-1)) (by decide) (by decide)⟩ hS dX11_pin_27
  refine lv_if_eq (tgt := 26) hx hb dX11_pin_8 (by decide) (fun c_8 => ?_) (fun c_8 => ?_)
  · skip
    have i1_t_5 : tq_iv 0 0 t_5 := tq_cut p_5 (tq_eqL c_8 (⟨by decide, by decide⟩ : tq_iv 0 0 0)) (by decide) (by decide)
    exact K_26 _ _ _ _ hS (lv_sub hl [] rfl)
  · skip
    have i2_t_5 : tq_iv 1 1 t_5 := tq_w (tq_neLo c_8 p_5 (⟨by decide, by decide⟩ : tq_iv 0 0 0)) (by decide) (by decide)
    refine lv_iload_n hx hb dX11_pin_11 rfl (lv_at hl 2 rfl) ?_
    refine lv_if_le (tgt := 26) hx hb dX11_pin_12 (by decide) (fun c_12 => ?_) (fun c_12 => ?_)
    · skip
      have i3_x2 : tq_iv (-2147483648) 0 x2 := tq_cut (tq_top x2) (tq_leL c_12 (tq_top x2) (⟨by decide, by decide⟩ : tq_iv 0 0 0)) (by decide) (by decide)
      exact K_26 _ _ _ _ hS (lv_sub hl [] rfl)
    · skip
      have i4_x2 : tq_iv 1 2147483647 x2 := tq_cut (tq_top x2) (tq_ltR (tq_nle c_12) (⟨by decide, by decide⟩ : tq_iv 0 0 0) (tq_top x2)) (by decide) (by decide)
      refine lv_aload_n hx hb dX11_pin_15 rfl (lv_at hl 0 rfl) ?_
      refine gf_RX11_29 hC hS z_h0 dX11_pin_16 (fun t_16 p_16 q_16 => ?_)
      refine lv_iload_n hx hb dX11_pin_19 rfl (lv_at hl 2 rfl) ?_
      refine tq_callVpi (As := [.int x2]) (rest := []) hC (c_X3_hasKeys l X Z _ t_16 p_16 x2) k_X3_hasKeys ql_RX11_279 rfl (by decide) hS p_16 rfl hl.1 rfl (Nat.le_of_ble_eq_true rfl) ⟨Nat.zero_le _, Nat.zero_le _⟩ dX11_pin_20 (fun t_20 p_20 => ?_)
      refine lv_if_ne (tgt := 28) hx hb dX11_pin_23 (by decide) (fun c_23 => ?_) (fun c_23 => ?_)
      · skip
        have i5_t_20 : tq_iv 1 1 t_20 := tq_w (tq_neLo c_23 p_20 (⟨by decide, by decide⟩ : tq_iv 0 0 0)) (by decide) (by decide)
        refine lv_aload_n hx hb dX11_pin_28 rfl (lv_at hl 0 rfl) ?_
        refine gf_RX11_51 hC hS z_h0 dX11_pin_29 (fun t_29 p_29 q_29 => ?_)
        refine lv_aload_n hx hb dX11_pin_32 rfl (lv_at hl 0 rfl) ?_
        refine gf_RX11_41 hC hS z_h0 dX11_pin_33 (fun t_33 p_33 q_33 => ?_)
        refine tq_callVv (As := [.ref t_33]) (rest := []) hC (c_X1_keep l X Z _ t_29 p_29 t_33 p_33) k_X1_keep ql_RX11_222 (by decide) rfl (by decide) hS p_29 rfl hl.1 rfl (Nat.le_of_ble_eq_true rfl) ⟨Nat.zero_le _, Nat.zero_le _⟩ dX11_pin_36 (fun f1_36 H locs hS k_36 => ?_)
        refine lv_aload_n hx hb dX11_pin_39 rfl (lv_at hl 0 rfl) ?_
        refine gf_RX11_41 hC hS z_h0 dX11_pin_40 (fun t_40 p_40 q_40 => ?_)
        refine lv_iload_n hx hb dX11_pin_43 rfl (lv_at hl 1 rfl) ?_
        refine lv_aload_n hx hb dX11_pin_44 rfl (lv_at hl 0 rfl) ?_
        refine gf_RX11_86 hC hS z_h0 dX11_pin_45 (fun t_45 p_45 q_45 => ?_)
        refine lv_iload_n hx hb dX11_pin_48 rfl (lv_at hl 2 rfl) ?_
        refine tq_callVpi (As := [.int x2]) (rest := [.int x1, .ref t_40]) hC (c_X5_pinsFor l X Z _ t_45 p_45 x2) k_X5_pinsFor ql_RX11_282 rfl (by decide) hS p_45 rfl hl.1 rfl (Nat.le_of_ble_eq_true rfl) ⟨Nat.zero_le _, Nat.zero_le _⟩ dX11_pin_49 (fun t_49 p_49 => ?_)
        refine tq_callVv (As := [.int x1, .int t_49]) (rest := []) hC (c_X7_putPins l X Z _ t_40 p_40 x1 t_49) k_X7_putPins ql_RX11_285 (by decide) rfl (by decide) hS p_40 rfl hl.1 rfl (Nat.le_of_ble_eq_true rfl) ⟨Nat.zero_le _, Nat.zero_le _⟩ dX11_pin_52 (fun f1_52 H locs hS k_52 => ?_)
        refine lv_aload_n hx hb dX11_pin_55 rfl (lv_at hl 0 rfl) ?_
        refine gf_RX11_41 hC hS z_h0 dX11_pin_56 (fun t_56 p_56 q_56 => ?_)
        refine lv_iload_n hx hb dX11_pin_59 rfl (lv_at hl 1 rfl) ?_
        refine tq_callVpi (As := [.int x1]) (rest := []) hC (c_X7_pins l X Z _ t_56 p_56 x1) k_X7_pins ql_RX11_168 rfl (by decide) hS p_56 rfl hl.1 rfl (Nat.le_of_ble_eq_true rfl) ⟨Nat.zero_le _, Nat.zero_le _⟩ dX11_pin_60 (fun t_60 p_60 => ?_)
        refine tq_callSpi (As := [.int t_60]) (rest := []) hC (c_J6_bitCount_0f7a4 l X Z _ t_60) k_J6_bitCount_0f7a4 ql_RX11_171 rfl (by decide) hS hl.1 rfl (Nat.le_of_ble_eq_true rfl) ⟨Nat.zero_le _, Nat.zero_le _⟩ dX11_pin_63 (fun t_63 p_63 => ?_)
        exact hret t_63 _ _ _ _ _ rfl ⟨_, rfl, tq_w p_63 (by decide) (by decide)⟩ hS dX11_pin_66
      · skip
        have i6_t_20 : tq_iv 0 0 t_20 := tq_cut p_20 (tq_eqL c_23 (⟨by decide, by decide⟩ : tq_iv 0 0 0)) (by decide) (by decide)
        exact K_26 _ _ _ _ hS (lv_sub hl [] rfl)
set_option maxHeartbeats 4000000 in
set_option maxRecDepth 100000 in
theorem c_X11_part (l : Launch) (X : tq_X) (Z : tq_Z) (f : Nat → va_E) (h0 : Nat) (z_h0 : tq_z Z h0 (.inl 11)) (x1 : Int32) (x2 : Int32) (x3 : Int32) : tq_M l X Z f [(1, 1), (1, 2), (1, 3)] yX11_part cX11_part 6 (some .int) 3 [.ref h0, .int x1, .int x2, .int x3] (tq_ri (-1) 63) := by
  refine tq_starti (by decide) (Nat.le_of_ble_eq_true rfl) (fun p e R s m args below meth c Q hC hret hS ls hl => ?_)
  have hC : tq_C p R s m args c X (tq_A Z) RX11 cX11_part 6 3 := hC
  have hx := hC.1.1
  have hb := hC.1.2.1
  have hown := hC.1.2.2.2.1
  have hts := hC.1.2.2.2.2
  have hl : lv_has ls 6 [(0, .ref h0), (1, .int x1), (2, .int x2), (3, .int x3)] := hl
  generalize hf0 : f = f0 at hret
  have hS : tq_S X Z (tq_A Z) s.heap f0 [(1, 1), (1, 2), (1, 3)] f s.heap [] := hf0 ▸ hS
  refine lv_aload_n hx hb dX11_part_0 rfl (lv_at hl 0 rfl) ?_
  refine gf_RX11_29 hC hS z_h0 dX11_part_1 (fun t_1 p_1 q_1 => ?_)
  refine lv_iload_n hx hb dX11_part_4 rfl (lv_at hl 1 rfl) ?_
  refine tq_callVpi (As := [.int x1]) (rest := []) hC (c_X3_hasLock l X Z _ t_1 p_1 x1) k_X3_hasLock ql_RX11_165 rfl (by decide) hS p_1 rfl hl.1 rfl (Nat.le_of_ble_eq_true rfl) ⟨Nat.zero_le _, Nat.zero_le _⟩ dX11_part_5 (fun t_5 p_5 => ?_)
  have K_33 : ∀ (f : Nat → va_E) (H : Heap) (locs : List Loc) (ls : Array Slot), tq_S X Z (tq_A Z) s.heap f0 [(1, 1), (1, 2), (1, 3)] f H locs → lv_has ls 6 [] → W p l e R s m args below meth c H locs 0 0 Q (F0 m 33 ls []) := by
    intro f H locs ls  hS hl
    refine lv_iconst (v := -1) hx hb dX11_part_33 (by decide) ?_
    exact hret (-1) _ _ _ _ _ rfl ⟨_, rfl, tq_w (⟨by decide, by decide⟩ : tq_iv (-1) (-1) (-1)) (by decide) (by decide)⟩ hS dX11_part_34
  refine lv_if_eq (tgt := 33) hx hb dX11_part_8 (by decide) (fun c_8 => ?_) (fun c_8 => ?_)
  · skip
    have i1_t_5 : tq_iv 0 0 t_5 := tq_cut p_5 (tq_eqL c_8 (⟨by decide, by decide⟩ : tq_iv 0 0 0)) (by decide) (by decide)
    exact K_33 _ _ _ _ hS (lv_sub hl [] rfl)
  · skip
    have i2_t_5 : tq_iv 1 1 t_5 := tq_w (tq_neLo c_8 p_5 (⟨by decide, by decide⟩ : tq_iv 0 0 0)) (by decide) (by decide)
    refine lv_aload_n hx hb dX11_part_11 rfl (lv_at hl 0 rfl) ?_
    refine gf_RX11_37 hC hS z_h0 dX11_part_12 (fun t_12 p_12 q_12 => ?_)
    refine lv_iload_n hx hb dX11_part_15 rfl (lv_at hl 2 rfl) ?_
    refine tq_callVpi (As := [.int x2]) (rest := []) hC (c_X6_hasChamber l X Z _ t_12 p_12 x2) k_X6_hasChamber ql_RX11_158 rfl (by decide) hS p_12 rfl hl.1 rfl (Nat.le_of_ble_eq_true rfl) ⟨Nat.zero_le _, Nat.zero_le _⟩ dX11_part_16 (fun t_16 p_16 => ?_)
    refine lv_if_eq (tgt := 33) hx hb dX11_part_19 (by decide) (fun c_19 => ?_) (fun c_19 => ?_)
    · skip
      have i3_t_16 : tq_iv 0 0 t_16 := tq_cut p_16 (tq_eqL c_19 (⟨by decide, by decide⟩ : tq_iv 0 0 0)) (by decide) (by decide)
      exact K_33 _ _ _ _ hS (lv_sub hl [] rfl)
    · skip
      have i4_t_16 : tq_iv 1 1 t_16 := tq_w (tq_neLo c_19 p_16 (⟨by decide, by decide⟩ : tq_iv 0 0 0)) (by decide) (by decide)
      refine lv_aload_n hx hb dX11_part_22 rfl (lv_at hl 0 rfl) ?_
      refine gf_RX11_37 hC hS z_h0 dX11_part_23 (fun t_23 p_23 q_23 => ?_)
      refine lv_iload_n hx hb dX11_part_26 rfl (lv_at hl 3 rfl) ?_
      refine tq_callVpi (As := [.int x3]) (rest := []) hC (c_X6_hasDepth l X Z _ t_23 p_23 x3) k_X6_hasDepth ql_RX11_288 rfl (by decide) hS p_23 rfl hl.1 rfl (Nat.le_of_ble_eq_true rfl) ⟨Nat.zero_le _, Nat.zero_le _⟩ dX11_part_27 (fun t_27 p_27 => ?_)
      refine lv_if_ne (tgt := 35) hx hb dX11_part_30 (by decide) (fun c_30 => ?_) (fun c_30 => ?_)
      · skip
        have i5_t_27 : tq_iv 1 1 t_27 := tq_w (tq_neLo c_30 p_27 (⟨by decide, by decide⟩ : tq_iv 0 0 0)) (by decide) (by decide)
        refine lv_aload_n hx hb dX11_part_35 rfl (lv_at hl 0 rfl) ?_
        refine gf_RX11_41 hC hS z_h0 dX11_part_36 (fun t_36 p_36 q_36 => ?_)
        refine lv_iload_n hx hb dX11_part_39 rfl (lv_at hl 1 rfl) ?_
        refine tq_callVpi (As := [.int x1]) (rest := []) hC (c_X7_pins l X Z _ t_36 p_36 x1) k_X7_pins ql_RX11_168 rfl (by decide) hS p_36 rfl hl.1 rfl (Nat.le_of_ble_eq_true rfl) ⟨Nat.zero_le _, Nat.zero_le _⟩ dX11_part_40 (fun t_40 p_40 => ?_)
        refine lv_iload_n hx hb dX11_part_43 rfl (lv_at hl 2 rfl) ?_
        refine lv_iload_n hx hb dX11_part_44 rfl (lv_at hl 3 rfl) ?_
        refine tq_callSpi (As := [.int x2, .int x3]) (rest := [.int t_40]) hC (c_X6_notch l X Z _ x2 x3) k_X6_notch ql_RX11_291 rfl (by decide) hS hl.1 rfl (Nat.le_of_ble_eq_true rfl) ⟨Nat.zero_le _, Nat.zero_le _⟩ dX11_part_45 (fun t_45 p_45 => ?_)
        refine lv_ixor hx hb dX11_part_48 ?_
        refine lv_topi (fun t_48 e_48 => ?_)
        refine lv_istore (lv' := [(4, .int t_48), (0, .ref h0), (1, .int x1), (2, .int x2), (3, .int x3)]) hx hb dX11_part_49 hl (by decide) rfl (fun ls hl => ?_)
        refine lv_iload hx hb dX11_part_51 (lv_at hl 0 rfl) ?_
        refine lv_iload_n hx hb dX11_part_53 rfl (lv_at hl 3 rfl) ?_
        refine tq_callSpi (As := [.int t_48, .int x2]) (rest := []) hC (c_X6_depthsAt l X Z _ t_48 x2) k_X6_depthsAt ql_RX11_185 rfl (by decide) hS hl.1 rfl (Nat.le_of_ble_eq_true rfl) ⟨Nat.zero_le _, Nat.zero_le _⟩ dX11_part_54 (fun t_54 p_54 => ?_)
        refine lv_istore (lv' := [(5, .int t_54), (4, .int t_48), (0, .ref h0), (1, .int x1), (2, .int x2), (3, .int x3)]) hx hb dX11_part_57 hl (by decide) rfl (fun ls hl => ?_)
        refine lv_iload hx hb dX11_part_59 (lv_at hl 0 rfl) ?_
        refine lv_if_ne (tgt := 66) hx hb dX11_part_61 (by decide) (fun c_61 => ?_) (fun c_61 => ?_)
        · skip
          have i6_t_54 : tq_iv 1 63 t_54 := tq_w (tq_neLo c_61 p_54 (⟨by decide, by decide⟩ : tq_iv 0 0 0)) (by decide) (by decide)
          refine lv_aload_n hx hb dX11_part_66 rfl (lv_at hl 2 rfl) ?_
          refine gf_RX11_51 hC hS z_h0 dX11_part_67 (fun t_67 p_67 q_67 => ?_)
          refine lv_aload_n hx hb dX11_part_70 rfl (lv_at hl 2 rfl) ?_
          refine gf_RX11_41 hC hS z_h0 dX11_part_71 (fun t_71 p_71 q_71 => ?_)
          refine tq_callVv (As := [.ref t_71]) (rest := []) hC (c_X1_keep l X Z _ t_67 p_67 t_71 p_71) k_X1_keep ql_RX11_222 (by decide) rfl (by decide) hS p_67 rfl hl.1 rfl (Nat.le_of_ble_eq_true rfl) ⟨Nat.zero_le _, Nat.zero_le _⟩ dX11_part_74 (fun f1_74 H locs hS k_74 => ?_)
          refine lv_aload_n hx hb dX11_part_77 rfl (lv_at hl 2 rfl) ?_
          refine gf_RX11_41 hC hS z_h0 dX11_part_78 (fun t_78 p_78 q_78 => ?_)
          refine lv_iload_n hx hb dX11_part_81 rfl (lv_at hl 3 rfl) ?_
          refine lv_iload hx hb dX11_part_82 (lv_at hl 1 rfl) ?_
          refine tq_callVv (As := [.int x1, .int t_48]) (rest := []) hC (c_X7_putPins l X Z _ t_78 p_78 x1 t_48) k_X7_putPins ql_RX11_285 (by decide) rfl (by decide) hS p_78 rfl hl.1 rfl (Nat.le_of_ble_eq_true rfl) ⟨Nat.zero_le _, Nat.zero_le _⟩ dX11_part_84 (fun f1_84 H locs hS k_84 => ?_)
          refine lv_iload hx hb dX11_part_87 (lv_at hl 0 rfl) ?_
          exact hret t_54 _ _ _ _ _ rfl ⟨_, rfl, tq_w i6_t_54 (by decide) (by decide)⟩ hS dX11_part_89
        · skip
          have i7_t_54 : tq_iv 0 0 t_54 := tq_cut p_54 (tq_eqL c_61 (⟨by decide, by decide⟩ : tq_iv 0 0 0)) (by decide) (by decide)
          refine lv_iconst (v := -1) hx hb dX11_part_64 (by decide) ?_
          exact hret (-1) _ _ _ _ _ rfl ⟨_, rfl, tq_w (⟨by decide, by decide⟩ : tq_iv (-1) (-1) (-1)) (by decide) (by decide)⟩ hS dX11_part_65
      · skip
        have i8_t_27 : tq_iv 0 0 t_27 := tq_cut p_27 (tq_eqL c_30 (⟨by decide, by decide⟩ : tq_iv 0 0 0)) (by decide) (by decide)
        exact K_33 _ _ _ _ hS (lv_sub hl [] rfl)
set_option maxHeartbeats 4000000 in
set_option maxRecDepth 100000 in
theorem c_X1_goBack (l : Launch) (X : tq_X) (Z : tq_Z) (f : Nat → va_E) (h0 : Nat) (z_h0 : tq_z Z h0 (.inl 1)) (h1 : Nat) (z_h1 : tq_z Z h1 (.inl 7)) : tq_M l X Z f [(1, 2)] yX1_goBack cX1_goBack 2 (some .boolean) 2 [.ref h0, .ref h1] (tq_ri 0 1) := by
  refine tq_starti (by decide) (Nat.le_of_ble_eq_true rfl) (fun p e R s m args below meth c Q hC hret hS ls hl => ?_)
  have hC : tq_C p R s m args c X (tq_A Z) RX1 cX1_goBack 2 2 := hC
  have hx := hC.1.1
  have hb := hC.1.2.1
  have hown := hC.1.2.2.2.1
  have hts := hC.1.2.2.2.2
  have hl : lv_has ls 2 [(0, .ref h0), (1, .ref h1)] := hl
  generalize hf0 : f = f0 at hret
  have hS : tq_S X Z (tq_A Z) s.heap f0 [(1, 2)] f s.heap [] := hf0 ▸ hS
  refine lv_aload_n hx hb dX1_goBack_0 rfl (lv_at hl 0 rfl) ?_
  refine gf_RX1_20 hC hS z_h0 dX1_goBack_1 (fun t_1 p_1 q_1 => ?_)
  refine lv_if_gt (tgt := 9) hx hb dX1_goBack_4 (by decide) (fun c_4 => ?_) (fun c_4 => ?_)
  · skip
    have i1_t_1 : tq_iv 1 2147483647 t_1 := tq_cut (tq_top t_1) (tq_ltR c_4 (⟨by decide, by decide⟩ : tq_iv 0 0 0) (tq_top t_1)) (by decide) (by decide)
    refine lv_aload_n hx hb dX1_goBack_9 rfl (lv_at hl 0 rfl) ?_
    refine lv_aload_n hx hb dX1_goBack_10 rfl (lv_at hl 0 rfl) ?_
    refine gf_RX1_20 hC hS z_h0 dX1_goBack_11 (fun t_11 p_11 q_11 => ?_)
    refine tq_callVpr (As := [.int t_11]) (rest := []) hC (c_X1_slot l X Z _ h0 z_h0 t_11) k_X1_slot ql_RX1_32 rfl (by decide) hS z_h0 rfl hl.1 rfl (Nat.le_of_ble_eq_true rfl) ⟨Nat.zero_le _, Nat.zero_le _⟩ dX1_goBack_14 (fun t_14 p_14 => ?_)
    refine lv_aload_n hx hb dX1_goBack_17 rfl (lv_at hl 1 rfl) ?_
    refine tq_callVv (As := [.ref h1]) (rest := []) hC (c_X7_copyFrom l X Z _ t_14 p_14 h1 z_h1) k_X7_copyFrom ql_RX1_36 (by decide) rfl (by decide) hS p_14 rfl hl.1 rfl (Nat.le_of_ble_eq_true rfl) ⟨Nat.zero_le _, Nat.zero_le _⟩ dX1_goBack_18 (fun f1_18 H locs hS k_18 => ?_)
    refine lv_aload_n hx hb dX1_goBack_21 rfl (lv_at hl 0 rfl) ?_
    refine lv_dup hx hb dX1_goBack_22 rfl ?_
    refine gf_RX1_20 hC hS z_h0 dX1_goBack_23 (fun t_23 p_23 q_23 => ?_)
    refine lv_iconst (v := 1) hx hb dX1_goBack_26 (by decide) ?_
    refine lv_isub hx hb dX1_goBack_27 ?_
    refine lv_topi (fun t_27 e_27 => ?_)
    refine pf_RX1_20 hC hS z_h0 (by decide) trivial dX1_goBack_28 (fun f H locs hS q_28 k_28 => ?_)
    refine lv_aload_n hx hb dX1_goBack_31 rfl (lv_at hl 1 rfl) ?_
    refine lv_aload_n hx hb dX1_goBack_32 rfl (lv_at hl 0 rfl) ?_
    refine lv_aload_n hx hb dX1_goBack_33 rfl (lv_at hl 0 rfl) ?_
    refine gf_RX1_20 hC hS z_h0 dX1_goBack_34 (fun t_34 p_34 q_34 => ?_)
    refine tq_callVpr (As := [.int t_34]) (rest := [.ref h1]) hC (c_X1_slot l X Z _ h0 z_h0 t_34) k_X1_slot ql_RX1_32 rfl (by decide) hS z_h0 rfl hl.1 rfl (Nat.le_of_ble_eq_true rfl) ⟨Nat.zero_le _, Nat.zero_le _⟩ dX1_goBack_37 (fun t_37 p_37 => ?_)
    refine tq_callVv (As := [.ref t_37]) (rest := []) hC (c_X7_copyFrom l X Z _ h1 z_h1 t_37 p_37) k_X7_copyFrom ql_RX1_36 (by decide) rfl (by decide) hS z_h1 rfl hl.1 rfl (Nat.le_of_ble_eq_true rfl) ⟨Nat.zero_le _, Nat.zero_le _⟩ dX1_goBack_40 (fun f1_40 H locs hS k_40 => ?_)
    refine lv_iconst (v := 1) hx hb dX1_goBack_43 (by decide) ?_
    exact hret 1 _ _ _ _ _ (tq_nb (⟨by decide, by decide⟩ : tq_iv 1 1 1) (by decide) (by decide)) ⟨_, rfl, tq_w (⟨by decide, by decide⟩ : tq_iv 1 1 1) (by decide) (by decide)⟩ hS dX1_goBack_44
  · skip
    have i2_t_1 : tq_iv (-2147483648) 0 t_1 := tq_cut (tq_top t_1) (tq_leL (tq_nlt c_4) (tq_top t_1) (⟨by decide, by decide⟩ : tq_iv 0 0 0)) (by decide) (by decide)
    refine lv_iconst (v := 0) hx hb dX1_goBack_7 (by decide) ?_
    exact hret 0 _ _ _ _ _ (tq_nb (⟨by decide, by decide⟩ : tq_iv 0 0 0) (by decide) (by decide)) ⟨_, rfl, tq_w (⟨by decide, by decide⟩ : tq_iv 0 0 0) (by decide) (by decide)⟩ hS dX1_goBack_8
set_option maxHeartbeats 4000000 in
set_option maxRecDepth 100000 in
theorem c_X11_undo (l : Launch) (X : tq_X) (Z : tq_Z) (f : Nat → va_E) (h0 : Nat) (z_h0 : tq_z Z h0 (.inl 11)) : tq_M l X Z f [(1, 2)] yX11_undo cX11_undo 1 (some .boolean) 3 [.ref h0] (tq_ri 0 1) := by
  refine tq_starti (by decide) (Nat.le_of_ble_eq_true rfl) (fun p e R s m args below meth c Q hC hret hS ls hl => ?_)
  have hC : tq_C p R s m args c X (tq_A Z) RX11 cX11_undo 1 3 := hC
  have hx := hC.1.1
  have hb := hC.1.2.1
  have hown := hC.1.2.2.2.1
  have hts := hC.1.2.2.2.2
  have hl : lv_has ls 1 [(0, .ref h0)] := hl
  generalize hf0 : f = f0 at hret
  have hS : tq_S X Z (tq_A Z) s.heap f0 [(1, 2)] f s.heap [] := hf0 ▸ hS
  refine lv_aload_n hx hb dX11_undo_0 rfl (lv_at hl 0 rfl) ?_
  refine gf_RX11_51 hC hS z_h0 dX11_undo_1 (fun t_1 p_1 q_1 => ?_)
  refine lv_aload_n hx hb dX11_undo_4 rfl (lv_at hl 0 rfl) ?_
  refine gf_RX11_41 hC hS z_h0 dX11_undo_5 (fun t_5 p_5 q_5 => ?_)
  refine tq_callVi (As := [.ref t_5]) (rest := []) hC (c_X1_goBack l X Z _ t_1 p_1 t_5 p_5) k_X1_goBack ql_RX11_294 (by decide) rfl (by decide) hS p_1 rfl hl.1 rfl (Nat.le_of_ble_eq_true rfl) ⟨Nat.zero_le _, Nat.zero_le _⟩ dX11_undo_8 (fun t_8 f1_8 H locs p_8 hS k_8 => ?_)
  exact hret t_8 _ _ _ _ _ (tq_nb p_8 (by decide) (by decide)) ⟨_, rfl, tq_w p_8 (by decide) (by decide)⟩ hS dX11_undo_11
set_option maxHeartbeats 4000000 in
set_option maxRecDepth 100000 in
theorem c_X1_goOn (l : Launch) (X : tq_X) (Z : tq_Z) (f : Nat → va_E) (h0 : Nat) (z_h0 : tq_z Z h0 (.inl 1)) (h1 : Nat) (z_h1 : tq_z Z h1 (.inl 7)) : tq_M l X Z f [(1, 2)] yX1_goOn cX1_goOn 2 (some .boolean) 2 [.ref h0, .ref h1] (tq_ri 0 1) := by
  refine tq_starti (by decide) (Nat.le_of_ble_eq_true rfl) (fun p e R s m args below meth c Q hC hret hS ls hl => ?_)
  have hC : tq_C p R s m args c X (tq_A Z) RX1 cX1_goOn 2 2 := hC
  have hx := hC.1.1
  have hb := hC.1.2.1
  have hown := hC.1.2.2.2.1
  have hts := hC.1.2.2.2.2
  have hl : lv_has ls 2 [(0, .ref h0), (1, .ref h1)] := hl
  generalize hf0 : f = f0 at hret
  have hS : tq_S X Z (tq_A Z) s.heap f0 [(1, 2)] f s.heap [] := hf0 ▸ hS
  refine lv_aload_n hx hb dX1_goOn_0 rfl (lv_at hl 0 rfl) ?_
  refine gf_RX1_20 hC hS z_h0 dX1_goOn_1 (fun t_1 p_1 q_1 => ?_)
  refine lv_aload_n hx hb dX1_goOn_4 rfl (lv_at hl 0 rfl) ?_
  refine gf_RX1_23 hC hS z_h0 dX1_goOn_5 (fun t_5 p_5 q_5 => ?_)
  refine lv_icmp_lt (tgt := 13) hx hb dX1_goOn_8 (by decide) (fun c_8 => ?_) (fun c_8 => ?_)
  · skip
    have i1_t_1 : tq_iv (-2147483648) 2147483646 t_1 := tq_cut (tq_top t_1) (tq_ltL c_8 (tq_top t_1) (tq_top t_5)) (by decide) (by decide)
    have i2_t_5 : tq_iv (-2147483647) 2147483647 t_5 := tq_cut (tq_top t_5) (tq_ltR c_8 (tq_top t_1) (tq_top t_5)) (by decide) (by decide)
    refine lv_aload_n hx hb dX1_goOn_13 rfl (lv_at hl 0 rfl) ?_
    refine lv_dup hx hb dX1_goOn_14 rfl ?_
    refine gf_RX1_20 hC hS z_h0 dX1_goOn_15 (fun t_15 p_15 q_15 => ?_)
    refine lv_iconst (v := 1) hx hb dX1_goOn_18 (by decide) ?_
    refine lv_iadd hx hb dX1_goOn_19 ?_
    refine lv_topi (fun t_19 e_19 => ?_)
    refine pf_RX1_20 hC hS z_h0 (by decide) trivial dX1_goOn_20 (fun f H locs hS q_20 k_20 => ?_)
    refine lv_aload_n hx hb dX1_goOn_23 rfl (lv_at hl 1 rfl) ?_
    refine lv_aload_n hx hb dX1_goOn_24 rfl (lv_at hl 0 rfl) ?_
    refine lv_aload_n hx hb dX1_goOn_25 rfl (lv_at hl 0 rfl) ?_
    refine gf_RX1_20 hC hS z_h0 dX1_goOn_26 (fun t_26 p_26 q_26 => ?_)
    refine tq_callVpr (As := [.int t_26]) (rest := [.ref h1]) hC (c_X1_slot l X Z _ h0 z_h0 t_26) k_X1_slot ql_RX1_32 rfl (by decide) hS z_h0 rfl hl.1 rfl (Nat.le_of_ble_eq_true rfl) ⟨Nat.zero_le _, Nat.zero_le _⟩ dX1_goOn_29 (fun t_29 p_29 => ?_)
    refine tq_callVv (As := [.ref t_29]) (rest := []) hC (c_X7_copyFrom l X Z _ h1 z_h1 t_29 p_29) k_X7_copyFrom ql_RX1_36 (by decide) rfl (by decide) hS z_h1 rfl hl.1 rfl (Nat.le_of_ble_eq_true rfl) ⟨Nat.zero_le _, Nat.zero_le _⟩ dX1_goOn_32 (fun f1_32 H locs hS k_32 => ?_)
    refine lv_iconst (v := 1) hx hb dX1_goOn_35 (by decide) ?_
    exact hret 1 _ _ _ _ _ (tq_nb (⟨by decide, by decide⟩ : tq_iv 1 1 1) (by decide) (by decide)) ⟨_, rfl, tq_w (⟨by decide, by decide⟩ : tq_iv 1 1 1) (by decide) (by decide)⟩ hS dX1_goOn_36
  · skip
    refine lv_iconst (v := 0) hx hb dX1_goOn_11 (by decide) ?_
    exact hret 0 _ _ _ _ _ (tq_nb (⟨by decide, by decide⟩ : tq_iv 0 0 0) (by decide) (by decide)) ⟨_, rfl, tq_w (⟨by decide, by decide⟩ : tq_iv 0 0 0) (by decide) (by decide)⟩ hS dX1_goOn_12
set_option maxHeartbeats 4000000 in
set_option maxRecDepth 100000 in
theorem c_X11_redo (l : Launch) (X : tq_X) (Z : tq_Z) (f : Nat → va_E) (h0 : Nat) (z_h0 : tq_z Z h0 (.inl 11)) : tq_M l X Z f [(1, 2)] yX11_redo cX11_redo 1 (some .boolean) 3 [.ref h0] (tq_ri 0 1) := by
  refine tq_starti (by decide) (Nat.le_of_ble_eq_true rfl) (fun p e R s m args below meth c Q hC hret hS ls hl => ?_)
  have hC : tq_C p R s m args c X (tq_A Z) RX11 cX11_redo 1 3 := hC
  have hx := hC.1.1
  have hb := hC.1.2.1
  have hown := hC.1.2.2.2.1
  have hts := hC.1.2.2.2.2
  have hl : lv_has ls 1 [(0, .ref h0)] := hl
  generalize hf0 : f = f0 at hret
  have hS : tq_S X Z (tq_A Z) s.heap f0 [(1, 2)] f s.heap [] := hf0 ▸ hS
  refine lv_aload_n hx hb dX11_redo_0 rfl (lv_at hl 0 rfl) ?_
  refine gf_RX11_51 hC hS z_h0 dX11_redo_1 (fun t_1 p_1 q_1 => ?_)
  refine lv_aload_n hx hb dX11_redo_4 rfl (lv_at hl 0 rfl) ?_
  refine gf_RX11_41 hC hS z_h0 dX11_redo_5 (fun t_5 p_5 q_5 => ?_)
  refine tq_callVi (As := [.ref t_5]) (rest := []) hC (c_X1_goOn l X Z _ t_1 p_1 t_5 p_5) k_X1_goOn ql_RX11_298 (by decide) rfl (by decide) hS p_1 rfl hl.1 rfl (Nat.le_of_ble_eq_true rfl) ⟨Nat.zero_le _, Nat.zero_le _⟩ dX11_redo_8 (fun t_8 f1_8 H locs p_8 hS k_8 => ?_)
  exact hret t_8 _ _ _ _ _ (tq_nb p_8 (by decide) (by decide)) ⟨_, rfl, tq_w p_8 (by decide) (by decide)⟩ hS dX11_redo_11
set_option maxHeartbeats 4000000 in
set_option maxRecDepth 100000 in
theorem c_X6_everythingBut (l : Launch) (X : tq_X) (Z : tq_Z) (f : Nat → va_E) (h0 : Nat) (z_h0 : tq_z Z h0 (.inl 6)) (x1 : Int32) : tq_Mp l X Z f yX6_everythingBut cX6_everythingBut 4 (some .int) 1 [.ref h0, .int x1] (tq_ri (-2147483648) 2147483647) := by
  refine tq_startip (by decide) (Nat.le_of_ble_eq_true rfl) (fun p e R s m args below meth c Q hC hret hS ls hl => ?_)
  have hC : tq_C p R s m args c X (tq_A Z) RX6 cX6_everythingBut 4 1 := hC
  have hx := hC.1.1
  have hb := hC.1.2.1
  have hown := hC.1.2.2.2.1
  have hts := hC.1.2.2.2.2
  have hl : lv_has ls 4 [(0, .ref h0), (1, .int x1)] := hl
  refine lv_iconst (v := 0) hx hb dX6_everythingBut_0 (by decide) ?_
  refine lv_istore_n (lv' := [(2, .int 0), (0, .ref h0), (1, .int x1)]) hx hb dX6_everythingBut_1 rfl hl (by decide) rfl (fun ls hl => ?_)
  refine lv_iconst (v := 0) hx hb dX6_everythingBut_2 (by decide) ?_
  refine lv_istore_n (lv' := [(3, .int 0), (2, .int 0), (0, .ref h0), (1, .int x1)]) hx hb dX6_everythingBut_3 rfl hl (by decide) rfl (fun ls hl => ?_)
  have K_4 : ∀ (n_4 : Nat) (x3_4 : Int32) (x2_4 : Int32) (ls : Array Slot), tq_iv 0 999 x3_4 → (2147483647 - x3_4.toInt).toNat < n_4 → lv_has ls 4 [(3, .int x3_4), (2, .int x2_4), (0, .ref h0), (1, .int x1)] → W p l e R s m args below meth c s.heap [] 0 0 Q (F0 m 4 ls []) := by
    intro n_4
    induction n_4 with
    | zero => intro x3_4 x2_4 ls  i1_x3_4 hn_4; exact absurd hn_4 (Nat.not_lt_zero _)
    | succ n_4 ih_4 =>
      intro x3_4 x2_4 ls  i1_x3_4 hn_4 hl
      refine lv_iload_n hx hb dX6_everythingBut_4 rfl (lv_at hl 0 rfl) ?_
      refine lv_aload_n hx hb dX6_everythingBut_5 rfl (lv_at hl 2 rfl) ?_
      refine gf_RX6_18 hC hS z_h0 dX6_everythingBut_6 (fun t_6 p_6 q_6 => ?_)
      refine lv_icmp_ge (tgt := 42) hx hb dX6_everythingBut_9 (by decide) (fun c_9 => ?_) (fun c_9 => ?_)
      · skip
        refine lv_iload_n hx hb dX6_everythingBut_42 rfl (lv_at hl 1 rfl) ?_
        exact hret x2_4 _ _ rfl ⟨_, rfl, tq_w (tq_top x2_4) (by decide) (by decide)⟩ dX6_everythingBut_43
      · skip
        have i2_x3_4 : tq_iv 0 998 x3_4 := tq_cut i1_x3_4 (tq_ltL (tq_nle c_9) i1_x3_4 p_6) (by decide) (by decide)
        have i3_t_6 : tq_iv 1 999 t_6 := tq_cut p_6 (tq_ltR (tq_nle c_9) i1_x3_4 p_6) (by decide) (by decide)
        refine lv_iload_n hx hb dX6_everythingBut_12 rfl (lv_at hl 3 rfl) ?_
        refine lv_iload_n hx hb dX6_everythingBut_13 rfl (lv_at hl 0 rfl) ?_
        refine tq_callSpi (As := [.int x1, .int x3_4]) (rest := []) hC (c_X6_depthsAt l X Z _ x1 x3_4) k_X6_depthsAt ql_RX6_28 rfl (by decide) hS hl.1 rfl (Nat.le_of_ble_eq_true rfl) ⟨Nat.zero_le _, Nat.zero_le _⟩ dX6_everythingBut_14 (fun t_14 p_14 => ?_)
        have K_36 : ∀ (x2_36 : Int32) (ls : Array Slot), lv_has ls 4 [(3, .int x3_4), (2, .int x2_36), (0, .ref h0), (1, .int x1)] → W p l e R s m args below meth c s.heap [] 0 0 Q (F0 m 36 ls []) := by
          intro x2_36 ls  hl
          obtain ⟨t_36, e_36⟩ : ∃ y : Int32, y = x3_4 + 1 := ⟨_, rfl⟩
          have i4_t_36 : tq_iv 1 999 t_36 := tq_w (tq_add e_36 i2_x3_4 (⟨by decide, by decide⟩ : tq_iv 1 1 1) (by decide) (by decide)) (by decide) (by decide)
          refine lv_iinc (v := t_36) (lv' := [(3, .int t_36), (2, .int x2_36), (0, .ref h0), (1, .int x1)]) hx hb dX6_everythingBut_36 hl (k := 0) rfl (by rw [e_36]; rfl) (by decide) rfl (fun ls hl => ?_)
          refine lv_goto (tgt := 4) hx hb dX6_everythingBut_39 (by decide) ?_
          exact ih_4 t_36 x2_36 _ (tq_w i4_t_36 (by decide) (by decide)) (tq_up e_36 i2_x3_4 (⟨by decide, by decide⟩ : tq_iv 1 1 1) (by decide) (by decide) hn_4) (lv_sub hl [0, 1, 2, 3] rfl)
        refine lv_if_ne (tgt := 36) hx hb dX6_everythingBut_17 (by decide) (fun c_17 => ?_) (fun c_17 => ?_)
        · skip
          have i5_t_14 : tq_iv 1 63 t_14 := tq_w (tq_neLo c_17 p_14 (⟨by decide, by decide⟩ : tq_iv 0 0 0)) (by decide) (by decide)
          exact K_36 x2_4 _ (lv_sub hl [0, 1, 2, 3] rfl)
        · skip
          have i6_t_14 : tq_iv 0 0 t_14 := tq_cut p_14 (tq_eqL c_17 (⟨by decide, by decide⟩ : tq_iv 0 0 0)) (by decide) (by decide)
          refine lv_iload_n hx hb dX6_everythingBut_20 rfl (lv_at hl 1 rfl) ?_
          refine lv_iconst (v := 1) hx hb dX6_everythingBut_21 (by decide) ?_
          refine lv_aload_n hx hb dX6_everythingBut_22 rfl (lv_at hl 2 rfl) ?_
          refine gf_RX6_22 hC hS z_h0 dX6_everythingBut_23 (fun t_23 p_23 q_23 => ?_)
          refine lv_ishl hx hb dX6_everythingBut_26 ?_
          refine lv_topi (fun t_26 e_26 => ?_)
          refine lv_iconst (v := 1) hx hb dX6_everythingBut_27 (by decide) ?_
          refine lv_isub hx hb dX6_everythingBut_28 ?_
          refine lv_topi (fun t_28 e_28 => ?_)
          refine lv_iload_n hx hb dX6_everythingBut_29 rfl (lv_at hl 0 rfl) ?_
          refine lv_bipush (v := 6) hx hb dX6_everythingBut_30 (by decide) ?_
          refine lv_imul hx hb dX6_everythingBut_32 ?_
          refine lv_topi (fun t_32 e_32 => ?_)
          refine lv_ishl hx hb dX6_everythingBut_33 ?_
          refine lv_topi (fun t_33 e_33 => ?_)
          refine lv_ior hx hb dX6_everythingBut_34 ?_
          refine lv_topi (fun t_34 e_34 => ?_)
          refine lv_istore_n (lv' := [(2, .int t_34), (3, .int x3_4), (0, .ref h0), (1, .int x1)]) hx hb dX6_everythingBut_35 rfl hl (by decide) rfl (fun ls hl => ?_)
          exact K_36 t_34 _ (lv_sub hl [1, 0, 2, 3] rfl)
  exact K_4 _ 0 0 _ (tq_w (⟨by decide, by decide⟩ : tq_iv 0 0 0) (by decide) (by decide)) (Nat.lt_succ_self _) (lv_sub hl [0, 1, 2, 3] rfl)
set_option maxHeartbeats 4000000 in
set_option maxRecDepth 100000 in
theorem c_X6_everything (l : Launch) (X : tq_X) (Z : tq_Z) (f : Nat → va_E) (h0 : Nat) (z_h0 : tq_z Z h0 (.inl 6)) : tq_Mp l X Z f yX6_everything cX6_everything 1 (some .int) 2 [.ref h0] (tq_ri (-2147483648) 2147483647) := by
  refine tq_startip (by decide) (Nat.le_of_ble_eq_true rfl) (fun p e R s m args below meth c Q hC hret hS ls hl => ?_)
  have hC : tq_C p R s m args c X (tq_A Z) RX6 cX6_everything 1 2 := hC
  have hx := hC.1.1
  have hb := hC.1.2.1
  have hown := hC.1.2.2.2.1
  have hts := hC.1.2.2.2.2
  have hl : lv_has ls 1 [(0, .ref h0)] := hl
  refine lv_aload_n hx hb dX6_everything_0 rfl (lv_at hl 0 rfl) ?_
  refine lv_iconst (v := 0) hx hb dX6_everything_1 (by decide) ?_
  refine tq_callVpi (As := [.int 0]) (rest := []) hC (c_X6_everythingBut l X Z _ h0 z_h0 0) k_X6_everythingBut ql_RX6_38 rfl (by decide) hS z_h0 rfl hl.1 rfl (Nat.le_of_ble_eq_true rfl) ⟨Nat.zero_le _, Nat.zero_le _⟩ dX6_everything_2 (fun t_2 p_2 => ?_)
  exact hret t_2 _ _ rfl ⟨_, rfl, tq_w (tq_top t_2) (by decide) (by decide)⟩ dX6_everything_5
set_option maxHeartbeats 4000000 in
set_option maxRecDepth 100000 in
theorem c_X6_onwardAt (l : Launch) (X : tq_X) (Z : tq_Z) (f : Nat → va_E) (h0 : Nat) (z_h0 : tq_z Z h0 (.inl 6)) (x1 : Int32) (x2 : Int32) : tq_Mp l X Z f yX6_onwardAt cX6_onwardAt 4 (some .int) 0 [.ref h0, .int x1, .int x2] (tq_ri (-2147483648) 2147483647) := by
  refine tq_startip (by decide) (Nat.le_of_ble_eq_true rfl) (fun p e R s m args below meth c Q hC hret hS ls hl => ?_)
  have hC : tq_C p R s m args c X (tq_A Z) RX6 cX6_onwardAt 4 0 := hC
  have hx := hC.1.1
  have hb := hC.1.2.1
  have hown := hC.1.2.2.2.1
  have hts := hC.1.2.2.2.2
  have hl : lv_has ls 4 [(0, .ref h0), (1, .int x1), (2, .int x2)] := hl
  refine lv_iload_n hx hb dX6_onwardAt_0 rfl (lv_at hl 1 rfl) ?_
  refine lv_bipush (v := 6) hx hb dX6_onwardAt_1 (by decide) ?_
  refine lv_imul hx hb dX6_onwardAt_3 ?_
  refine lv_topi (fun t_3 e_3 => ?_)
  refine lv_iload_n hx hb dX6_onwardAt_4 rfl (lv_at hl 2 rfl) ?_
  refine lv_iadd hx hb dX6_onwardAt_5 ?_
  refine lv_topi (fun t_5 e_5 => ?_)
  refine lv_istore_n (lv' := [(3, .int t_5), (0, .ref h0), (1, .int x1), (2, .int x2)]) hx hb dX6_onwardAt_6 rfl hl (by decide) rfl (fun ls hl => ?_)
  refine lv_iload_n hx hb dX6_onwardAt_7 rfl (lv_at hl 0 rfl) ?_
  have K_30 : ∀ (y0_30 : Int32) (ls : Array Slot), lv_has ls 4 [] → W p l e R s m args below meth c s.heap [] 0 0 Q (F0 m 30 ls [.int y0_30]) := by
    intro y0_30 ls  hl
    exact hret y0_30 _ _ rfl ⟨_, rfl, tq_w (tq_top y0_30) (by decide) (by decide)⟩ dX6_onwardAt_30
  have K_29 : ∀ (ls : Array Slot), lv_has ls 4 [] → W p l e R s m args below meth c s.heap [] 0 0 Q (F0 m 29 ls []) := by
    intro  ls  hl
    refine lv_iconst (v := 0) hx hb dX6_onwardAt_29 (by decide) ?_
    exact K_30 0 _ (lv_sub hl [] rfl)
  refine lv_if_lt (tgt := 29) hx hb dX6_onwardAt_8 (by decide) (fun c_8 => ?_) (fun c_8 => ?_)
  · skip
    have i1_t_5 : tq_iv (-2147483648) (-1) t_5 := tq_cut (tq_top t_5) (tq_ltL c_8 (tq_top t_5) (⟨by decide, by decide⟩ : tq_iv 0 0 0)) (by decide) (by decide)
    exact K_29 _ (lv_sub hl [] rfl)
  · skip
    have i2_t_5 : tq_iv 0 2147483647 t_5 := tq_cut (tq_top t_5) (tq_leR (tq_nlt c_8) (⟨by decide, by decide⟩ : tq_iv 0 0 0) (tq_top t_5)) (by decide) (by decide)
    refine lv_iload_n hx hb dX6_onwardAt_11 rfl (lv_at hl 0 rfl) ?_
    refine lv_aload_n hx hb dX6_onwardAt_12 rfl (lv_at hl 1 rfl) ?_
    refine gf_RX6_9 hC hS z_h0 dX6_onwardAt_13 (fun t_13 p_13 q_13 => ?_)
    refine tq_alenA hC hS p_13 rfl (v := 30) (by decide) dX6_onwardAt_16 ?_
    refine lv_icmp_ge (tgt := 29) hx hb dX6_onwardAt_17 (by decide) (fun c_17 => ?_) (fun c_17 => ?_)
    · skip
      have i3_t_5 : tq_iv 30 2147483647 t_5 := tq_cut i2_t_5 (tq_leR c_17 (⟨by decide, by decide⟩ : tq_iv 30 30 30) i2_t_5) (by decide) (by decide)
      exact K_29 _ (lv_sub hl [] rfl)
    · skip
      have i4_t_5 : tq_iv 0 29 t_5 := tq_cut i2_t_5 (tq_ltL (tq_nle c_17) i2_t_5 (⟨by decide, by decide⟩ : tq_iv 30 30 30)) (by decide) (by decide)
      refine lv_aload_n hx hb dX6_onwardAt_20 rfl (lv_at hl 1 rfl) ?_
      refine gf_RX6_9 hC hS z_h0 dX6_onwardAt_21 (fun t_21 p_21 q_21 => ?_)
      refine lv_iload_n hx hb dX6_onwardAt_24 rfl (lv_at hl 0 rfl) ?_
      refine tq_iald hC hS p_21 rfl (tq_vin i4_t_5 (by decide) (by decide)) dX6_onwardAt_25 (fun t_25 p_25 => ?_)
      refine lv_goto (tgt := 30) hx hb dX6_onwardAt_26 (by decide) ?_
      exact K_30 t_25 _ (lv_sub hl [] rfl)
set_option maxHeartbeats 4000000 in
set_option maxRecDepth 100000 in
theorem c_X6_putOnward (l : Launch) (X : tq_X) (Z : tq_Z) (f : Nat → va_E) (h0 : Nat) (z_h0 : tq_z Z h0 (.inl 6)) (x1 : Int32) (x2 : Int32) (x3 : Int32) : tq_M l X Z f [] yX6_putOnward cX6_putOnward 5 (none) 0 [.ref h0, .int x1, .int x2, .int x3] tq_rv := by
  refine tq_startv (by decide) (Nat.le_of_ble_eq_true rfl) (fun p e R s m args below meth c Q hC hret hS ls hl => ?_)
  have hC : tq_C p R s m args c X (tq_A Z) RX6 cX6_putOnward 5 0 := hC
  have hx := hC.1.1
  have hb := hC.1.2.1
  have hown := hC.1.2.2.2.1
  have hts := hC.1.2.2.2.2
  have hl : lv_has ls 5 [(0, .ref h0), (1, .int x1), (2, .int x2), (3, .int x3)] := hl
  generalize hf0 : f = f0 at hret
  have hS : tq_S X Z (tq_A Z) s.heap f0 [] f s.heap [] := hf0 ▸ hS
  refine lv_iload_n hx hb dX6_putOnward_0 rfl (lv_at hl 1 rfl) ?_
  refine lv_bipush (v := 6) hx hb dX6_putOnward_1 (by decide) ?_
  refine lv_imul hx hb dX6_putOnward_3 ?_
  refine lv_topi (fun t_3 e_3 => ?_)
  refine lv_iload_n hx hb dX6_putOnward_4 rfl (lv_at hl 2 rfl) ?_
  refine lv_iadd hx hb dX6_putOnward_5 ?_
  refine lv_topi (fun t_5 e_5 => ?_)
  refine lv_istore (lv' := [(4, .int t_5), (0, .ref h0), (1, .int x1), (2, .int x2), (3, .int x3)]) hx hb dX6_putOnward_6 hl (by decide) rfl (fun ls hl => ?_)
  refine lv_iload hx hb dX6_putOnward_8 (lv_at hl 0 rfl) ?_
  have K_31 : ∀ (f : Nat → va_E) (H : Heap) (locs : List Loc) (ls : Array Slot), tq_S X Z (tq_A Z) s.heap f0 [] f H locs → lv_has ls 5 [] → W p l e R s m args below meth c H locs 0 0 Q (F0 m 31 ls []) := by
    intro f H locs ls  hS hl
    exact hret _ _ _ _ _ rfl hS dX6_putOnward_31
  refine lv_if_lt (tgt := 31) hx hb dX6_putOnward_10 (by decide) (fun c_10 => ?_) (fun c_10 => ?_)
  · skip
    have i1_t_5 : tq_iv (-2147483648) (-1) t_5 := tq_cut (tq_top t_5) (tq_ltL c_10 (tq_top t_5) (⟨by decide, by decide⟩ : tq_iv 0 0 0)) (by decide) (by decide)
    exact K_31 _ _ _ _ hS (lv_sub hl [] rfl)
  · skip
    have i2_t_5 : tq_iv 0 2147483647 t_5 := tq_cut (tq_top t_5) (tq_leR (tq_nlt c_10) (⟨by decide, by decide⟩ : tq_iv 0 0 0) (tq_top t_5)) (by decide) (by decide)
    refine lv_iload hx hb dX6_putOnward_13 (lv_at hl 0 rfl) ?_
    refine lv_aload_n hx hb dX6_putOnward_15 rfl (lv_at hl 1 rfl) ?_
    refine gf_RX6_9 hC hS z_h0 dX6_putOnward_16 (fun t_16 p_16 q_16 => ?_)
    refine tq_alenA hC hS p_16 rfl (v := 30) (by decide) dX6_putOnward_19 ?_
    refine lv_icmp_ge (tgt := 31) hx hb dX6_putOnward_20 (by decide) (fun c_20 => ?_) (fun c_20 => ?_)
    · skip
      have i3_t_5 : tq_iv 30 2147483647 t_5 := tq_cut i2_t_5 (tq_leR c_20 (⟨by decide, by decide⟩ : tq_iv 30 30 30) i2_t_5) (by decide) (by decide)
      exact K_31 _ _ _ _ hS (lv_sub hl [] rfl)
    · skip
      have i4_t_5 : tq_iv 0 29 t_5 := tq_cut i2_t_5 (tq_ltL (tq_nle c_20) i2_t_5 (⟨by decide, by decide⟩ : tq_iv 30 30 30)) (by decide) (by decide)
      refine lv_aload_n hx hb dX6_putOnward_23 rfl (lv_at hl 1 rfl) ?_
      refine gf_RX6_9 hC hS z_h0 dX6_putOnward_24 (fun t_24 p_24 q_24 => ?_)
      refine lv_iload hx hb dX6_putOnward_27 (lv_at hl 0 rfl) ?_
      refine lv_iload_n hx hb dX6_putOnward_29 rfl (lv_at hl 4 rfl) ?_
      refine tq_iast hC hS p_24 rfl (tq_vin i4_t_5 (by decide) (by decide)) trivial dX6_putOnward_30 (fun f H locs hS k_30 => ?_)
      exact K_31 _ _ _ _ hS (lv_sub hl [] rfl)
set_option maxHeartbeats 4000000 in
set_option maxRecDepth 100000 in
theorem c_X6_waysFrom (l : Launch) (X : tq_X) (Z : tq_Z) (f : Nat → va_E) (h0 : Nat) (z_h0 : tq_z Z h0 (.inl 6)) (x1 : Int32) (x2 : Int32) (x3 : Int32) : tq_Mp l X Z f yX6_waysFrom cX6_waysFrom 6 (some .int) 1 [.ref h0, .int x1, .int x2, .int x3] (tq_ri (-2147483648) 2147483647) := by
  refine tq_startip (by decide) (Nat.le_of_ble_eq_true rfl) (fun p e R s m args below meth c Q hC hret hS ls hl => ?_)
  have hC : tq_C p R s m args c X (tq_A Z) RX6 cX6_waysFrom 6 1 := hC
  have hx := hC.1.1
  have hb := hC.1.2.1
  have hown := hC.1.2.2.2.1
  have hts := hC.1.2.2.2.2
  have hl : lv_has ls 6 [(0, .ref h0), (1, .int x1), (2, .int x2), (3, .int x3)] := hl
  refine lv_iload_n hx hb dX6_waysFrom_0 rfl (lv_at hl 1 rfl) ?_
  refine lv_iconst (v := 1) hx hb dX6_waysFrom_1 (by decide) ?_
  refine lv_iadd hx hb dX6_waysFrom_2 ?_
  refine lv_topi (fun t_2 e_2 => ?_)
  refine lv_aload_n hx hb dX6_waysFrom_3 rfl (lv_at hl 0 rfl) ?_
  refine gf_RX6_18 hC hS z_h0 dX6_waysFrom_4 (fun t_4 p_4 q_4 => ?_)
  refine lv_icmp_lt (tgt := 12) hx hb dX6_waysFrom_7 (by decide) (fun c_7 => ?_) (fun c_7 => ?_)
  · skip
    have i1_t_2 : tq_iv (-2147483648) 998 t_2 := tq_cut (tq_top t_2) (tq_ltL c_7 (tq_top t_2) p_4) (by decide) (by decide)
    refine lv_iconst (v := 0) hx hb dX6_waysFrom_12 (by decide) ?_
    refine lv_istore (lv' := [(4, .int 0), (0, .ref h0), (1, .int x1), (2, .int x2), (3, .int x3)]) hx hb dX6_waysFrom_13 hl (by decide) rfl (fun ls hl => ?_)
    refine lv_iconst (v := 0) hx hb dX6_waysFrom_15 (by decide) ?_
    refine lv_istore (lv' := [(5, .int 0), (4, .int 0), (0, .ref h0), (1, .int x1), (2, .int x2), (3, .int x3)]) hx hb dX6_waysFrom_16 hl (by decide) rfl (fun ls hl => ?_)
    have K_18 : ∀ (n_18 : Nat) (x5_18 : Int32) (x4_18 : Int32) (ls : Array Slot), tq_iv 0 999 x5_18 → (2147483647 - x5_18.toInt).toNat < n_18 → lv_has ls 6 [(5, .int x5_18), (4, .int x4_18), (0, .ref h0), (1, .int x1), (2, .int x2), (3, .int x3)] → W p l e R s m args below meth c s.heap [] 0 0 Q (F0 m 18 ls []) := by
      intro n_18
      induction n_18 with
      | zero => intro x5_18 x4_18 ls  i2_x5_18 hn_18; exact absurd hn_18 (Nat.not_lt_zero _)
      | succ n_18 ih_18 =>
        intro x5_18 x4_18 ls  i2_x5_18 hn_18 hl
        refine lv_iload hx hb dX6_waysFrom_18 (lv_at hl 0 rfl) ?_
        refine lv_aload_n hx hb dX6_waysFrom_20 rfl (lv_at hl 2 rfl) ?_
        refine gf_RX6_22 hC hS z_h0 dX6_waysFrom_21 (fun t_21 p_21 q_21 => ?_)
        refine lv_icmp_ge (tgt := 58) hx hb dX6_waysFrom_24 (by decide) (fun c_24 => ?_) (fun c_24 => ?_)
        · skip
          refine lv_iload hx hb dX6_waysFrom_58 (lv_at hl 1 rfl) ?_
          exact hret x4_18 _ _ rfl ⟨_, rfl, tq_w (tq_top x4_18) (by decide) (by decide)⟩ dX6_waysFrom_60
        · skip
          have i3_x5_18 : tq_iv 0 998 x5_18 := tq_cut i2_x5_18 (tq_ltL (tq_nle c_24) i2_x5_18 p_21) (by decide) (by decide)
          have i4_t_21 : tq_iv 1 999 t_21 := tq_cut p_21 (tq_ltR (tq_nle c_24) i2_x5_18 p_21) (by decide) (by decide)
          refine lv_iload hx hb dX6_waysFrom_27 (lv_at hl 0 rfl) ?_
          refine lv_iload_n hx hb dX6_waysFrom_29 rfl (lv_at hl 4 rfl) ?_
          refine lv_isub hx hb dX6_waysFrom_30 ?_
          refine lv_topi (fun t_30 e_30 => ?_)
          refine va_mabs hx hb (hC.1.2.2.1.trans hl.1.symm) hown (hts _ ql_RX6_59) (hts _ qm_abs_s) (hts _ qm_i) (hts _ qm_abs_c) (Nat.le_trans (by decide) hC.2.2.1) (Nat.le_trans (Nat.le_of_ble_eq_true rfl) hC.2.2.2.1) (Nat.zero_le _) (Nat.zero_le _) dX6_waysFrom_31 ?_
          refine lv_topi (fun t_31 e_31 => ?_)
          refine lv_iload_n hx hb dX6_waysFrom_34 rfl (lv_at hl 5 rfl) ?_
          have K_52 : ∀ (x4_52 : Int32) (ls : Array Slot), lv_has ls 6 [(5, .int x5_18), (4, .int x4_52), (0, .ref h0), (1, .int x1), (2, .int x2), (3, .int x3)] → W p l e R s m args below meth c s.heap [] 0 0 Q (F0 m 52 ls []) := by
            intro x4_52 ls  hl
            obtain ⟨t_52, e_52⟩ : ∃ y : Int32, y = x5_18 + 1 := ⟨_, rfl⟩
            have i5_t_52 : tq_iv 1 999 t_52 := tq_w (tq_add e_52 i3_x5_18 (⟨by decide, by decide⟩ : tq_iv 1 1 1) (by decide) (by decide)) (by decide) (by decide)
            refine lv_iinc (v := t_52) (lv' := [(5, .int t_52), (4, .int x4_52), (0, .ref h0), (1, .int x1), (2, .int x2), (3, .int x3)]) hx hb dX6_waysFrom_52 hl (k := 0) rfl (by rw [e_52]; rfl) (by decide) rfl (fun ls hl => ?_)
            refine lv_goto (tgt := 18) hx hb dX6_waysFrom_55 (by decide) ?_
            exact ih_18 t_52 x4_52 _ (tq_w i5_t_52 (by decide) (by decide)) (tq_up e_52 i3_x5_18 (⟨by decide, by decide⟩ : tq_iv 1 1 1) (by decide) (by decide) hn_18) (lv_sub hl [0, 1, 2, 3, 4, 5] rfl)
          refine lv_icmp_gt (tgt := 52) hx hb dX6_waysFrom_35 (by decide) (fun c_35 => ?_) (fun c_35 => ?_)
          · skip
            have i6_x3 : tq_iv (-2147483648) 2147483646 x3 := tq_cut (tq_top x3) (tq_ltL c_35 (tq_top x3) (tq_top t_31)) (by decide) (by decide)
            have i7_t_31 : tq_iv (-2147483647) 2147483647 t_31 := tq_cut (tq_top t_31) (tq_ltR c_35 (tq_top x3) (tq_top t_31)) (by decide) (by decide)
            exact K_52 x4_18 _ (lv_sub hl [0, 1, 2, 3, 4, 5] rfl)
          · skip
            refine lv_iload hx hb dX6_waysFrom_38 (lv_at hl 1 rfl) ?_
            refine lv_aload_n hx hb dX6_waysFrom_40 rfl (lv_at hl 2 rfl) ?_
            refine lv_iload_n hx hb dX6_waysFrom_41 rfl (lv_at hl 3 rfl) ?_
            refine lv_iconst (v := 1) hx hb dX6_waysFrom_42 (by decide) ?_
            refine lv_iadd hx hb dX6_waysFrom_43 ?_
            refine lv_topi (fun t_43 e_43 => ?_)
            refine lv_iload hx hb dX6_waysFrom_44 (lv_at hl 0 rfl) ?_
            refine tq_callVpi (As := [.int t_43, .int x5_18]) (rest := [.int x4_18]) hC (c_X6_onwardAt l X Z _ h0 z_h0 t_43 x5_18) k_X6_onwardAt ql_RX6_79 rfl (by decide) hS z_h0 rfl hl.1 rfl (Nat.le_of_ble_eq_true rfl) ⟨Nat.zero_le _, Nat.zero_le _⟩ dX6_waysFrom_46 (fun t_46 p_46 => ?_)
            refine lv_iadd hx hb dX6_waysFrom_49 ?_
            refine lv_topi (fun t_49 e_49 => ?_)
            refine lv_istore (lv' := [(4, .int t_49), (5, .int x5_18), (0, .ref h0), (1, .int x1), (2, .int x2), (3, .int x3)]) hx hb dX6_waysFrom_50 hl (by decide) rfl (fun ls hl => ?_)
            exact K_52 t_49 _ (lv_sub hl [1, 0, 2, 3, 4, 5] rfl)
    exact K_18 _ 0 0 _ (tq_w (⟨by decide, by decide⟩ : tq_iv 0 0 0) (by decide) (by decide)) (Nat.lt_succ_self _) (lv_sub hl [0, 1, 2, 3, 4, 5] rfl)
  · skip
    have i8_t_2 : tq_iv 0 2147483647 t_2 := tq_cut (tq_top t_2) (tq_leR (tq_nlt c_7) p_4 (tq_top t_2)) (by decide) (by decide)
    refine lv_iconst (v := 1) hx hb dX6_waysFrom_10 (by decide) ?_
    exact hret 1 _ _ rfl ⟨_, rfl, tq_w (⟨by decide, by decide⟩ : tq_iv 1 1 1) (by decide) (by decide)⟩ dX6_waysFrom_11
set_option maxHeartbeats 4000000 in
set_option maxRecDepth 100000 in
theorem c_X6_howMany (l : Launch) (X : tq_X) (Z : tq_Z) (f : Nat → va_E) (h0 : Nat) (z_h0 : tq_z Z h0 (.inl 6)) (x1 : Int32) (x2 : Int32) : tq_M l X Z f [] yX6_howMany cX6_howMany 5 (some .int) 2 [.ref h0, .int x1, .int x2] (tq_ri (-2147483648) 2147483647) := by
  refine tq_starti (by decide) (Nat.le_of_ble_eq_true rfl) (fun p e R s m args below meth c Q hC hret hS ls hl => ?_)
  have hC : tq_C p R s m args c X (tq_A Z) RX6 cX6_howMany 5 2 := hC
  have hx := hC.1.1
  have hb := hC.1.2.1
  have hown := hC.1.2.2.2.1
  have hts := hC.1.2.2.2.2
  have hl : lv_has ls 5 [(0, .ref h0), (1, .int x1), (2, .int x2)] := hl
  generalize hf0 : f = f0 at hret
  have hS : tq_S X Z (tq_A Z) s.heap f0 [] f s.heap [] := hf0 ▸ hS
  refine lv_aload_n hx hb dX6_howMany_0 rfl (lv_at hl 0 rfl) ?_
  refine gf_RX6_18 hC hS z_h0 dX6_howMany_1 (fun t_1 p_1 q_1 => ?_)
  refine lv_iconst (v := 1) hx hb dX6_howMany_4 (by decide) ?_
  refine lv_isub hx hb dX6_howMany_5 ?_
  refine lv_topi (fun t_5 e_5 => ?_)
  have i1_t_5 : tq_iv (-1) 998 t_5 := tq_w (tq_sub e_5 p_1 (⟨by decide, by decide⟩ : tq_iv 1 1 1) (by decide) (by decide)) (by decide) (by decide)
  refine lv_istore_n (lv' := [(3, .int t_5), (0, .ref h0), (1, .int x1), (2, .int x2)]) hx hb dX6_howMany_6 rfl hl (by decide) rfl (fun ls hl => ?_)
  have K_7 : ∀ (n_7 : Nat) (x3_7 : Int32) (f : Nat → va_E) (H : Heap) (locs : List Loc) (ls : Array Slot), tq_S X Z (tq_A Z) s.heap f0 [] f H locs → tq_iv (-1) 998 x3_7 → (x3_7.toInt + 2147483648).toNat < n_7 → lv_has ls 5 [(3, .int x3_7), (0, .ref h0), (1, .int x1), (2, .int x2)] → W p l e R s m args below meth c H locs 0 0 Q (F0 m 7 ls []) := by
    intro n_7
    induction n_7 with
    | zero => intro x3_7 f H locs ls  hS i2_x3_7 hn_7; exact absurd hn_7 (Nat.not_lt_zero _)
    | succ n_7 ih_7 =>
      intro x3_7 f H locs ls  hS i2_x3_7 hn_7 hl
      refine lv_iload_n hx hb dX6_howMany_7 rfl (lv_at hl 0 rfl) ?_
      refine lv_if_lt (tgt := 65) hx hb dX6_howMany_8 (by decide) (fun c_8 => ?_) (fun c_8 => ?_)
      · skip
        have i3_x3_7 : tq_iv (-1) (-1) x3_7 := tq_cut i2_x3_7 (tq_ltL c_8 i2_x3_7 (⟨by decide, by decide⟩ : tq_iv 0 0 0)) (by decide) (by decide)
        refine lv_iconst (v := 0) hx hb dX6_howMany_65 (by decide) ?_
        refine lv_istore_n (lv' := [(3, .int 0), (0, .ref h0), (1, .int x1), (2, .int x2)]) hx hb dX6_howMany_66 rfl hl (by decide) rfl (fun ls hl => ?_)
        refine lv_iconst (v := 0) hx hb dX6_howMany_67 (by decide) ?_
        refine lv_istore (lv' := [(4, .int 0), (3, .int 0), (0, .ref h0), (1, .int x1), (2, .int x2)]) hx hb dX6_howMany_68 hl (by decide) rfl (fun ls hl => ?_)
        have K_70 : ∀ (n_70 : Nat) (x4_70 : Int32) (x3_70 : Int32) (f : Nat → va_E) (H : Heap) (locs : List Loc) (ls : Array Slot), tq_S X Z (tq_A Z) s.heap f0 [] f H locs → tq_iv 0 999 x4_70 → (2147483647 - x4_70.toInt).toNat < n_70 → lv_has ls 5 [(4, .int x4_70), (3, .int x3_70), (0, .ref h0)] → W p l e R s m args below meth c H locs 0 0 Q (F0 m 70 ls []) := by
          intro n_70
          induction n_70 with
          | zero => intro x4_70 x3_70 f H locs ls  hS i4_x4_70 hn_70; exact absurd hn_70 (Nat.not_lt_zero _)
          | succ n_70 ih_70 =>
            intro x4_70 x3_70 f H locs ls  hS i4_x4_70 hn_70 hl
            refine lv_iload hx hb dX6_howMany_70 (lv_at hl 0 rfl) ?_
            refine lv_aload_n hx hb dX6_howMany_72 rfl (lv_at hl 2 rfl) ?_
            refine gf_RX6_22 hC hS z_h0 dX6_howMany_73 (fun t_73 p_73 q_73 => ?_)
            refine lv_icmp_ge (tgt := 95) hx hb dX6_howMany_76 (by decide) (fun c_76 => ?_) (fun c_76 => ?_)
            · skip
              refine lv_iload_n hx hb dX6_howMany_95 rfl (lv_at hl 1 rfl) ?_
              exact hret x3_70 _ _ _ _ _ rfl ⟨_, rfl, tq_w (tq_top x3_70) (by decide) (by decide)⟩ hS dX6_howMany_96
            · skip
              have i5_x4_70 : tq_iv 0 998 x4_70 := tq_cut i4_x4_70 (tq_ltL (tq_nle c_76) i4_x4_70 p_73) (by decide) (by decide)
              have i6_t_73 : tq_iv 1 999 t_73 := tq_cut p_73 (tq_ltR (tq_nle c_76) i4_x4_70 p_73) (by decide) (by decide)
              refine lv_iload_n hx hb dX6_howMany_79 rfl (lv_at hl 1 rfl) ?_
              refine lv_aload_n hx hb dX6_howMany_80 rfl (lv_at hl 2 rfl) ?_
              refine lv_iconst (v := 0) hx hb dX6_howMany_81 (by decide) ?_
              refine lv_iload hx hb dX6_howMany_82 (lv_at hl 0 rfl) ?_
              refine tq_callVpi (As := [.int 0, .int x4_70]) (rest := [.int x3_70]) hC (c_X6_onwardAt l X Z _ h0 z_h0 0 x4_70) k_X6_onwardAt ql_RX6_79 rfl (by decide) hS z_h0 rfl hl.1 rfl (Nat.le_of_ble_eq_true rfl) ⟨Nat.zero_le _, Nat.zero_le _⟩ dX6_howMany_84 (fun t_84 p_84 => ?_)
              refine lv_iadd hx hb dX6_howMany_87 ?_
              refine lv_topi (fun t_87 e_87 => ?_)
              refine lv_istore_n (lv' := [(3, .int t_87), (4, .int x4_70), (0, .ref h0)]) hx hb dX6_howMany_88 rfl hl (by decide) rfl (fun ls hl => ?_)
              obtain ⟨t_89, e_89⟩ : ∃ y : Int32, y = x4_70 + 1 := ⟨_, rfl⟩
              have i7_t_89 : tq_iv 1 999 t_89 := tq_w (tq_add e_89 i5_x4_70 (⟨by decide, by decide⟩ : tq_iv 1 1 1) (by decide) (by decide)) (by decide) (by decide)
              refine lv_iinc (v := t_89) (lv' := [(4, .int t_89), (3, .int t_87), (0, .ref h0)]) hx hb dX6_howMany_89 hl (k := 1) rfl (by rw [e_89]; rfl) (by decide) rfl (fun ls hl => ?_)
              refine lv_goto (tgt := 70) hx hb dX6_howMany_92 (by decide) ?_
              exact ih_70 t_89 t_87 _ _ _ _ hS (tq_w i7_t_89 (by decide) (by decide)) (tq_up e_89 i5_x4_70 (⟨by decide, by decide⟩ : tq_iv 1 1 1) (by decide) (by decide) hn_70) (lv_sub hl [0, 1, 2] rfl)
        exact K_70 _ 0 0 _ _ _ _ hS (tq_w (⟨by decide, by decide⟩ : tq_iv 0 0 0) (by decide) (by decide)) (Nat.lt_succ_self _) (lv_sub hl [0, 1, 2] rfl)
      · skip
        have i8_x3_7 : tq_iv 0 998 x3_7 := tq_cut i2_x3_7 (tq_leR (tq_nlt c_8) (⟨by decide, by decide⟩ : tq_iv 0 0 0) i2_x3_7) (by decide) (by decide)
        refine lv_iconst (v := 0) hx hb dX6_howMany_11 (by decide) ?_
        refine lv_istore (lv' := [(4, .int 0), (3, .int x3_7), (0, .ref h0), (1, .int x1), (2, .int x2)]) hx hb dX6_howMany_12 hl (by decide) rfl (fun ls hl => ?_)
        have K_14 : ∀ (n_14 : Nat) (x4_14 : Int32) (f : Nat → va_E) (H : Heap) (locs : List Loc) (ls : Array Slot), tq_S X Z (tq_A Z) s.heap f0 [] f H locs → tq_iv 0 999 x4_14 → (2147483647 - x4_14.toInt).toNat < n_14 → lv_has ls 5 [(4, .int x4_14), (3, .int x3_7), (0, .ref h0), (1, .int x1), (2, .int x2)] → W p l e R s m args below meth c H locs 0 0 Q (F0 m 14 ls []) := by
          intro n_14
          induction n_14 with
          | zero => intro x4_14 f H locs ls  hS i9_x4_14 hn_14; exact absurd hn_14 (Nat.not_lt_zero _)
          | succ n_14 ih_14 =>
            intro x4_14 f H locs ls  hS i9_x4_14 hn_14 hl
            refine lv_iload hx hb dX6_howMany_14 (lv_at hl 0 rfl) ?_
            refine lv_aload_n hx hb dX6_howMany_16 rfl (lv_at hl 2 rfl) ?_
            refine gf_RX6_22 hC hS z_h0 dX6_howMany_17 (fun t_17 p_17 q_17 => ?_)
            refine lv_icmp_ge (tgt := 59) hx hb dX6_howMany_20 (by decide) (fun c_20 => ?_) (fun c_20 => ?_)
            · skip
              obtain ⟨t_59, e_59⟩ : ∃ y : Int32, y = x3_7 + (-1) := ⟨_, rfl⟩
              have i10_t_59 : tq_iv (-1) 997 t_59 := tq_w (tq_add e_59 i8_x3_7 (⟨by decide, by decide⟩ : tq_iv (-1) (-1) (-1)) (by decide) (by decide)) (by decide) (by decide)
              refine lv_iinc (v := t_59) (lv' := [(3, .int t_59), (4, .int x4_14), (0, .ref h0), (1, .int x1), (2, .int x2)]) hx hb dX6_howMany_59 hl (k := 1) rfl (by rw [e_59]; rfl) (by decide) rfl (fun ls hl => ?_)
              refine lv_goto (tgt := 7) hx hb dX6_howMany_62 (by decide) ?_
              exact ih_7 t_59 _ _ _ _ hS (tq_w i10_t_59 (by decide) (by decide)) (tq_down e_59 i8_x3_7 (⟨by decide, by decide⟩ : tq_iv (-1) (-1) (-1)) (by decide) (by decide) hn_7) (lv_sub hl [0, 2, 3, 4] rfl)
            · skip
              have i11_x4_14 : tq_iv 0 998 x4_14 := tq_cut i9_x4_14 (tq_ltL (tq_nle c_20) i9_x4_14 p_17) (by decide) (by decide)
              have i12_t_17 : tq_iv 1 999 t_17 := tq_cut p_17 (tq_ltR (tq_nle c_20) i9_x4_14 p_17) (by decide) (by decide)
              refine lv_aload_n hx hb dX6_howMany_23 rfl (lv_at hl 2 rfl) ?_
              refine lv_iload_n hx hb dX6_howMany_24 rfl (lv_at hl 1 rfl) ?_
              refine lv_iload hx hb dX6_howMany_25 (lv_at hl 0 rfl) ?_
              refine lv_iload_n hx hb dX6_howMany_27 rfl (lv_at hl 3 rfl) ?_
              refine lv_iload_n hx hb dX6_howMany_28 rfl (lv_at hl 1 rfl) ?_
              refine lv_iload hx hb dX6_howMany_29 (lv_at hl 0 rfl) ?_
              refine tq_callSpi (As := [.int x3_7, .int x4_14]) (rest := [.int x1, .int x4_14, .int x3_7, .ref h0]) hC (c_X6_notch l X Z _ x3_7 x4_14) k_X6_notch ql_RX6_44 rfl (by decide) hS hl.1 rfl (Nat.le_of_ble_eq_true rfl) ⟨Nat.zero_le _, Nat.zero_le _⟩ dX6_howMany_31 (fun t_31 p_31 => ?_)
              refine lv_iand hx hb dX6_howMany_34 ?_
              refine lv_topi (fun t_34 e_34 => ?_)
              have K_50 : ∀ (y0_50 : Nat) (y1_50 : Int32) (y2_50 : Int32) (y3_50 : Int32) (f : Nat → va_E) (H : Heap) (locs : List Loc) (ls : Array Slot), tq_z Z y0_50 (.inl 6) → tq_S X Z (tq_A Z) s.heap f0 [] f H locs → tq_iv 0 998 y1_50 → tq_iv 0 998 y2_50 → lv_has ls 5 [(4, .int x4_14), (3, .int x3_7), (0, .ref h0), (1, .int x1), (2, .int x2)] → W p l e R s m args below meth c H locs 0 0 Q (F0 m 50 ls [.int y3_50, .int y2_50, .int y1_50, .ref y0_50]) := by
                intro y0_50 y1_50 y2_50 y3_50 f H locs ls z_y0_50 hS i13_y1_50 i14_y2_50 hl
                refine tq_callVv (As := [.int y1_50, .int y2_50, .int y3_50]) (rest := []) hC (c_X6_putOnward l X Z _ y0_50 z_y0_50 y1_50 y2_50 y3_50) k_X6_putOnward ql_RX6_75 (by decide) rfl (by decide) hS z_y0_50 rfl hl.1 rfl (Nat.le_of_ble_eq_true rfl) ⟨Nat.zero_le _, Nat.zero_le _⟩ dX6_howMany_50 (fun f1_50 H locs hS k_50 => ?_)
                obtain ⟨t_53, e_53⟩ : ∃ y : Int32, y = x4_14 + 1 := ⟨_, rfl⟩
                have i15_t_53 : tq_iv 1 999 t_53 := tq_w (tq_add e_53 i11_x4_14 (⟨by decide, by decide⟩ : tq_iv 1 1 1) (by decide) (by decide)) (by decide) (by decide)
                refine lv_iinc (v := t_53) (lv' := [(4, .int t_53), (3, .int x3_7), (0, .ref h0), (1, .int x1), (2, .int x2)]) hx hb dX6_howMany_53 hl (k := 0) rfl (by rw [e_53]; rfl) (by decide) rfl (fun ls hl => ?_)
                refine lv_goto (tgt := 14) hx hb dX6_howMany_56 (by decide) ?_
                exact ih_14 t_53 _ _ _ _ hS (tq_w i15_t_53 (by decide) (by decide)) (tq_up e_53 i11_x4_14 (⟨by decide, by decide⟩ : tq_iv 1 1 1) (by decide) (by decide) hn_14) (lv_sub hl [0, 1, 2, 3, 4] rfl)
              refine lv_if_ne (tgt := 42) hx hb dX6_howMany_35 (by decide) (fun c_35 => ?_) (fun c_35 => ?_)
              · skip
                refine lv_aload_n hx hb dX6_howMany_42 rfl (lv_at hl 2 rfl) ?_
                refine lv_iload_n hx hb dX6_howMany_43 rfl (lv_at hl 1 rfl) ?_
                refine lv_iload hx hb dX6_howMany_44 (lv_at hl 0 rfl) ?_
                refine lv_iload_n hx hb dX6_howMany_46 rfl (lv_at hl 4 rfl) ?_
                refine tq_callVpi (As := [.int x3_7, .int x4_14, .int x2]) (rest := [.int x4_14, .int x3_7, .ref h0]) hC (c_X6_waysFrom l X Z _ h0 z_h0 x3_7 x4_14 x2) k_X6_waysFrom ql_RX6_72 rfl (by decide) hS z_h0 rfl hl.1 rfl (Nat.le_of_ble_eq_true rfl) ⟨Nat.zero_le _, Nat.zero_le _⟩ dX6_howMany_47 (fun t_47 p_47 => ?_)
                exact K_50 h0 x3_7 x4_14 t_47 _ _ _ _ z_h0 hS (tq_w i8_x3_7 (by decide) (by decide)) (tq_w i11_x4_14 (by decide) (by decide)) (lv_sub hl [0, 1, 2, 3, 4] rfl)
              · skip
                have i16_t_34 : tq_iv 0 0 t_34 := tq_cut (tq_top t_34) (tq_eqL c_35 (⟨by decide, by decide⟩ : tq_iv 0 0 0)) (by decide) (by decide)
                refine lv_iconst (v := 0) hx hb dX6_howMany_38 (by decide) ?_
                refine lv_goto (tgt := 50) hx hb dX6_howMany_39 (by decide) ?_
                exact K_50 h0 x3_7 x4_14 0 _ _ _ _ z_h0 hS (tq_w i8_x3_7 (by decide) (by decide)) (tq_w i11_x4_14 (by decide) (by decide)) (lv_sub hl [0, 1, 2, 3, 4] rfl)
        exact K_14 _ 0 _ _ _ _ hS (tq_w (⟨by decide, by decide⟩ : tq_iv 0 0 0) (by decide) (by decide)) (Nat.lt_succ_self _) (lv_sub hl [0, 1, 2, 3, 4] rfl)
  exact K_7 _ t_5 _ _ _ _ hS (tq_w i1_t_5 (by decide) (by decide)) (Nat.lt_succ_self _) (lv_sub hl [0, 1, 2, 3] rfl)
set_option maxHeartbeats 4000000 in
set_option maxRecDepth 100000 in
theorem c_X11_legal (l : Launch) (X : tq_X) (Z : tq_Z) (f : Nat → va_E) (h0 : Nat) (z_h0 : tq_z Z h0 (.inl 11)) : tq_M l X Z f [] yX11_legal cX11_legal 1 (some .int) 3 [.ref h0] (tq_ri (-2147483648) 2147483647) := by
  refine tq_starti (by decide) (Nat.le_of_ble_eq_true rfl) (fun p e R s m args below meth c Q hC hret hS ls hl => ?_)
  have hC : tq_C p R s m args c X (tq_A Z) RX11 cX11_legal 1 3 := hC
  have hx := hC.1.1
  have hb := hC.1.2.1
  have hown := hC.1.2.2.2.1
  have hts := hC.1.2.2.2.2
  have hl : lv_has ls 1 [(0, .ref h0)] := hl
  generalize hf0 : f = f0 at hret
  have hS : tq_S X Z (tq_A Z) s.heap f0 [] f s.heap [] := hf0 ▸ hS
  refine lv_aload_n hx hb dX11_legal_0 rfl (lv_at hl 0 rfl) ?_
  refine gf_RX11_37 hC hS z_h0 dX11_legal_1 (fun t_1 p_1 q_1 => ?_)
  refine lv_aload_n hx hb dX11_legal_4 rfl (lv_at hl 0 rfl) ?_
  refine gf_RX11_37 hC hS z_h0 dX11_legal_5 (fun t_5 p_5 q_5 => ?_)
  refine tq_callVpi (As := []) (rest := [.ref t_1]) hC (c_X6_everything l X Z _ t_5 p_5) k_X6_everything ql_RX11_301 rfl (by decide) hS p_5 rfl hl.1 rfl (Nat.le_of_ble_eq_true rfl) ⟨Nat.zero_le _, Nat.zero_le _⟩ dX11_legal_8 (fun t_8 p_8 => ?_)
  refine lv_aload_n hx hb dX11_legal_11 rfl (lv_at hl 0 rfl) ?_
  refine gf_RX11_37 hC hS z_h0 dX11_legal_12 (fun t_12 p_12 q_12 => ?_)
  refine gf_RX11_304 hC hS p_12 dX11_legal_15 (fun t_15 p_15 q_15 => ?_)
  refine tq_callVi (As := [.int t_8, .int t_15]) (rest := []) hC (c_X6_howMany l X Z _ t_1 p_1 t_8 t_15) k_X6_howMany ql_RX11_307 (by decide) rfl (by decide) hS p_1 rfl hl.1 rfl (Nat.le_of_ble_eq_true rfl) ⟨Nat.zero_le _, Nat.zero_le _⟩ dX11_legal_18 (fun t_18 f1_18 H locs p_18 hS k_18 => ?_)
  exact hret t_18 _ _ _ _ _ rfl ⟨_, rfl, tq_w (tq_top t_18) (by decide) (by decide)⟩ hS dX11_legal_21
set_option maxHeartbeats 4000000 in
set_option maxRecDepth 100000 in
theorem c_X6_highest (l : Launch) (X : tq_X) (Z : tq_Z) (f : Nat → va_E) (h0 : Nat) (z_h0 : tq_z Z h0 (.inl 6)) (x1 : Int32) : tq_Mp l X Z f yX6_highest cX6_highest 2 (some .int) 1 [.ref h0, .int x1] (tq_ri (-2147483648) 998) := by
  refine tq_startip (by decide) (Nat.le_of_ble_eq_true rfl) (fun p e R s m args below meth c Q hC hret hS ls hl => ?_)
  have hC : tq_C p R s m args c X (tq_A Z) RX6 cX6_highest 2 1 := hC
  have hx := hC.1.1
  have hb := hC.1.2.1
  have hown := hC.1.2.2.2.1
  have hts := hC.1.2.2.2.2
  have hl : lv_has ls 2 [(0, .ref h0), (1, .int x1)] := hl
  refine lv_aload_n hx hb dX6_highest_0 rfl (lv_at hl 0 rfl) ?_
  refine gf_RX6_22 hC hS z_h0 dX6_highest_1 (fun t_1 p_1 q_1 => ?_)
  refine lv_iconst (v := 1) hx hb dX6_highest_4 (by decide) ?_
  refine lv_isub hx hb dX6_highest_5 ?_
  refine lv_topi (fun t_5 e_5 => ?_)
  have i1_t_5 : tq_iv (-1) 998 t_5 := tq_w (tq_sub e_5 p_1 (⟨by decide, by decide⟩ : tq_iv 1 1 1) (by decide) (by decide)) (by decide) (by decide)
  refine lv_iload_n hx hb dX6_highest_6 rfl (lv_at hl 1 rfl) ?_
  refine lv_aload_n hx hb dX6_highest_7 rfl (lv_at hl 0 rfl) ?_
  refine gf_RX6_25 hC hS z_h0 dX6_highest_8 (fun t_8 p_8 q_8 => ?_)
  refine lv_iadd hx hb dX6_highest_11 ?_
  refine lv_topi (fun t_11 e_11 => ?_)
  refine va_mmin hx hb (hC.1.2.2.1.trans hl.1.symm) hown (hts _ ql_RX6_52) (hts _ qm_min_s) (hts _ qm_i) (hts _ qm_min_c) (Nat.le_trans (by decide) hC.2.2.1) (Nat.le_trans (Nat.le_of_ble_eq_true rfl) hC.2.2.2.1) (Nat.zero_le _) (Nat.zero_le _) dX6_highest_12 ?_
  refine lv_topi (fun t_12 e_12 => ?_)
  have i2_t_12 : tq_iv (-2147483648) 998 t_12 := tq_w (tq_min e_12 i1_t_5 (tq_top t_11)) (by decide) (by decide)
  exact hret t_12 _ _ rfl ⟨_, rfl, tq_w i2_t_12 (by decide) (by decide)⟩ dX6_highest_15
set_option maxHeartbeats 4000000 in
set_option maxRecDepth 100000 in
theorem c_X6_lowest (l : Launch) (X : tq_X) (Z : tq_Z) (f : Nat → va_E) (h0 : Nat) (z_h0 : tq_z Z h0 (.inl 6)) (x1 : Int32) : tq_Mp l X Z f yX6_lowest cX6_lowest 2 (some .int) 1 [.ref h0, .int x1] (tq_ri 0 2147483647) := by
  refine tq_startip (by decide) (Nat.le_of_ble_eq_true rfl) (fun p e R s m args below meth c Q hC hret hS ls hl => ?_)
  have hC : tq_C p R s m args c X (tq_A Z) RX6 cX6_lowest 2 1 := hC
  have hx := hC.1.1
  have hb := hC.1.2.1
  have hown := hC.1.2.2.2.1
  have hts := hC.1.2.2.2.2
  have hl : lv_has ls 2 [(0, .ref h0), (1, .int x1)] := hl
  refine lv_iconst (v := 0) hx hb dX6_lowest_0 (by decide) ?_
  refine lv_iload_n hx hb dX6_lowest_1 rfl (lv_at hl 1 rfl) ?_
  refine lv_aload_n hx hb dX6_lowest_2 rfl (lv_at hl 0 rfl) ?_
  refine gf_RX6_25 hC hS z_h0 dX6_lowest_3 (fun t_3 p_3 q_3 => ?_)
  refine lv_isub hx hb dX6_lowest_6 ?_
  refine lv_topi (fun t_6 e_6 => ?_)
  refine va_mmax hx hb (hC.1.2.2.1.trans hl.1.symm) hown (hts _ ql_RX6_47) (hts _ qm_max_s) (hts _ qm_i) (hts _ qm_max_c) (Nat.le_trans (by decide) hC.2.2.1) (Nat.le_trans (Nat.le_of_ble_eq_true rfl) hC.2.2.2.1) (Nat.zero_le _) (Nat.zero_le _) dX6_lowest_7 ?_
  refine lv_topi (fun t_7 e_7 => ?_)
  have i1_t_7 : tq_iv 0 2147483647 t_7 := tq_w (tq_max e_7 (⟨by decide, by decide⟩ : tq_iv 0 0 0) (tq_top t_6)) (by decide) (by decide)
  exact hret t_7 _ _ rfl ⟨_, rfl, tq_w i1_t_7 (by decide) (by decide)⟩ dX6_lowest_10
set_option maxHeartbeats 4000000 in
set_option maxRecDepth 100000 in
theorem c_X6_nth (l : Launch) (X : tq_X) (Z : tq_Z) (f : Nat → va_E) (h0 : Nat) (z_h0 : tq_z Z h0 (.inl 6)) (x1 : Int32) (x2 : Int32) : tq_M l X Z f [] yX6_nth cX6_nth 9 (some .int) 3 [.ref h0, .int x1, .int x2] (tq_ri (-2147483648) 2147483647) := by
  refine tq_starti (by decide) (Nat.le_of_ble_eq_true rfl) (fun p e R s m args below meth c Q hC hret hS ls hl => ?_)
  have hC : tq_C p R s m args c X (tq_A Z) RX6 cX6_nth 9 3 := hC
  have hx := hC.1.1
  have hb := hC.1.2.1
  have hown := hC.1.2.2.2.1
  have hts := hC.1.2.2.2.2
  have hl : lv_has ls 9 [(0, .ref h0), (1, .int x1), (2, .int x2)] := hl
  generalize hf0 : f = f0 at hret
  have hS : tq_S X Z (tq_A Z) s.heap f0 [] f s.heap [] := hf0 ▸ hS
  refine lv_iload_n hx hb dX6_nth_0 rfl (lv_at hl 2 rfl) ?_
  have K_17 : ∀ (f : Nat → va_E) (H : Heap) (locs : List Loc) (ls : Array Slot), tq_S X Z (tq_A Z) s.heap f0 [] f H locs → lv_has ls 9 [] → W p l e R s m args below meth c H locs 0 0 Q (F0 m 17 ls []) := by
    intro f H locs ls  hS hl
    refine lv_iconst (v := 0) hx hb dX6_nth_17 (by decide) ?_
    exact hret 0 _ _ _ _ _ rfl ⟨_, rfl, tq_w (⟨by decide, by decide⟩ : tq_iv 0 0 0) (by decide) (by decide)⟩ hS dX6_nth_18
  refine lv_if_lt (tgt := 17) hx hb dX6_nth_1 (by decide) (fun c_1 => ?_) (fun c_1 => ?_)
  · skip
    have i1_x2 : tq_iv (-2147483648) (-1) x2 := tq_cut (tq_top x2) (tq_ltL c_1 (tq_top x2) (⟨by decide, by decide⟩ : tq_iv 0 0 0)) (by decide) (by decide)
    exact K_17 _ _ _ _ hS (lv_sub hl [] rfl)
  · skip
    have i2_x2 : tq_iv 0 2147483647 x2 := tq_cut (tq_top x2) (tq_leR (tq_nlt c_1) (⟨by decide, by decide⟩ : tq_iv 0 0 0) (tq_top x2)) (by decide) (by decide)
    refine lv_iload_n hx hb dX6_nth_4 rfl (lv_at hl 2 rfl) ?_
    refine lv_aload_n hx hb dX6_nth_5 rfl (lv_at hl 0 rfl) ?_
    refine lv_iload_n hx hb dX6_nth_6 rfl (lv_at hl 1 rfl) ?_
    refine lv_aload_n hx hb dX6_nth_7 rfl (lv_at hl 0 rfl) ?_
    refine gf_RX6_25 hC hS z_h0 dX6_nth_8 (fun t_8 p_8 q_8 => ?_)
    refine tq_callVi (As := [.int x1, .int t_8]) (rest := [.int x2]) hC (c_X6_howMany l X Z _ h0 z_h0 x1 t_8) k_X6_howMany ql_RX6_82 (by decide) rfl (by decide) hS z_h0 rfl hl.1 rfl (Nat.le_of_ble_eq_true rfl) ⟨Nat.zero_le _, Nat.zero_le _⟩ dX6_nth_11 (fun t_11 f1_11 H locs p_11 hS k_11 => ?_)
    refine lv_icmp_lt (tgt := 19) hx hb dX6_nth_14 (by decide) (fun c_14 => ?_) (fun c_14 => ?_)
    · skip
      have i3_x2 : tq_iv 0 2147483646 x2 := tq_cut i2_x2 (tq_ltL c_14 i2_x2 (tq_top t_11)) (by decide) (by decide)
      have i4_t_11 : tq_iv 1 2147483647 t_11 := tq_cut (tq_top t_11) (tq_ltR c_14 i2_x2 (tq_top t_11)) (by decide) (by decide)
      refine lv_iload_n hx hb dX6_nth_19 rfl (lv_at hl 2 rfl) ?_
      refine lv_istore_n (lv' := [(3, .int x2), (0, .ref h0), (1, .int x1), (2, .int x2)]) hx hb dX6_nth_20 rfl hl (by decide) rfl (fun ls hl => ?_)
      refine lv_iconst (v := 0) hx hb dX6_nth_21 (by decide) ?_
      refine lv_istore (lv' := [(4, .int 0), (3, .int x2), (0, .ref h0), (1, .int x1), (2, .int x2)]) hx hb dX6_nth_22 hl (by decide) rfl (fun ls hl => ?_)
      refine lv_iconst (v := 0) hx hb dX6_nth_24 (by decide) ?_
      refine lv_istore (lv' := [(5, .int 0), (4, .int 0), (3, .int x2), (0, .ref h0), (1, .int x1), (2, .int x2)]) hx hb dX6_nth_25 hl (by decide) rfl (fun ls hl => ?_)
      refine lv_aload_n hx hb dX6_nth_27 rfl (lv_at hl 3 rfl) ?_
      refine gf_RX6_22 hC hS z_h0 dX6_nth_28 (fun t_28 p_28 q_28 => ?_)
      refine lv_iconst (v := 1) hx hb dX6_nth_31 (by decide) ?_
      refine lv_isub hx hb dX6_nth_32 ?_
      refine lv_topi (fun t_32 e_32 => ?_)
      have i5_t_32 : tq_iv (-1) 998 t_32 := tq_w (tq_sub e_32 p_28 (⟨by decide, by decide⟩ : tq_iv 1 1 1) (by decide) (by decide)) (by decide) (by decide)
      refine lv_istore (lv' := [(6, .int t_32), (5, .int 0), (4, .int 0), (3, .int x2), (0, .ref h0), (1, .int x1), (2, .int x2)]) hx hb dX6_nth_33 hl (by decide) rfl (fun ls hl => ?_)
      refine lv_iconst (v := 0) hx hb dX6_nth_35 (by decide) ?_
      refine lv_istore (lv' := [(7, .int 0), (6, .int t_32), (5, .int 0), (4, .int 0), (3, .int x2), (0, .ref h0), (1, .int x1), (2, .int x2)]) hx hb dX6_nth_36 hl (by decide) rfl (fun ls hl => ?_)
      have K_38 : ∀ (n_38 : Nat) (x7_38 : Int32) (x6_38 : Int32) (x5_38 : Int32) (x4_38 : Int32) (x3_38 : Int32) (f : Nat → va_E) (H : Heap) (locs : List Loc) (ls : Array Slot), tq_S X Z (tq_A Z) s.heap f0 [] f H locs → tq_iv 0 2147483647 x5_38 → tq_iv (-2147483648) 998 x6_38 → tq_iv 0 999 x7_38 → (2147483647 - x7_38.toInt).toNat < n_38 → lv_has ls 9 [(7, .int x7_38), (6, .int x6_38), (5, .int x5_38), (4, .int x4_38), (3, .int x3_38), (0, .ref h0)] → W p l e R s m args below meth c H locs 0 0 Q (F0 m 38 ls []) := by
        intro n_38
        induction n_38 with
        | zero => intro x7_38 x6_38 x5_38 x4_38 x3_38 f H locs ls  hS i6_x5_38 i7_x6_38 i8_x7_38 hn_38; exact absurd hn_38 (Nat.not_lt_zero _)
        | succ n_38 ih_38 =>
          intro x7_38 x6_38 x5_38 x4_38 x3_38 f H locs ls  hS i6_x5_38 i7_x6_38 i8_x7_38 hn_38 hl
          refine lv_iload hx hb dX6_nth_38 (lv_at hl 0 rfl) ?_
          refine lv_aload_n hx hb dX6_nth_40 rfl (lv_at hl 5 rfl) ?_
          refine gf_RX6_18 hC hS z_h0 dX6_nth_41 (fun t_41 p_41 q_41 => ?_)
          refine lv_icmp_ge (tgt := 121) hx hb dX6_nth_44 (by decide) (fun c_44 => ?_) (fun c_44 => ?_)
          · skip
            refine lv_iload hx hb dX6_nth_121 (lv_at hl 3 rfl) ?_
            exact hret x4_38 _ _ _ _ _ rfl ⟨_, rfl, tq_w (tq_top x4_38) (by decide) (by decide)⟩ hS dX6_nth_123
          · skip
            have i9_x7_38 : tq_iv 0 998 x7_38 := tq_cut i8_x7_38 (tq_ltL (tq_nle c_44) i8_x7_38 p_41) (by decide) (by decide)
            have i10_t_41 : tq_iv 1 999 t_41 := tq_cut p_41 (tq_ltR (tq_nle c_44) i8_x7_38 p_41) (by decide) (by decide)
            refine lv_iload hx hb dX6_nth_47 (lv_at hl 2 rfl) ?_
            refine lv_istore (lv' := [(8, .int x5_38), (7, .int x7_38), (6, .int x6_38), (5, .int x5_38), (4, .int x4_38), (3, .int x3_38), (0, .ref h0)]) hx hb dX6_nth_49 hl (by decide) rfl (fun ls hl => ?_)
            have K_51 : ∀ (n_51 : Nat) (x8_51 : Int32) (x3_51 : Int32) (f : Nat → va_E) (H : Heap) (locs : List Loc) (ls : Array Slot), tq_S X Z (tq_A Z) s.heap f0 [] f H locs → tq_iv 0 2147483647 x8_51 → (2147483647 - x8_51.toInt).toNat < n_51 → lv_has ls 9 [(8, .int x8_51), (7, .int x7_38), (6, .int x6_38), (4, .int x4_38), (3, .int x3_51), (0, .ref h0)] → W p l e R s m args below meth c H locs 0 0 Q (F0 m 51 ls []) := by
              intro n_51
              induction n_51 with
              | zero => intro x8_51 x3_51 f H locs ls  hS i11_x8_51 hn_51; exact absurd hn_51 (Nat.not_lt_zero _)
              | succ n_51 ih_51 =>
                intro x8_51 x3_51 f H locs ls  hS i11_x8_51 hn_51 hl
                refine lv_iload hx hb dX6_nth_51 (lv_at hl 0 rfl) ?_
                refine lv_iload hx hb dX6_nth_53 (lv_at hl 2 rfl) ?_
                have K_87 : ∀ (f : Nat → va_E) (H : Heap) (locs : List Loc) (ls : Array Slot), tq_S X Z (tq_A Z) s.heap f0 [] f H locs → lv_has ls 9 [(8, .int x8_51), (7, .int x7_38), (4, .int x4_38), (3, .int x3_51), (0, .ref h0)] → W p l e R s m args below meth c H locs 0 0 Q (F0 m 87 ls []) := by
                  intro f H locs ls  hS hl
                  refine lv_iload hx hb dX6_nth_87 (lv_at hl 2 rfl) ?_
                  refine lv_iload hx hb dX6_nth_89 (lv_at hl 1 rfl) ?_
                  refine lv_iload hx hb dX6_nth_91 (lv_at hl 0 rfl) ?_
                  refine tq_callSpi (As := [.int x7_38, .int x8_51]) (rest := [.int x4_38]) hC (c_X6_notch l X Z _ x7_38 x8_51) k_X6_notch ql_RX6_44 rfl (by decide) hS hl.1 rfl (Nat.le_of_ble_eq_true rfl) ⟨Nat.zero_le _, Nat.zero_le _⟩ dX6_nth_93 (fun t_93 p_93 => ?_)
                  refine lv_ior hx hb dX6_nth_96 ?_
                  refine lv_topi (fun t_96 e_96 => ?_)
                  refine lv_istore (lv' := [(4, .int t_96), (8, .int x8_51), (7, .int x7_38), (3, .int x3_51), (0, .ref h0)]) hx hb dX6_nth_97 hl (by decide) rfl (fun ls hl => ?_)
                  refine lv_aload_n hx hb dX6_nth_99 rfl (lv_at hl 4 rfl) ?_
                  refine lv_iload hx hb dX6_nth_100 (lv_at hl 1 rfl) ?_
                  refine tq_callVpi (As := [.int x8_51]) (rest := []) hC (c_X6_lowest l X Z _ h0 z_h0 x8_51) k_X6_lowest ql_RX6_66 rfl (by decide) hS z_h0 rfl hl.1 rfl (Nat.le_of_ble_eq_true rfl) ⟨Nat.zero_le _, Nat.zero_le _⟩ dX6_nth_102 (fun t_102 p_102 => ?_)
                  refine lv_istore (lv' := [(5, .int t_102), (4, .int t_96), (8, .int x8_51), (7, .int x7_38), (3, .int x3_51), (0, .ref h0)]) hx hb dX6_nth_105 hl (by decide) rfl (fun ls hl => ?_)
                  refine lv_aload_n hx hb dX6_nth_107 rfl (lv_at hl 5 rfl) ?_
                  refine lv_iload hx hb dX6_nth_108 (lv_at hl 2 rfl) ?_
                  refine tq_callVpi (As := [.int x8_51]) (rest := []) hC (c_X6_highest l X Z _ h0 z_h0 x8_51) k_X6_highest ql_RX6_69 rfl (by decide) hS z_h0 rfl hl.1 rfl (Nat.le_of_ble_eq_true rfl) ⟨Nat.zero_le _, Nat.zero_le _⟩ dX6_nth_110 (fun t_110 p_110 => ?_)
                  refine lv_istore (lv' := [(6, .int t_110), (5, .int t_102), (4, .int t_96), (8, .int x8_51), (7, .int x7_38), (3, .int x3_51), (0, .ref h0)]) hx hb dX6_nth_113 hl (by decide) rfl (fun ls hl => ?_)
                  obtain ⟨t_115, e_115⟩ : ∃ y : Int32, y = x7_38 + 1 := ⟨_, rfl⟩
                  have i12_t_115 : tq_iv 1 999 t_115 := tq_w (tq_add e_115 i9_x7_38 (⟨by decide, by decide⟩ : tq_iv 1 1 1) (by decide) (by decide)) (by decide) (by decide)
                  refine lv_iinc (v := t_115) (lv' := [(7, .int t_115), (6, .int t_110), (5, .int t_102), (4, .int t_96), (8, .int x8_51), (3, .int x3_51), (0, .ref h0)]) hx hb dX6_nth_115 hl (k := 4) rfl (by rw [e_115]; rfl) (by decide) rfl (fun ls hl => ?_)
                  refine lv_goto (tgt := 38) hx hb dX6_nth_118 (by decide) ?_
                  exact ih_38 t_115 t_110 t_102 t_96 x3_51 _ _ _ _ hS (tq_w p_102 (by decide) (by decide)) (tq_w p_110 (by decide) (by decide)) (tq_w i12_t_115 (by decide) (by decide)) (tq_up e_115 i9_x7_38 (⟨by decide, by decide⟩ : tq_iv 1 1 1) (by decide) (by decide) hn_38) (lv_sub hl [0, 1, 2, 3, 5, 6] rfl)
                refine lv_icmp_ge (tgt := 87) hx hb dX6_nth_55 (by decide) (fun c_55 => ?_) (fun c_55 => ?_)
                · skip
                  exact K_87 _ _ _ _ hS (lv_sub hl [0, 1, 3, 4, 5] rfl)
                · skip
                  have i13_x8_51 : tq_iv 0 997 x8_51 := tq_cut i11_x8_51 (tq_ltL (tq_nle c_55) i11_x8_51 i7_x6_38) (by decide) (by decide)
                  have i14_x6_38 : tq_iv 1 998 x6_38 := tq_cut i7_x6_38 (tq_ltR (tq_nle c_55) i11_x8_51 i7_x6_38) (by decide) (by decide)
                  refine lv_iload_n hx hb dX6_nth_58 rfl (lv_at hl 4 rfl) ?_
                  refine lv_aload_n hx hb dX6_nth_59 rfl (lv_at hl 5 rfl) ?_
                  refine lv_iload hx hb dX6_nth_60 (lv_at hl 1 rfl) ?_
                  refine lv_iload hx hb dX6_nth_62 (lv_at hl 0 rfl) ?_
                  refine tq_callVpi (As := [.int x7_38, .int x8_51]) (rest := [.int x3_51]) hC (c_X6_onwardAt l X Z _ h0 z_h0 x7_38 x8_51) k_X6_onwardAt ql_RX6_79 rfl (by decide) hS z_h0 rfl hl.1 rfl (Nat.le_of_ble_eq_true rfl) ⟨Nat.zero_le _, Nat.zero_le _⟩ dX6_nth_64 (fun t_64 p_64 => ?_)
                  refine lv_icmp_lt (tgt := 87) hx hb dX6_nth_67 (by decide) (fun c_67 => ?_) (fun c_67 => ?_)
                  · skip
                    have i15_x3_51 : tq_iv (-2147483648) 2147483646 x3_51 := tq_cut (tq_top x3_51) (tq_ltL c_67 (tq_top x3_51) (tq_top t_64)) (by decide) (by decide)
                    have i16_t_64 : tq_iv (-2147483647) 2147483647 t_64 := tq_cut (tq_top t_64) (tq_ltR c_67 (tq_top x3_51) (tq_top t_64)) (by decide) (by decide)
                    exact K_87 _ _ _ _ hS (lv_sub hl [0, 1, 3, 4, 5] rfl)
                  · skip
                    refine lv_iload_n hx hb dX6_nth_70 rfl (lv_at hl 4 rfl) ?_
                    refine lv_aload_n hx hb dX6_nth_71 rfl (lv_at hl 5 rfl) ?_
                    refine lv_iload hx hb dX6_nth_72 (lv_at hl 1 rfl) ?_
                    refine lv_iload hx hb dX6_nth_74 (lv_at hl 0 rfl) ?_
                    refine tq_callVpi (As := [.int x7_38, .int x8_51]) (rest := [.int x3_51]) hC (c_X6_onwardAt l X Z _ h0 z_h0 x7_38 x8_51) k_X6_onwardAt ql_RX6_79 rfl (by decide) hS z_h0 rfl hl.1 rfl (Nat.le_of_ble_eq_true rfl) ⟨Nat.zero_le _, Nat.zero_le _⟩ dX6_nth_76 (fun t_76 p_76 => ?_)
                    refine lv_isub hx hb dX6_nth_79 ?_
                    refine lv_topi (fun t_79 e_79 => ?_)
                    refine lv_istore_n (lv' := [(3, .int t_79), (8, .int x8_51), (7, .int x7_38), (6, .int x6_38), (4, .int x4_38), (0, .ref h0)]) hx hb dX6_nth_80 rfl hl (by decide) rfl (fun ls hl => ?_)
                    obtain ⟨t_81, e_81⟩ : ∃ y : Int32, y = x8_51 + 1 := ⟨_, rfl⟩
                    have i17_t_81 : tq_iv 1 998 t_81 := tq_w (tq_add e_81 i13_x8_51 (⟨by decide, by decide⟩ : tq_iv 1 1 1) (by decide) (by decide)) (by decide) (by decide)
                    refine lv_iinc (v := t_81) (lv' := [(8, .int t_81), (3, .int t_79), (7, .int x7_38), (6, .int x6_38), (4, .int x4_38), (0, .ref h0)]) hx hb dX6_nth_81 hl (k := 1) rfl (by rw [e_81]; rfl) (by decide) rfl (fun ls hl => ?_)
                    refine lv_goto (tgt := 51) hx hb dX6_nth_84 (by decide) ?_
                    exact ih_51 t_81 t_79 _ _ _ _ hS (tq_w i17_t_81 (by decide) (by decide)) (tq_up e_81 i13_x8_51 (⟨by decide, by decide⟩ : tq_iv 1 1 1) (by decide) (by decide) hn_51) (lv_sub hl [0, 2, 3, 4, 1, 5] rfl)
            exact K_51 _ x5_38 x3_38 _ _ _ _ hS (tq_w i6_x5_38 (by decide) (by decide)) (Nat.lt_succ_self _) (lv_sub hl [0, 1, 2, 4, 5, 6] rfl)
      exact K_38 _ 0 t_32 0 0 x2 _ _ _ _ hS (tq_w (⟨by decide, by decide⟩ : tq_iv 0 0 0) (by decide) (by decide)) (tq_w i5_t_32 (by decide) (by decide)) (tq_w (⟨by decide, by decide⟩ : tq_iv 0 0 0) (by decide) (by decide)) (Nat.lt_succ_self _) (lv_sub hl [0, 1, 2, 3, 4, 5] rfl)
    · skip
      exact K_17 _ _ _ _ hS (lv_sub hl [] rfl)
set_option maxHeartbeats 4000000 in
set_option maxRecDepth 100000 in
theorem c_X11_bitting (l : Launch) (X : tq_X) (Z : tq_Z) (f : Nat → va_E) (h0 : Nat) (z_h0 : tq_z Z h0 (.inl 11)) (x1 : Int32) : tq_M l X Z f [] yX11_bitting cX11_bitting 2 (some .int) 4 [.ref h0, .int x1] (tq_ri (-2147483648) 2147483647) := by
  refine tq_starti (by decide) (Nat.le_of_ble_eq_true rfl) (fun p e R s m args below meth c Q hC hret hS ls hl => ?_)
  have hC : tq_C p R s m args c X (tq_A Z) RX11 cX11_bitting 2 4 := hC
  have hx := hC.1.1
  have hb := hC.1.2.1
  have hown := hC.1.2.2.2.1
  have hts := hC.1.2.2.2.2
  have hl : lv_has ls 2 [(0, .ref h0), (1, .int x1)] := hl
  generalize hf0 : f = f0 at hret
  have hS : tq_S X Z (tq_A Z) s.heap f0 [] f s.heap [] := hf0 ▸ hS
  refine lv_aload_n hx hb dX11_bitting_0 rfl (lv_at hl 0 rfl) ?_
  refine gf_RX11_37 hC hS z_h0 dX11_bitting_1 (fun t_1 p_1 q_1 => ?_)
  refine lv_aload_n hx hb dX11_bitting_4 rfl (lv_at hl 0 rfl) ?_
  refine gf_RX11_37 hC hS z_h0 dX11_bitting_5 (fun t_5 p_5 q_5 => ?_)
  refine lv_aload_n hx hb dX11_bitting_8 rfl (lv_at hl 0 rfl) ?_
  refine gf_RX11_37 hC hS z_h0 dX11_bitting_9 (fun t_9 p_9 q_9 => ?_)
  refine tq_callVpi (As := []) (rest := [.ref t_5, .ref t_1]) hC (c_X6_everything l X Z _ t_9 p_9) k_X6_everything ql_RX11_301 rfl (by decide) hS p_9 rfl hl.1 rfl (Nat.le_of_ble_eq_true rfl) ⟨Nat.zero_le _, Nat.zero_le _⟩ dX11_bitting_12 (fun t_12 p_12 => ?_)
  refine lv_iload_n hx hb dX11_bitting_15 rfl (lv_at hl 1 rfl) ?_
  refine tq_callVi (As := [.int t_12, .int x1]) (rest := [.ref t_1]) hC (c_X6_nth l X Z _ t_5 p_5 t_12 x1) k_X6_nth ql_RX11_310 (by decide) rfl (by decide) hS p_5 rfl hl.1 rfl (Nat.le_of_ble_eq_true rfl) ⟨Nat.zero_le _, Nat.zero_le _⟩ dX11_bitting_16 (fun t_16 f1_16 H locs p_16 hS k_16 => ?_)
  refine tq_callVpi (As := [.int t_16]) (rest := []) hC (c_X6_numberOf l X Z _ t_1 p_1 t_16) k_X6_numberOf ql_RX11_144 rfl (by decide) hS p_1 rfl hl.1 rfl (Nat.le_of_ble_eq_true rfl) ⟨Nat.zero_le _, Nat.zero_le _⟩ dX11_bitting_19 (fun t_19 p_19 => ?_)
  exact hret t_19 _ _ _ _ _ rfl ⟨_, rfl, tq_w (tq_top t_19) (by decide) (by decide)⟩ hS dX11_bitting_22
set_option maxHeartbeats 4000000 in
set_option maxRecDepth 100000 in
theorem c_X6_placeOf (l : Launch) (X : tq_X) (Z : tq_Z) (f : Nat → va_E) (h0 : Nat) (z_h0 : tq_z Z h0 (.inl 6)) (x1 : Int32) : tq_M l X Z f [] yX6_placeOf cX6_placeOf 7 (some .int) 3 [.ref h0, .int x1] (tq_ri (-2147483648) 2147483647) := by
  refine tq_starti (by decide) (Nat.le_of_ble_eq_true rfl) (fun p e R s m args below meth c Q hC hret hS ls hl => ?_)
  have hC : tq_C p R s m args c X (tq_A Z) RX6 cX6_placeOf 7 3 := hC
  have hx := hC.1.1
  have hb := hC.1.2.1
  have hown := hC.1.2.2.2.1
  have hts := hC.1.2.2.2.2
  have hl : lv_has ls 7 [(0, .ref h0), (1, .int x1)] := hl
  generalize hf0 : f = f0 at hret
  have hS : tq_S X Z (tq_A Z) s.heap f0 [] f s.heap [] := hf0 ▸ hS
  refine lv_aload_n hx hb dX6_placeOf_0 rfl (lv_at hl 0 rfl) ?_
  refine lv_aload_n hx hb dX6_placeOf_1 rfl (lv_at hl 0 rfl) ?_
  refine tq_callVpi (As := []) (rest := [.ref h0]) hC (c_X6_everything l X Z _ h0 z_h0) k_X6_everything ql_RX6_85 rfl (by decide) hS z_h0 rfl hl.1 rfl (Nat.le_of_ble_eq_true rfl) ⟨Nat.zero_le _, Nat.zero_le _⟩ dX6_placeOf_2 (fun t_2 p_2 => ?_)
  refine lv_aload_n hx hb dX6_placeOf_5 rfl (lv_at hl 0 rfl) ?_
  refine gf_RX6_25 hC hS z_h0 dX6_placeOf_6 (fun t_6 p_6 q_6 => ?_)
  refine tq_callVi (As := [.int t_2, .int t_6]) (rest := []) hC (c_X6_howMany l X Z _ h0 z_h0 t_2 t_6) k_X6_howMany ql_RX6_82 (by decide) rfl (by decide) hS z_h0 rfl hl.1 rfl (Nat.le_of_ble_eq_true rfl) ⟨Nat.zero_le _, Nat.zero_le _⟩ dX6_placeOf_9 (fun t_9 f1_9 H locs p_9 hS k_9 => ?_)
  refine lv_pop hx hb dX6_placeOf_12 rfl ?_
  refine lv_iconst (v := 0) hx hb dX6_placeOf_13 (by decide) ?_
  refine lv_istore_n (lv' := [(2, .int 0), (0, .ref h0), (1, .int x1)]) hx hb dX6_placeOf_14 rfl hl (by decide) rfl (fun ls hl => ?_)
  refine lv_iconst (v := 0) hx hb dX6_placeOf_15 (by decide) ?_
  refine lv_istore_n (lv' := [(3, .int 0), (2, .int 0), (0, .ref h0), (1, .int x1)]) hx hb dX6_placeOf_16 rfl hl (by decide) rfl (fun ls hl => ?_)
  refine lv_iconst (v := 0) hx hb dX6_placeOf_17 (by decide) ?_
  refine lv_istore (lv' := [(4, .int 0), (3, .int 0), (2, .int 0), (0, .ref h0), (1, .int x1)]) hx hb dX6_placeOf_18 hl (by decide) rfl (fun ls hl => ?_)
  have K_20 : ∀ (n_20 : Nat) (x4_20 : Int32) (x3_20 : Int32) (x2_20 : Int32) (f : Nat → va_E) (H : Heap) (locs : List Loc) (ls : Array Slot), tq_S X Z (tq_A Z) s.heap f0 [] f H locs → tq_iv 0 2147483647 x3_20 → tq_iv 0 999 x4_20 → (2147483647 - x4_20.toInt).toNat < n_20 → lv_has ls 7 [(4, .int x4_20), (3, .int x3_20), (2, .int x2_20), (0, .ref h0), (1, .int x1)] → W p l e R s m args below meth c H locs 0 0 Q (F0 m 20 ls []) := by
    intro n_20
    induction n_20 with
    | zero => intro x4_20 x3_20 x2_20 f H locs ls  hS i1_x3_20 i2_x4_20 hn_20; exact absurd hn_20 (Nat.not_lt_zero _)
    | succ n_20 ih_20 =>
      intro x4_20 x3_20 x2_20 f H locs ls  hS i1_x3_20 i2_x4_20 hn_20 hl
      refine lv_iload hx hb dX6_placeOf_20 (lv_at hl 0 rfl) ?_
      refine lv_aload_n hx hb dX6_placeOf_22 rfl (lv_at hl 3 rfl) ?_
      refine gf_RX6_18 hC hS z_h0 dX6_placeOf_23 (fun t_23 p_23 q_23 => ?_)
      refine lv_icmp_ge (tgt := 78) hx hb dX6_placeOf_26 (by decide) (fun c_26 => ?_) (fun c_26 => ?_)
      · skip
        refine lv_iload_n hx hb dX6_placeOf_78 rfl (lv_at hl 2 rfl) ?_
        exact hret x2_20 _ _ _ _ _ rfl ⟨_, rfl, tq_w (tq_top x2_20) (by decide) (by decide)⟩ hS dX6_placeOf_79
      · skip
        have i3_x4_20 : tq_iv 0 998 x4_20 := tq_cut i2_x4_20 (tq_ltL (tq_nle c_26) i2_x4_20 p_23) (by decide) (by decide)
        have i4_t_23 : tq_iv 1 999 t_23 := tq_cut p_23 (tq_ltR (tq_nle c_26) i2_x4_20 p_23) (by decide) (by decide)
        refine lv_aload_n hx hb dX6_placeOf_29 rfl (lv_at hl 3 rfl) ?_
        refine lv_iload_n hx hb dX6_placeOf_30 rfl (lv_at hl 4 rfl) ?_
        refine lv_iload hx hb dX6_placeOf_31 (lv_at hl 0 rfl) ?_
        refine tq_callVpi (As := [.int x1, .int x4_20]) (rest := []) hC (c_X6_depthAt l X Z _ h0 z_h0 x1 x4_20) k_X6_depthAt ql_RX6_41 rfl (by decide) hS z_h0 rfl hl.1 rfl (Nat.le_of_ble_eq_true rfl) ⟨Nat.zero_le _, Nat.zero_le _⟩ dX6_placeOf_33 (fun t_33 p_33 => ?_)
        refine lv_istore (lv' := [(5, .int t_33), (4, .int x4_20), (3, .int x3_20), (2, .int x2_20), (0, .ref h0), (1, .int x1)]) hx hb dX6_placeOf_36 hl (by decide) rfl (fun ls hl => ?_)
        refine lv_iload_n hx hb dX6_placeOf_38 rfl (lv_at hl 2 rfl) ?_
        refine lv_istore (lv' := [(6, .int x3_20), (5, .int t_33), (4, .int x4_20), (3, .int x3_20), (2, .int x2_20), (0, .ref h0), (1, .int x1)]) hx hb dX6_placeOf_39 hl (by decide) rfl (fun ls hl => ?_)
        have K_41 : ∀ (n_41 : Nat) (x6_41 : Int32) (x2_41 : Int32) (f : Nat → va_E) (H : Heap) (locs : List Loc) (ls : Array Slot), tq_S X Z (tq_A Z) s.heap f0 [] f H locs → tq_iv 0 2147483647 x6_41 → (2147483647 - x6_41.toInt).toNat < n_41 → lv_has ls 7 [(6, .int x6_41), (5, .int t_33), (4, .int x4_20), (2, .int x2_41), (0, .ref h0), (1, .int x1)] → W p l e R s m args below meth c H locs 0 0 Q (F0 m 41 ls []) := by
          intro n_41
          induction n_41 with
          | zero => intro x6_41 x2_41 f H locs ls  hS i5_x6_41 hn_41; exact absurd hn_41 (Nat.not_lt_zero _)
          | succ n_41 ih_41 =>
            intro x6_41 x2_41 f H locs ls  hS i5_x6_41 hn_41 hl
            refine lv_iload hx hb dX6_placeOf_41 (lv_at hl 0 rfl) ?_
            refine lv_iload hx hb dX6_placeOf_43 (lv_at hl 1 rfl) ?_
            refine lv_icmp_ge (tgt := 65) hx hb dX6_placeOf_45 (by decide) (fun c_45 => ?_) (fun c_45 => ?_)
            · skip
              refine lv_aload_n hx hb dX6_placeOf_65 rfl (lv_at hl 4 rfl) ?_
              refine lv_iload hx hb dX6_placeOf_66 (lv_at hl 1 rfl) ?_
              refine tq_callVpi (As := [.int t_33]) (rest := []) hC (c_X6_lowest l X Z _ h0 z_h0 t_33) k_X6_lowest ql_RX6_66 rfl (by decide) hS z_h0 rfl hl.1 rfl (Nat.le_of_ble_eq_true rfl) ⟨Nat.zero_le _, Nat.zero_le _⟩ dX6_placeOf_68 (fun t_68 p_68 => ?_)
              refine lv_istore_n (lv' := [(3, .int t_68), (6, .int x6_41), (5, .int t_33), (4, .int x4_20), (2, .int x2_41), (0, .ref h0), (1, .int x1)]) hx hb dX6_placeOf_71 rfl hl (by decide) rfl (fun ls hl => ?_)
              obtain ⟨t_72, e_72⟩ : ∃ y : Int32, y = x4_20 + 1 := ⟨_, rfl⟩
              have i6_t_72 : tq_iv 1 999 t_72 := tq_w (tq_add e_72 i3_x4_20 (⟨by decide, by decide⟩ : tq_iv 1 1 1) (by decide) (by decide)) (by decide) (by decide)
              refine lv_iinc (v := t_72) (lv' := [(4, .int t_72), (3, .int t_68), (6, .int x6_41), (5, .int t_33), (2, .int x2_41), (0, .ref h0), (1, .int x1)]) hx hb dX6_placeOf_72 hl (k := 3) rfl (by rw [e_72]; rfl) (by decide) rfl (fun ls hl => ?_)
              refine lv_goto (tgt := 20) hx hb dX6_placeOf_75 (by decide) ?_
              exact ih_20 t_72 t_68 x2_41 _ _ _ _ hS (tq_w p_68 (by decide) (by decide)) (tq_w i6_t_72 (by decide) (by decide)) (tq_up e_72 i3_x4_20 (⟨by decide, by decide⟩ : tq_iv 1 1 1) (by decide) (by decide) hn_20) (lv_sub hl [0, 1, 4, 5, 6] rfl)
            · skip
              have i7_x6_41 : tq_iv 0 2147483646 x6_41 := tq_cut i5_x6_41 (tq_ltL (tq_nle c_45) i5_x6_41 (tq_top t_33)) (by decide) (by decide)
              have i8_t_33 : tq_iv 1 2147483647 t_33 := tq_cut (tq_top t_33) (tq_ltR (tq_nle c_45) i5_x6_41 (tq_top t_33)) (by decide) (by decide)
              refine lv_iload_n hx hb dX6_placeOf_48 rfl (lv_at hl 3 rfl) ?_
              refine lv_aload_n hx hb dX6_placeOf_49 rfl (lv_at hl 4 rfl) ?_
              refine lv_iload hx hb dX6_placeOf_50 (lv_at hl 2 rfl) ?_
              refine lv_iload hx hb dX6_placeOf_52 (lv_at hl 0 rfl) ?_
              refine tq_callVpi (As := [.int x4_20, .int x6_41]) (rest := [.int x2_41]) hC (c_X6_onwardAt l X Z _ h0 z_h0 x4_20 x6_41) k_X6_onwardAt ql_RX6_79 rfl (by decide) hS z_h0 rfl hl.1 rfl (Nat.le_of_ble_eq_true rfl) ⟨Nat.zero_le _, Nat.zero_le _⟩ dX6_placeOf_54 (fun t_54 p_54 => ?_)
              refine lv_iadd hx hb dX6_placeOf_57 ?_
              refine lv_topi (fun t_57 e_57 => ?_)
              refine lv_istore_n (lv' := [(2, .int t_57), (6, .int x6_41), (5, .int t_33), (4, .int x4_20), (0, .ref h0), (1, .int x1)]) hx hb dX6_placeOf_58 rfl hl (by decide) rfl (fun ls hl => ?_)
              obtain ⟨t_59, e_59⟩ : ∃ y : Int32, y = x6_41 + 1 := ⟨_, rfl⟩
              have i9_t_59 : tq_iv 1 2147483647 t_59 := tq_w (tq_add e_59 i7_x6_41 (⟨by decide, by decide⟩ : tq_iv 1 1 1) (by decide) (by decide)) (by decide) (by decide)
              refine lv_iinc (v := t_59) (lv' := [(6, .int t_59), (2, .int t_57), (5, .int t_33), (4, .int x4_20), (0, .ref h0), (1, .int x1)]) hx hb dX6_placeOf_59 hl (k := 1) rfl (by rw [e_59]; rfl) (by decide) rfl (fun ls hl => ?_)
              refine lv_goto (tgt := 41) hx hb dX6_placeOf_62 (by decide) ?_
              exact ih_41 t_59 t_57 _ _ _ _ hS (tq_w i9_t_59 (by decide) (by decide)) (tq_up e_59 i7_x6_41 (⟨by decide, by decide⟩ : tq_iv 1 1 1) (by decide) (by decide) hn_41) (lv_sub hl [0, 2, 3, 1, 4, 5] rfl)
        exact K_41 _ x3_20 x2_20 _ _ _ _ hS (tq_w i1_x3_20 (by decide) (by decide)) (Nat.lt_succ_self _) (lv_sub hl [0, 1, 2, 4, 5, 6] rfl)
  exact K_20 _ 0 0 0 _ _ _ _ hS (tq_w (⟨by decide, by decide⟩ : tq_iv 0 0 0) (by decide) (by decide)) (tq_w (⟨by decide, by decide⟩ : tq_iv 0 0 0) (by decide) (by decide)) (Nat.lt_succ_self _) (lv_sub hl [0, 1, 2, 3, 4] rfl)
set_option maxHeartbeats 4000000 in
set_option maxRecDepth 100000 in
theorem c_X11_rank (l : Launch) (X : tq_X) (Z : tq_Z) (f : Nat → va_E) (h0 : Nat) (z_h0 : tq_z Z h0 (.inl 11)) (x1 : Int32) : tq_M l X Z f [] yX11_rank cX11_rank 3 (some .int) 4 [.ref h0, .int x1] (tq_ri (-2147483648) 2147483647) := by
  refine tq_starti (by decide) (Nat.le_of_ble_eq_true rfl) (fun p e R s m args below meth c Q hC hret hS ls hl => ?_)
  have hC : tq_C p R s m args c X (tq_A Z) RX11 cX11_rank 3 4 := hC
  have hx := hC.1.1
  have hb := hC.1.2.1
  have hown := hC.1.2.2.2.1
  have hts := hC.1.2.2.2.2
  have hl : lv_has ls 3 [(0, .ref h0), (1, .int x1)] := hl
  generalize hf0 : f = f0 at hret
  have hS : tq_S X Z (tq_A Z) s.heap f0 [] f s.heap [] := hf0 ▸ hS
  refine lv_aload_n hx hb dX11_rank_0 rfl (lv_at hl 0 rfl) ?_
  refine gf_RX11_37 hC hS z_h0 dX11_rank_1 (fun t_1 p_1 q_1 => ?_)
  refine lv_iload_n hx hb dX11_rank_4 rfl (lv_at hl 1 rfl) ?_
  refine tq_callVpi (As := [.int x1]) (rest := []) hC (c_X6_bitsOf l X Z _ t_1 p_1 x1) k_X6_bitsOf ql_RX11_212 rfl (by decide) hS p_1 rfl hl.1 rfl (Nat.le_of_ble_eq_true rfl) ⟨Nat.zero_le _, Nat.zero_le _⟩ dX11_rank_5 (fun t_5 p_5 => ?_)
  refine lv_istore_n (lv' := [(2, .int t_5), (0, .ref h0), (1, .int x1)]) hx hb dX11_rank_8 rfl hl (by decide) rfl (fun ls hl => ?_)
  refine lv_iload_n hx hb dX11_rank_9 rfl (lv_at hl 0 rfl) ?_
  have K_25 : ∀ (y0_25 : Int32) (f : Nat → va_E) (H : Heap) (locs : List Loc) (ls : Array Slot), tq_S X Z (tq_A Z) s.heap f0 [] f H locs → lv_has ls 3 [] → W p l e R s m args below meth c H locs 0 0 Q (F0 m 25 ls [.int y0_25]) := by
    intro y0_25 f H locs ls  hS hl
    exact hret y0_25 _ _ _ _ _ rfl ⟨_, rfl, tq_w (tq_top y0_25) (by decide) (by decide)⟩ hS dX11_rank_25
  refine lv_if_ne (tgt := 17) hx hb dX11_rank_10 (by decide) (fun c_10 => ?_) (fun c_10 => ?_)
  · skip
    refine lv_aload_n hx hb dX11_rank_17 rfl (lv_at hl 1 rfl) ?_
    refine gf_RX11_37 hC hS z_h0 dX11_rank_18 (fun t_18 p_18 q_18 => ?_)
    refine lv_iload_n hx hb dX11_rank_21 rfl (lv_at hl 0 rfl) ?_
    refine tq_callVi (As := [.int t_5]) (rest := []) hC (c_X6_placeOf l X Z _ t_18 p_18 t_5) k_X6_placeOf ql_RX11_313 (by decide) rfl (by decide) hS p_18 rfl hl.1 rfl (Nat.le_of_ble_eq_true rfl) ⟨Nat.zero_le _, Nat.zero_le _⟩ dX11_rank_22 (fun t_22 f1_22 H locs p_22 hS k_22 => ?_)
    exact K_25 t_22 _ _ _ _ hS (lv_sub hl [] rfl)
  · skip
    have i1_t_5 : tq_iv 0 0 t_5 := tq_cut (tq_top t_5) (tq_eqL c_10 (⟨by decide, by decide⟩ : tq_iv 0 0 0)) (by decide) (by decide)
    refine lv_iconst (v := -1) hx hb dX11_rank_13 (by decide) ?_
    refine lv_goto (tgt := 25) hx hb dX11_rank_14 (by decide) ?_
    exact K_25 (-1) _ _ _ _ hS (lv_sub hl [] rfl)
set_option maxHeartbeats 4000000 in
set_option maxRecDepth 100000 in
theorem c_X7_firstWith (l : Launch) (X : tq_X) (Z : tq_Z) (f : Nat → va_E) (h0 : Nat) (z_h0 : tq_z Z h0 (.inl 7)) (x1 : Int32) (x2 : Int32) : tq_Mp l X Z f yX7_firstWith cX7_firstWith 4 (some .int) 2 [.ref h0, .int x1, .int x2] (tq_ri (-1) 7) := by
  refine tq_startip (by decide) (Nat.le_of_ble_eq_true rfl) (fun p e R s m args below meth c Q hC hret hS ls hl => ?_)
  have hC : tq_C p R s m args c X (tq_A Z) RX7 cX7_firstWith 4 2 := hC
  have hx := hC.1.1
  have hb := hC.1.2.1
  have hown := hC.1.2.2.2.1
  have hts := hC.1.2.2.2.2
  have hl : lv_has ls 4 [(0, .ref h0), (1, .int x1), (2, .int x2)] := hl
  refine lv_iconst (v := 0) hx hb dX7_firstWith_0 (by decide) ?_
  refine lv_istore_n (lv' := [(3, .int 0), (0, .ref h0), (1, .int x1), (2, .int x2)]) hx hb dX7_firstWith_1 rfl hl (by decide) rfl (fun ls hl => ?_)
  have K_2 : ∀ (n_2 : Nat) (x3_2 : Int32) (ls : Array Slot), tq_iv 0 8 x3_2 → (2147483647 - x3_2.toInt).toNat < n_2 → lv_has ls 4 [(3, .int x3_2), (0, .ref h0), (1, .int x1), (2, .int x2)] → W p l e R s m args below meth c s.heap [] 0 0 Q (F0 m 2 ls []) := by
    intro n_2
    induction n_2 with
    | zero => intro x3_2 ls  i1_x3_2 hn_2; exact absurd hn_2 (Nat.not_lt_zero _)
    | succ n_2 ih_2 =>
      intro x3_2 ls  i1_x3_2 hn_2 hl
      refine lv_iload_n hx hb dX7_firstWith_2 rfl (lv_at hl 0 rfl) ?_
      refine lv_iload_n hx hb dX7_firstWith_3 rfl (lv_at hl 3 rfl) ?_
      have K_30 : ∀ (ls : Array Slot), lv_has ls 4 [] → W p l e R s m args below meth c s.heap [] 0 0 Q (F0 m 30 ls []) := by
        intro  ls  hl
        refine lv_iconst (v := -1) hx hb dX7_firstWith_30 (by decide) ?_
        exact hret (-1) _ _ rfl ⟨_, rfl, tq_w (⟨by decide, by decide⟩ : tq_iv (-1) (-1) (-1)) (by decide) (by decide)⟩ dX7_firstWith_31
      refine lv_icmp_ge (tgt := 30) hx hb dX7_firstWith_4 (by decide) (fun c_4 => ?_) (fun c_4 => ?_)
      · skip
        have i2_x2 : tq_iv (-2147483648) 8 x2 := tq_cut (tq_top x2) (tq_leL c_4 (tq_top x2) i1_x3_2) (by decide) (by decide)
        exact K_30 _ (lv_sub hl [] rfl)
      · skip
        have i3_x2 : tq_iv 1 2147483647 x2 := tq_cut (tq_top x2) (tq_ltR (tq_nle c_4) i1_x3_2 (tq_top x2)) (by decide) (by decide)
        refine lv_iload_n hx hb dX7_firstWith_7 rfl (lv_at hl 0 rfl) ?_
        refine lv_bipush (v := 8) hx hb dX7_firstWith_8 (by decide) ?_
        refine lv_icmp_ge (tgt := 30) hx hb dX7_firstWith_10 (by decide) (fun c_10 => ?_) (fun c_10 => ?_)
        · skip
          have i4_x3_2 : tq_iv 8 8 x3_2 := tq_cut i1_x3_2 (tq_leR c_10 (⟨by decide, by decide⟩ : tq_iv 8 8 8) i1_x3_2) (by decide) (by decide)
          exact K_30 _ (lv_sub hl [] rfl)
        · skip
          have i5_x3_2 : tq_iv 0 7 x3_2 := tq_cut i1_x3_2 (tq_ltL (tq_nle c_10) i1_x3_2 (⟨by decide, by decide⟩ : tq_iv 8 8 8)) (by decide) (by decide)
          refine lv_aload_n hx hb dX7_firstWith_13 rfl (lv_at hl 1 rfl) ?_
          refine lv_iload_n hx hb dX7_firstWith_14 rfl (lv_at hl 0 rfl) ?_
          refine tq_callVpi (As := [.int x3_2]) (rest := []) hC (c_X7_bits l X Z _ h0 z_h0 x3_2) k_X7_bits ql_RX7_38 rfl (by decide) hS z_h0 rfl hl.1 rfl (Nat.le_of_ble_eq_true rfl) ⟨Nat.zero_le _, Nat.zero_le _⟩ dX7_firstWith_15 (fun t_15 p_15 => ?_)
          refine lv_iload_n hx hb dX7_firstWith_18 rfl (lv_at hl 2 rfl) ?_
          refine lv_icmp_ne (tgt := 24) hx hb dX7_firstWith_19 (by decide) (fun c_19 => ?_) (fun c_19 => ?_)
          · skip
            obtain ⟨t_24, e_24⟩ : ∃ y : Int32, y = x3_2 + 1 := ⟨_, rfl⟩
            have i6_t_24 : tq_iv 1 8 t_24 := tq_w (tq_add e_24 i5_x3_2 (⟨by decide, by decide⟩ : tq_iv 1 1 1) (by decide) (by decide)) (by decide) (by decide)
            refine lv_iinc (v := t_24) (lv' := [(3, .int t_24), (0, .ref h0), (1, .int x1), (2, .int x2)]) hx hb dX7_firstWith_24 hl (k := 0) rfl (by rw [e_24]; rfl) (by decide) rfl (fun ls hl => ?_)
            refine lv_goto (tgt := 2) hx hb dX7_firstWith_27 (by decide) ?_
            exact ih_2 t_24 _ (tq_w i6_t_24 (by decide) (by decide)) (tq_up e_24 i5_x3_2 (⟨by decide, by decide⟩ : tq_iv 1 1 1) (by decide) (by decide) hn_2) (lv_sub hl [0, 1, 2, 3] rfl)
          · skip
            refine lv_iload_n hx hb dX7_firstWith_22 rfl (lv_at hl 0 rfl) ?_
            exact hret x3_2 _ _ rfl ⟨_, rfl, tq_w i5_x3_2 (by decide) (by decide)⟩ dX7_firstWith_23
  exact K_2 _ 0 _ (tq_w (⟨by decide, by decide⟩ : tq_iv 0 0 0) (by decide) (by decide)) (Nat.lt_succ_self _) (lv_sub hl [0, 1, 2, 3] rfl)
set_option maxHeartbeats 4000000 in
set_option maxRecDepth 100000 in
theorem c_X11_cutAhead (l : Launch) (X : tq_X) (Z : tq_Z) (f : Nat → va_E) (h0 : Nat) (z_h0 : tq_z Z h0 (.inl 11)) (x1 : Int32) (x2 : Int32) : tq_Mp l X Z f yX11_cutAhead cX11_cutAhead 7 (some .int) 3 [.ref h0, .int x1, .int x2] (tq_ri (-2147483648) 2147483647) := by
  refine tq_startip (by decide) (Nat.le_of_ble_eq_true rfl) (fun p e R s m args below meth c Q hC hret hS ls hl => ?_)
  have hC : tq_C p R s m args c X (tq_A Z) RX11 cX11_cutAhead 7 3 := hC
  have hx := hC.1.1
  have hb := hC.1.2.1
  have hown := hC.1.2.2.2.1
  have hts := hC.1.2.2.2.2
  have hl : lv_has ls 7 [(0, .ref h0), (1, .int x1), (2, .int x2)] := hl
  refine lv_iconst (v := 0) hx hb dX11_cutAhead_0 (by decide) ?_
  refine lv_istore_n (lv' := [(3, .int 0), (0, .ref h0), (1, .int x1), (2, .int x2)]) hx hb dX11_cutAhead_1 rfl hl (by decide) rfl (fun ls hl => ?_)
  refine lv_iconst (v := 0) hx hb dX11_cutAhead_2 (by decide) ?_
  refine lv_istore (lv' := [(4, .int 0), (3, .int 0), (0, .ref h0), (1, .int x1), (2, .int x2)]) hx hb dX11_cutAhead_3 hl (by decide) rfl (fun ls hl => ?_)
  have K_5 : ∀ (n_5 : Nat) (x4_5 : Int32) (x3_5 : Int32) (ls : Array Slot), tq_iv 0 8 x4_5 → (2147483647 - x4_5.toInt).toNat < n_5 → lv_has ls 7 [(4, .int x4_5), (3, .int x3_5), (0, .ref h0), (1, .int x1), (2, .int x2)] → W p l e R s m args below meth c s.heap [] 0 0 Q (F0 m 5 ls []) := by
    intro n_5
    induction n_5 with
    | zero => intro x4_5 x3_5 ls  i1_x4_5 hn_5; exact absurd hn_5 (Nat.not_lt_zero _)
    | succ n_5 ih_5 =>
      intro x4_5 x3_5 ls  i1_x4_5 hn_5 hl
      refine lv_iload hx hb dX11_cutAhead_5 (lv_at hl 0 rfl) ?_
      refine lv_aload_n hx hb dX11_cutAhead_7 rfl (lv_at hl 2 rfl) ?_
      refine gf_RX11_29 hC hS z_h0 dX11_cutAhead_8 (fun t_8 p_8 q_8 => ?_)
      refine gf_RX11_128 hC hS p_8 dX11_cutAhead_11 (fun t_11 p_11 q_11 => ?_)
      refine lv_icmp_ge (tgt := 92) hx hb dX11_cutAhead_14 (by decide) (fun c_14 => ?_) (fun c_14 => ?_)
      · skip
        refine lv_iload_n hx hb dX11_cutAhead_92 rfl (lv_at hl 1 rfl) ?_
        exact hret x3_5 _ _ rfl ⟨_, rfl, tq_w (tq_top x3_5) (by decide) (by decide)⟩ dX11_cutAhead_93
      · skip
        have i2_x4_5 : tq_iv 0 7 x4_5 := tq_cut i1_x4_5 (tq_ltL (tq_nle c_14) i1_x4_5 p_11) (by decide) (by decide)
        have i3_t_11 : tq_iv 1 8 t_11 := tq_cut p_11 (tq_ltR (tq_nle c_14) i1_x4_5 p_11) (by decide) (by decide)
        refine lv_aload_n hx hb dX11_cutAhead_17 rfl (lv_at hl 2 rfl) ?_
        refine gf_RX11_41 hC hS z_h0 dX11_cutAhead_18 (fun t_18 p_18 q_18 => ?_)
        refine lv_iload hx hb dX11_cutAhead_21 (lv_at hl 0 rfl) ?_
        refine tq_callVpi (As := [.int x4_5]) (rest := []) hC (c_X7_bits l X Z _ t_18 p_18 x4_5) k_X7_bits ql_RX11_140 rfl (by decide) hS p_18 rfl hl.1 rfl (Nat.le_of_ble_eq_true rfl) ⟨Nat.zero_le _, Nat.zero_le _⟩ dX11_cutAhead_23 (fun t_23 p_23 => ?_)
        refine lv_istore (lv' := [(5, .int t_23), (4, .int x4_5), (3, .int x3_5), (0, .ref h0), (1, .int x1), (2, .int x2)]) hx hb dX11_cutAhead_26 hl (by decide) rfl (fun ls hl => ?_)
        refine lv_iload hx hb dX11_cutAhead_28 (lv_at hl 0 rfl) ?_
        refine lv_iload_n hx hb dX11_cutAhead_30 rfl (lv_at hl 4 rfl) ?_
        refine tq_callSpi (As := [.int t_23, .int x1]) (rest := []) hC (c_X6_fitsIn l X Z _ t_23 x1) k_X6_fitsIn ql_RX11_215 rfl (by decide) hS hl.1 rfl (Nat.le_of_ble_eq_true rfl) ⟨Nat.zero_le _, Nat.zero_le _⟩ dX11_cutAhead_31 (fun t_31 p_31 => ?_)
        have K_55 : ∀ (y0_55 : Int32) (ls : Array Slot), tq_iv 0 1 y0_55 → lv_has ls 7 [(5, .int t_23), (4, .int x4_5), (3, .int x3_5), (0, .ref h0), (1, .int x1), (2, .int x2)] → W p l e R s m args below meth c s.heap [] 0 0 Q (F0 m 55 ls [.int y0_55]) := by
          intro y0_55 ls  i4_y0_55 hl
          refine lv_istore (lv' := [(6, .int y0_55), (5, .int t_23), (4, .int x4_5), (3, .int x3_5), (0, .ref h0), (1, .int x1), (2, .int x2)]) hx hb dX11_cutAhead_55 hl (by decide) rfl (fun ls hl => ?_)
          refine lv_iload hx hb dX11_cutAhead_57 (lv_at hl 0 rfl) ?_
          have K_86 : ∀ (x3_86 : Int32) (ls : Array Slot), lv_has ls 7 [(4, .int x4_5), (3, .int x3_86), (0, .ref h0), (1, .int x1), (2, .int x2)] → W p l e R s m args below meth c s.heap [] 0 0 Q (F0 m 86 ls []) := by
            intro x3_86 ls  hl
            obtain ⟨t_86, e_86⟩ : ∃ y : Int32, y = x4_5 + 1 := ⟨_, rfl⟩
            have i5_t_86 : tq_iv 1 8 t_86 := tq_w (tq_add e_86 i2_x4_5 (⟨by decide, by decide⟩ : tq_iv 1 1 1) (by decide) (by decide)) (by decide) (by decide)
            refine lv_iinc (v := t_86) (lv' := [(4, .int t_86), (3, .int x3_86), (0, .ref h0), (1, .int x1), (2, .int x2)]) hx hb dX11_cutAhead_86 hl (k := 0) rfl (by rw [e_86]; rfl) (by decide) rfl (fun ls hl => ?_)
            refine lv_goto (tgt := 5) hx hb dX11_cutAhead_89 (by decide) ?_
            exact ih_5 t_86 x3_86 _ (tq_w i5_t_86 (by decide) (by decide)) (tq_up e_86 i2_x4_5 (⟨by decide, by decide⟩ : tq_iv 1 1 1) (by decide) (by decide) hn_5) (lv_sub hl [0, 1, 2, 3, 4] rfl)
          refine lv_if_eq (tgt := 86) hx hb dX11_cutAhead_59 (by decide) (fun c_59 => ?_) (fun c_59 => ?_)
          · skip
            have i6_y0_55 : tq_iv 0 0 y0_55 := tq_cut i4_y0_55 (tq_eqL c_59 (⟨by decide, by decide⟩ : tq_iv 0 0 0)) (by decide) (by decide)
            exact K_86 x3_5 _ (lv_sub hl [2, 3, 4, 5, 6] rfl)
          · skip
            have i7_y0_55 : tq_iv 1 1 y0_55 := tq_w (tq_neLo c_59 i4_y0_55 (⟨by decide, by decide⟩ : tq_iv 0 0 0)) (by decide) (by decide)
            refine lv_aload_n hx hb dX11_cutAhead_62 rfl (lv_at hl 4 rfl) ?_
            refine gf_RX11_41 hC hS z_h0 dX11_cutAhead_63 (fun t_63 p_63 q_63 => ?_)
            refine lv_iload hx hb dX11_cutAhead_66 (lv_at hl 1 rfl) ?_
            refine lv_aload_n hx hb dX11_cutAhead_68 rfl (lv_at hl 4 rfl) ?_
            refine gf_RX11_29 hC hS z_h0 dX11_cutAhead_69 (fun t_69 p_69 q_69 => ?_)
            refine gf_RX11_128 hC hS p_69 dX11_cutAhead_72 (fun t_72 p_72 q_72 => ?_)
            refine tq_callVpi (As := [.int t_23, .int t_72]) (rest := []) hC (c_X7_firstWith l X Z _ t_63 p_63 t_23 t_72) k_X7_firstWith ql_RX11_319 rfl (by decide) hS p_63 rfl hl.1 rfl (Nat.le_of_ble_eq_true rfl) ⟨Nat.zero_le _, Nat.zero_le _⟩ dX11_cutAhead_75 (fun t_75 p_75 => ?_)
            refine lv_iload hx hb dX11_cutAhead_78 (lv_at hl 2 rfl) ?_
            refine lv_icmp_ne (tgt := 86) hx hb dX11_cutAhead_80 (by decide) (fun c_80 => ?_) (fun c_80 => ?_)
            · skip
              exact K_86 x3_5 _ (lv_sub hl [2, 3, 4, 5, 6] rfl)
            · skip
              have i8_t_75 : tq_iv 0 7 t_75 := tq_cut p_75 (tq_eqL c_80 i2_x4_5) (by decide) (by decide)
              obtain ⟨t_83, e_83⟩ : ∃ y : Int32, y = x3_5 + 1 := ⟨_, rfl⟩
              refine lv_iinc (v := t_83) (lv' := [(3, .int t_83), (6, .int y0_55), (5, .int t_23), (4, .int x4_5), (0, .ref h0), (1, .int x1), (2, .int x2)]) hx hb dX11_cutAhead_83 hl (k := 3) rfl (by rw [e_83]; rfl) (by decide) rfl (fun ls hl => ?_)
              exact K_86 t_83 _ (lv_sub hl [3, 0, 4, 5, 6] rfl)
        have K_54 : ∀ (ls : Array Slot), lv_has ls 7 [(5, .int t_23), (4, .int x4_5), (3, .int x3_5), (0, .ref h0), (1, .int x1), (2, .int x2)] → W p l e R s m args below meth c s.heap [] 0 0 Q (F0 m 54 ls []) := by
          intro  ls  hl
          refine lv_iconst (v := 0) hx hb dX11_cutAhead_54 (by decide) ?_
          exact K_55 0 _ (tq_w (⟨by decide, by decide⟩ : tq_iv 0 0 0) (by decide) (by decide)) (lv_sub hl [0, 1, 2, 3, 4, 5] rfl)
        refine lv_if_eq (tgt := 54) hx hb dX11_cutAhead_34 (by decide) (fun c_34 => ?_) (fun c_34 => ?_)
        · skip
          have i9_t_31 : tq_iv 0 0 t_31 := tq_cut p_31 (tq_eqL c_34 (⟨by decide, by decide⟩ : tq_iv 0 0 0)) (by decide) (by decide)
          exact K_54 _ (lv_sub hl [0, 1, 2, 3, 4, 5] rfl)
        · skip
          have i10_t_31 : tq_iv 1 1 t_31 := tq_w (tq_neLo c_34 p_31 (⟨by decide, by decide⟩ : tq_iv 0 0 0)) (by decide) (by decide)
          refine lv_aload_n hx hb dX11_cutAhead_37 rfl (lv_at hl 3 rfl) ?_
          refine gf_RX11_37 hC hS z_h0 dX11_cutAhead_38 (fun t_38 p_38 q_38 => ?_)
          refine lv_iload hx hb dX11_cutAhead_41 (lv_at hl 0 rfl) ?_
          refine tq_callVpi (As := [.int t_23]) (rest := []) hC (c_X6_numberOf l X Z _ t_38 p_38 t_23) k_X6_numberOf ql_RX11_144 rfl (by decide) hS p_38 rfl hl.1 rfl (Nat.le_of_ble_eq_true rfl) ⟨Nat.zero_le _, Nat.zero_le _⟩ dX11_cutAhead_43 (fun t_43 p_43 => ?_)
          refine lv_iload_n hx hb dX11_cutAhead_46 rfl (lv_at hl 5 rfl) ?_
          refine lv_icmp_ge (tgt := 54) hx hb dX11_cutAhead_47 (by decide) (fun c_47 => ?_) (fun c_47 => ?_)
          · skip
            exact K_54 _ (lv_sub hl [0, 1, 2, 3, 4, 5] rfl)
          · skip
            have i11_t_43 : tq_iv (-2147483648) 2147483646 t_43 := tq_cut (tq_top t_43) (tq_ltL (tq_nle c_47) (tq_top t_43) (tq_top x2)) (by decide) (by decide)
            have i12_x2 : tq_iv (-2147483647) 2147483647 x2 := tq_cut (tq_top x2) (tq_ltR (tq_nle c_47) (tq_top t_43) (tq_top x2)) (by decide) (by decide)
            refine lv_iconst (v := 1) hx hb dX11_cutAhead_50 (by decide) ?_
            refine lv_goto (tgt := 55) hx hb dX11_cutAhead_51 (by decide) ?_
            exact K_55 1 _ (tq_w (⟨by decide, by decide⟩ : tq_iv 1 1 1) (by decide) (by decide)) (lv_sub hl [0, 1, 2, 3, 4, 5] rfl)
  exact K_5 _ 0 0 _ (tq_w (⟨by decide, by decide⟩ : tq_iv 0 0 0) (by decide) (by decide)) (Nat.lt_succ_self _) (lv_sub hl [0, 1, 2, 3, 4] rfl)
set_option maxHeartbeats 4000000 in
set_option maxRecDepth 100000 in
theorem c_X11_ghosts (l : Launch) (X : tq_X) (Z : tq_Z) (f : Nat → va_E) (h0 : Nat) (z_h0 : tq_z Z h0 (.inl 11)) (x1 : Int32) : tq_M l X Z f [] yX11_ghosts cX11_ghosts 3 (some .int) 4 [.ref h0, .int x1] (tq_ri (-2147483648) 2147483647) := by
  refine tq_starti (by decide) (Nat.le_of_ble_eq_true rfl) (fun p e R s m args below meth c Q hC hret hS ls hl => ?_)
  have hC : tq_C p R s m args c X (tq_A Z) RX11 cX11_ghosts 3 4 := hC
  have hx := hC.1.1
  have hb := hC.1.2.1
  have hown := hC.1.2.2.2.1
  have hts := hC.1.2.2.2.2
  have hl : lv_has ls 3 [(0, .ref h0), (1, .int x1)] := hl
  generalize hf0 : f = f0 at hret
  have hS : tq_S X Z (tq_A Z) s.heap f0 [] f s.heap [] := hf0 ▸ hS
  refine lv_aload_n hx hb dX11_ghosts_0 rfl (lv_at hl 0 rfl) ?_
  refine gf_RX11_29 hC hS z_h0 dX11_ghosts_1 (fun t_1 p_1 q_1 => ?_)
  refine lv_iload_n hx hb dX11_ghosts_4 rfl (lv_at hl 1 rfl) ?_
  refine tq_callVpi (As := [.int x1]) (rest := []) hC (c_X3_hasLock l X Z _ t_1 p_1 x1) k_X3_hasLock ql_RX11_165 rfl (by decide) hS p_1 rfl hl.1 rfl (Nat.le_of_ble_eq_true rfl) ⟨Nat.zero_le _, Nat.zero_le _⟩ dX11_ghosts_5 (fun t_5 p_5 => ?_)
  refine lv_if_ne (tgt := 13) hx hb dX11_ghosts_8 (by decide) (fun c_8 => ?_) (fun c_8 => ?_)
  · skip
    have i1_t_5 : tq_iv 1 1 t_5 := tq_w (tq_neLo c_8 p_5 (⟨by decide, by decide⟩ : tq_iv 0 0 0)) (by decide) (by decide)
    refine lv_aload_n hx hb dX11_ghosts_13 rfl (lv_at hl 0 rfl) ?_
    refine gf_RX11_41 hC hS z_h0 dX11_ghosts_14 (fun t_14 p_14 q_14 => ?_)
    refine lv_iload_n hx hb dX11_ghosts_17 rfl (lv_at hl 1 rfl) ?_
    refine tq_callVpi (As := [.int x1]) (rest := []) hC (c_X7_pins l X Z _ t_14 p_14 x1) k_X7_pins ql_RX11_168 rfl (by decide) hS p_14 rfl hl.1 rfl (Nat.le_of_ble_eq_true rfl) ⟨Nat.zero_le _, Nat.zero_le _⟩ dX11_ghosts_18 (fun t_18 p_18 => ?_)
    refine lv_istore_n (lv' := [(2, .int t_18), (0, .ref h0), (1, .int x1)]) hx hb dX11_ghosts_21 rfl hl (by decide) rfl (fun ls hl => ?_)
    refine lv_aload_n hx hb dX11_ghosts_22 rfl (lv_at hl 1 rfl) ?_
    refine gf_RX11_37 hC hS z_h0 dX11_ghosts_23 (fun t_23 p_23 q_23 => ?_)
    refine lv_iload_n hx hb dX11_ghosts_26 rfl (lv_at hl 0 rfl) ?_
    refine lv_aload_n hx hb dX11_ghosts_27 rfl (lv_at hl 1 rfl) ?_
    refine gf_RX11_37 hC hS z_h0 dX11_ghosts_28 (fun t_28 p_28 q_28 => ?_)
    refine gf_RX11_304 hC hS p_28 dX11_ghosts_31 (fun t_31 p_31 q_31 => ?_)
    refine tq_callVi (As := [.int t_18, .int t_31]) (rest := []) hC (c_X6_howMany l X Z _ t_23 p_23 t_18 t_31) k_X6_howMany ql_RX11_307 (by decide) rfl (by decide) hS p_23 rfl hl.1 rfl (Nat.le_of_ble_eq_true rfl) ⟨Nat.zero_le _, Nat.zero_le _⟩ dX11_ghosts_34 (fun t_34 f1_34 H locs p_34 hS k_34 => ?_)
    refine lv_aload_n hx hb dX11_ghosts_37 rfl (lv_at hl 1 rfl) ?_
    refine lv_iload_n hx hb dX11_ghosts_38 rfl (lv_at hl 0 rfl) ?_
    refine lv_sipush (v := 7776) hx hb dX11_ghosts_39 (by decide) ?_
    refine tq_callVpi (As := [.int t_18, .int 7776]) (rest := [.int t_34]) hC (c_X11_cutAhead l X Z _ h0 z_h0 t_18 7776) k_X11_cutAhead ql_RX11_316 rfl (by decide) hS z_h0 rfl hl.1 rfl (Nat.le_of_ble_eq_true rfl) ⟨Nat.zero_le _, Nat.zero_le _⟩ dX11_ghosts_42 (fun t_42 p_42 => ?_)
    refine lv_isub hx hb dX11_ghosts_45 ?_
    refine lv_topi (fun t_45 e_45 => ?_)
    exact hret t_45 _ _ _ _ _ rfl ⟨_, rfl, tq_w (tq_top t_45) (by decide) (by decide)⟩ hS dX11_ghosts_46
  · skip
    have i2_t_5 : tq_iv 0 0 t_5 := tq_cut p_5 (tq_eqL c_8 (⟨by decide, by decide⟩ : tq_iv 0 0 0)) (by decide) (by decide)
    refine lv_iconst (v := -1) hx hb dX11_ghosts_11 (by decide) ?_
    exact hret (-1) _ _ _ _ _ rfl ⟨_, rfl, tq_w (⟨by decide, by decide⟩ : tq_iv (-1) (-1) (-1)) (by decide) (by decide)⟩ hS dX11_ghosts_12
set_option maxHeartbeats 4000000 in
set_option maxRecDepth 100000 in
theorem c_X11_ghost (l : Launch) (X : tq_X) (Z : tq_Z) (f : Nat → va_E) (h0 : Nat) (z_h0 : tq_z Z h0 (.inl 11)) (x1 : Int32) (x2 : Int32) : tq_M l X Z f [] yX11_ghost cX11_ghost 7 (some .int) 4 [.ref h0, .int x1, .int x2] (tq_ri (-2147483648) 2147483647) := by
  refine tq_starti (by decide) (Nat.le_of_ble_eq_true rfl) (fun p e R s m args below meth c Q hC hret hS ls hl => ?_)
  have hC : tq_C p R s m args c X (tq_A Z) RX11 cX11_ghost 7 4 := hC
  have hx := hC.1.1
  have hb := hC.1.2.1
  have hown := hC.1.2.2.2.1
  have hts := hC.1.2.2.2.2
  have hl : lv_has ls 7 [(0, .ref h0), (1, .int x1), (2, .int x2)] := hl
  generalize hf0 : f = f0 at hret
  have hS : tq_S X Z (tq_A Z) s.heap f0 [] f s.heap [] := hf0 ▸ hS
  refine lv_aload_n hx hb dX11_ghost_0 rfl (lv_at hl 0 rfl) ?_
  refine gf_RX11_29 hC hS z_h0 dX11_ghost_1 (fun t_1 p_1 q_1 => ?_)
  refine lv_iload_n hx hb dX11_ghost_4 rfl (lv_at hl 1 rfl) ?_
  refine tq_callVpi (As := [.int x1]) (rest := []) hC (c_X3_hasLock l X Z _ t_1 p_1 x1) k_X3_hasLock ql_RX11_165 rfl (by decide) hS p_1 rfl hl.1 rfl (Nat.le_of_ble_eq_true rfl) ⟨Nat.zero_le _, Nat.zero_le _⟩ dX11_ghost_5 (fun t_5 p_5 => ?_)
  have K_22 : ∀ (f : Nat → va_E) (H : Heap) (locs : List Loc) (ls : Array Slot), tq_S X Z (tq_A Z) s.heap f0 [] f H locs → lv_has ls 7 [] → W p l e R s m args below meth c H locs 0 0 Q (F0 m 22 ls []) := by
    intro f H locs ls  hS hl
    refine lv_iconst (v := -1) hx hb dX11_ghost_22 (by decide) ?_
    exact hret (-1) _ _ _ _ _ rfl ⟨_, rfl, tq_w (⟨by decide, by decide⟩ : tq_iv (-1) (-1) (-1)) (by decide) (by decide)⟩ hS dX11_ghost_23
  refine lv_if_eq (tgt := 22) hx hb dX11_ghost_8 (by decide) (fun c_8 => ?_) (fun c_8 => ?_)
  · skip
    have i1_t_5 : tq_iv 0 0 t_5 := tq_cut p_5 (tq_eqL c_8 (⟨by decide, by decide⟩ : tq_iv 0 0 0)) (by decide) (by decide)
    exact K_22 _ _ _ _ hS (lv_sub hl [] rfl)
  · skip
    have i2_t_5 : tq_iv 1 1 t_5 := tq_w (tq_neLo c_8 p_5 (⟨by decide, by decide⟩ : tq_iv 0 0 0)) (by decide) (by decide)
    refine lv_iload_n hx hb dX11_ghost_11 rfl (lv_at hl 2 rfl) ?_
    refine lv_if_lt (tgt := 22) hx hb dX11_ghost_12 (by decide) (fun c_12 => ?_) (fun c_12 => ?_)
    · skip
      have i3_x2 : tq_iv (-2147483648) (-1) x2 := tq_cut (tq_top x2) (tq_ltL c_12 (tq_top x2) (⟨by decide, by decide⟩ : tq_iv 0 0 0)) (by decide) (by decide)
      exact K_22 _ _ _ _ hS (lv_sub hl [] rfl)
    · skip
      have i4_x2 : tq_iv 0 2147483647 x2 := tq_cut (tq_top x2) (tq_leR (tq_nlt c_12) (⟨by decide, by decide⟩ : tq_iv 0 0 0) (tq_top x2)) (by decide) (by decide)
      refine lv_iload_n hx hb dX11_ghost_15 rfl (lv_at hl 2 rfl) ?_
      refine lv_sipush (v := 7776) hx hb dX11_ghost_16 (by decide) ?_
      refine lv_icmp_lt (tgt := 24) hx hb dX11_ghost_19 (by decide) (fun c_19 => ?_) (fun c_19 => ?_)
      · skip
        have i5_x2 : tq_iv 0 7775 x2 := tq_cut i4_x2 (tq_ltL c_19 i4_x2 (⟨by decide, by decide⟩ : tq_iv 7776 7776 7776)) (by decide) (by decide)
        refine lv_aload_n hx hb dX11_ghost_24 rfl (lv_at hl 0 rfl) ?_
        refine gf_RX11_41 hC hS z_h0 dX11_ghost_25 (fun t_25 p_25 q_25 => ?_)
        refine lv_iload_n hx hb dX11_ghost_28 rfl (lv_at hl 1 rfl) ?_
        refine tq_callVpi (As := [.int x1]) (rest := []) hC (c_X7_pins l X Z _ t_25 p_25 x1) k_X7_pins ql_RX11_168 rfl (by decide) hS p_25 rfl hl.1 rfl (Nat.le_of_ble_eq_true rfl) ⟨Nat.zero_le _, Nat.zero_le _⟩ dX11_ghost_29 (fun t_29 p_29 => ?_)
        refine lv_istore_n (lv' := [(3, .int t_29), (0, .ref h0), (1, .int x1), (2, .int x2)]) hx hb dX11_ghost_32 rfl hl (by decide) rfl (fun ls hl => ?_)
        refine lv_iload_n hx hb dX11_ghost_33 rfl (lv_at hl 3 rfl) ?_
        refine lv_istore (lv' := [(4, .int x2), (3, .int t_29), (0, .ref h0), (1, .int x1), (2, .int x2)]) hx hb dX11_ghost_34 hl (by decide) rfl (fun ls hl => ?_)
        have K_36 : ∀ (n_36 : Nat) (x4_36 : Int32) (f : Nat → va_E) (H : Heap) (locs : List Loc) (ls : Array Slot), tq_S X Z (tq_A Z) s.heap f0 [] f H locs → tq_iv 0 7784 x4_36 → (2147483647 - x4_36.toInt).toNat < n_36 → lv_has ls 7 [(4, .int x4_36), (3, .int t_29), (0, .ref h0), (2, .int x2)] → W p l e R s m args below meth c H locs 0 0 Q (F0 m 36 ls []) := by
          intro n_36
          induction n_36 with
          | zero => intro x4_36 f H locs ls  hS i6_x4_36 hn_36; exact absurd hn_36 (Nat.not_lt_zero _)
          | succ n_36 ih_36 =>
            intro x4_36 f H locs ls  hS i6_x4_36 hn_36 hl
            refine lv_iload hx hb dX11_ghost_36 (lv_at hl 0 rfl) ?_
            refine lv_iload_n hx hb dX11_ghost_38 rfl (lv_at hl 3 rfl) ?_
            refine lv_bipush (v := 8) hx hb dX11_ghost_39 (by decide) ?_
            refine lv_iadd hx hb dX11_ghost_41 ?_
            refine lv_topi (fun t_41 e_41 => ?_)
            have i7_t_41 : tq_iv 8 7783 t_41 := tq_w (tq_add e_41 i5_x2 (⟨by decide, by decide⟩ : tq_iv 8 8 8) (by decide) (by decide)) (by decide) (by decide)
            refine lv_icmp_gt (tgt := 118) hx hb dX11_ghost_42 (by decide) (fun c_42 => ?_) (fun c_42 => ?_)
            · skip
              have i8_x4_36 : tq_iv 9 7784 x4_36 := tq_cut i6_x4_36 (tq_ltR c_42 i7_t_41 i6_x4_36) (by decide) (by decide)
              refine lv_iconst (v := -1) hx hb dX11_ghost_118 (by decide) ?_
              exact hret (-1) _ _ _ _ _ rfl ⟨_, rfl, tq_w (⟨by decide, by decide⟩ : tq_iv (-1) (-1) (-1)) (by decide) (by decide)⟩ hS dX11_ghost_119
            · skip
              have i9_x4_36 : tq_iv 0 7783 x4_36 := tq_cut i6_x4_36 (tq_leL (tq_nlt c_42) i6_x4_36 i7_t_41) (by decide) (by decide)
              refine lv_aload_n hx hb dX11_ghost_45 rfl (lv_at hl 2 rfl) ?_
              refine gf_RX11_37 hC hS z_h0 dX11_ghost_46 (fun t_46 p_46 q_46 => ?_)
              refine lv_iload_n hx hb dX11_ghost_49 rfl (lv_at hl 1 rfl) ?_
              refine lv_iload hx hb dX11_ghost_50 (lv_at hl 0 rfl) ?_
              refine tq_callVi (As := [.int t_29, .int x4_36]) (rest := []) hC (c_X6_nth l X Z _ t_46 p_46 t_29 x4_36) k_X6_nth ql_RX11_310 (by decide) rfl (by decide) hS p_46 rfl hl.1 rfl (Nat.le_of_ble_eq_true rfl) ⟨Nat.zero_le _, Nat.zero_le _⟩ dX11_ghost_52 (fun t_52 f1_52 H locs p_52 hS k_52 => ?_)
              refine lv_istore (lv' := [(5, .int t_52), (4, .int x4_36), (3, .int t_29), (0, .ref h0), (2, .int x2)]) hx hb dX11_ghost_55 hl (by decide) rfl (fun ls hl => ?_)
              refine lv_iload hx hb dX11_ghost_57 (lv_at hl 0 rfl) ?_
              refine lv_if_ne (tgt := 64) hx hb dX11_ghost_59 (by decide) (fun c_59 => ?_) (fun c_59 => ?_)
              · skip
                refine lv_aload_n hx hb dX11_ghost_64 rfl (lv_at hl 3 rfl) ?_
                refine gf_RX11_37 hC hS z_h0 dX11_ghost_65 (fun t_65 p_65 q_65 => ?_)
                refine lv_iload hx hb dX11_ghost_68 (lv_at hl 0 rfl) ?_
                refine tq_callVpi (As := [.int t_52]) (rest := []) hC (c_X6_numberOf l X Z _ t_65 p_65 t_52) k_X6_numberOf ql_RX11_144 rfl (by decide) hS p_65 rfl hl.1 rfl (Nat.le_of_ble_eq_true rfl) ⟨Nat.zero_le _, Nat.zero_le _⟩ dX11_ghost_70 (fun t_70 p_70 => ?_)
                refine lv_istore (lv' := [(6, .int t_70), (5, .int t_52), (4, .int x4_36), (3, .int t_29), (0, .ref h0), (2, .int x2)]) hx hb dX11_ghost_73 hl (by decide) rfl (fun ls hl => ?_)
                refine lv_aload_n hx hb dX11_ghost_75 rfl (lv_at hl 4 rfl) ?_
                refine gf_RX11_41 hC hS z_h0 dX11_ghost_76 (fun t_76 p_76 q_76 => ?_)
                refine lv_iload hx hb dX11_ghost_79 (lv_at hl 1 rfl) ?_
                refine lv_aload_n hx hb dX11_ghost_81 rfl (lv_at hl 4 rfl) ?_
                refine gf_RX11_29 hC hS z_h0 dX11_ghost_82 (fun t_82 p_82 q_82 => ?_)
                refine gf_RX11_128 hC hS p_82 dX11_ghost_85 (fun t_85 p_85 q_85 => ?_)
                refine tq_callVpi (As := [.int t_52, .int t_85]) (rest := []) hC (c_X7_firstWith l X Z _ t_76 p_76 t_52 t_85) k_X7_firstWith ql_RX11_319 rfl (by decide) hS p_76 rfl hl.1 rfl (Nat.le_of_ble_eq_true rfl) ⟨Nat.zero_le _, Nat.zero_le _⟩ dX11_ghost_88 (fun t_88 p_88 => ?_)
                refine lv_iconst (v := -1) hx hb dX11_ghost_91 (by decide) ?_
                have K_112 : ∀ (f : Nat → va_E) (H : Heap) (locs : List Loc) (ls : Array Slot), tq_S X Z (tq_A Z) s.heap f0 [] f H locs → lv_has ls 7 [(4, .int x4_36), (3, .int t_29), (0, .ref h0), (2, .int x2)] → W p l e R s m args below meth c H locs 0 0 Q (F0 m 112 ls []) := by
                  intro f H locs ls  hS hl
                  obtain ⟨t_112, e_112⟩ : ∃ y : Int32, y = x4_36 + 1 := ⟨_, rfl⟩
                  have i10_t_112 : tq_iv 1 7784 t_112 := tq_w (tq_add e_112 i9_x4_36 (⟨by decide, by decide⟩ : tq_iv 1 1 1) (by decide) (by decide)) (by decide) (by decide)
                  refine lv_iinc (v := t_112) (lv' := [(4, .int t_112), (3, .int t_29), (0, .ref h0), (2, .int x2)]) hx hb dX11_ghost_112 hl (k := 0) rfl (by rw [e_112]; rfl) (by decide) rfl (fun ls hl => ?_)
                  refine lv_goto (tgt := 36) hx hb dX11_ghost_115 (by decide) ?_
                  exact ih_36 t_112 _ _ _ _ hS (tq_w i10_t_112 (by decide) (by decide)) (tq_up e_112 i9_x4_36 (⟨by decide, by decide⟩ : tq_iv 1 1 1) (by decide) (by decide) hn_36) (lv_sub hl [0, 1, 2, 3] rfl)
                refine lv_icmp_ne (tgt := 112) hx hb dX11_ghost_92 (by decide) (fun c_92 => ?_) (fun c_92 => ?_)
                · skip
                  have i11_t_88 : tq_iv 0 7 t_88 := tq_w (tq_neLo c_92 p_88 (⟨by decide, by decide⟩ : tq_iv (-1) (-1) (-1))) (by decide) (by decide)
                  exact K_112 _ _ _ _ hS (lv_sub hl [2, 3, 4, 5] rfl)
                · skip
                  have i12_t_88 : tq_iv (-1) (-1) t_88 := tq_cut p_88 (tq_eqL c_92 (⟨by decide, by decide⟩ : tq_iv (-1) (-1) (-1))) (by decide) (by decide)
                  refine lv_iload hx hb dX11_ghost_95 (lv_at hl 2 rfl) ?_
                  refine lv_aload_n hx hb dX11_ghost_97 rfl (lv_at hl 4 rfl) ?_
                  refine lv_iload_n hx hb dX11_ghost_98 rfl (lv_at hl 3 rfl) ?_
                  refine lv_iload hx hb dX11_ghost_99 (lv_at hl 0 rfl) ?_
                  refine tq_callVpi (As := [.int t_29, .int t_70]) (rest := [.int x4_36]) hC (c_X11_cutAhead l X Z _ h0 z_h0 t_29 t_70) k_X11_cutAhead ql_RX11_316 rfl (by decide) hS z_h0 rfl hl.1 rfl (Nat.le_of_ble_eq_true rfl) ⟨Nat.zero_le _, Nat.zero_le _⟩ dX11_ghost_101 (fun t_101 p_101 => ?_)
                  refine lv_isub hx hb dX11_ghost_104 ?_
                  refine lv_topi (fun t_104 e_104 => ?_)
                  refine lv_iload_n hx hb dX11_ghost_105 rfl (lv_at hl 5 rfl) ?_
                  refine lv_icmp_ne (tgt := 112) hx hb dX11_ghost_106 (by decide) (fun c_106 => ?_) (fun c_106 => ?_)
                  · skip
                    exact K_112 _ _ _ _ hS (lv_sub hl [2, 3, 4, 5] rfl)
                  · skip
                    have i13_t_104 : tq_iv 0 7775 t_104 := tq_cut (tq_top t_104) (tq_eqL c_106 i5_x2) (by decide) (by decide)
                    refine lv_iload hx hb dX11_ghost_109 (lv_at hl 0 rfl) ?_
                    exact hret t_70 _ _ _ _ _ rfl ⟨_, rfl, tq_w (tq_top t_70) (by decide) (by decide)⟩ hS dX11_ghost_111
              · skip
                have i14_t_52 : tq_iv 0 0 t_52 := tq_cut (tq_top t_52) (tq_eqL c_59 (⟨by decide, by decide⟩ : tq_iv 0 0 0)) (by decide) (by decide)
                refine lv_iconst (v := -1) hx hb dX11_ghost_62 (by decide) ?_
                exact hret (-1) _ _ _ _ _ rfl ⟨_, rfl, tq_w (⟨by decide, by decide⟩ : tq_iv (-1) (-1) (-1)) (by decide) (by decide)⟩ hS dX11_ghost_63
        exact K_36 _ x2 _ _ _ _ hS (tq_w i5_x2 (by decide) (by decide)) (Nat.lt_succ_self _) (lv_sub hl [0, 1, 2, 4] rfl)
      · skip
        have i15_x2 : tq_iv 7776 2147483647 x2 := tq_cut i4_x2 (tq_leR (tq_nlt c_19) (⟨by decide, by decide⟩ : tq_iv 7776 7776 7776) i4_x2) (by decide) (by decide)
        exact K_22 _ _ _ _ hS (lv_sub hl [] rfl)
