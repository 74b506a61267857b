set_option maxRecDepth 100000 in
noncomputable def z_X5_lettingIn_45 (σ : ez_H) (y0 : Int32) : Option (Int32) :=
  some y0
set_option maxRecDepth 100000 in
noncomputable def z_X5_lettingIn (σ : ez_H) (h0 : Nat) (x1 : Int32) (x2 : Int32) (x3 : Int32) : Option (Int32) :=
  ez_bd (ez_ob σ 5 h0) fun _ =>
  ez_bd (ez_gr σ 5 h0 0) fun t_1 =>
  ez_bd (z_X3_mustOf σ t_1 x2) fun t_5 =>
  ez_let (t_5 >>> (x3 &&& 31)) fun t_9 =>
  ez_let (t_9 &&& (1 : Int32)) fun t_11 =>
  if t_11 = (0 : Int32) then (
  ez_bd (ez_gr σ 5 h0 1) fun t_16 =>
  ez_bd (z_X7_bits σ t_16 x1) fun t_20 =>
  ez_bd (z_X5_lawfulPins σ h0 x2) fun t_25 =>
  ez_bd (z_X6_fitsIn σ t_20 t_25) fun t_28 =>
  if t_28 = (0 : Int32) then (
  z_X5_lettingIn_45 σ (0 : Int32)
  ) else (
  ez_bd (ez_gr σ 5 h0 2) fun t_35 =>
  ez_bd (z_X6_everything σ t_35) fun t_38 =>
  z_X5_lettingIn_45 σ t_38
  )
  ) else (
  ez_bd (ez_gr σ 5 h0 1) fun t_47 =>
  ez_bd (z_X7_bits σ t_47 x1) fun t_51 =>
  ez_bd (ez_gr σ 5 h0 0) fun t_56 =>
  ez_bd (z_X3_mustOf σ t_56 x2) fun t_60 =>
  ez_let ((1 : Int32) <<< (x3 &&& 31)) fun t_65 =>
  ez_let (t_65 ^^^ (-1 : Int32)) fun t_67 =>
  ez_let (t_60 &&& t_67) fun t_68 =>
  ez_bd (z_X5_pinsFor σ h0 t_68) fun t_69 =>
  ez_let (t_69 ^^^ (-1 : Int32)) fun t_73 =>
  ez_let (t_51 &&& t_73) fun t_74 =>
  ez_bd (ez_gr σ 5 h0 2) fun t_80 =>
  ez_bd (z_X6_everythingBut σ t_80 t_74) fun t_85 =>
  ez_let (t_74 ||| t_85) fun t_88 =>
  some t_88
  )
set_option maxRecDepth 100000 in
noncomputable def z_X5_addBar_40 (σ : ez_H) : Option (Unit × ez_H) :=
  some ((), σ)
set_option maxRecDepth 100000 in
noncomputable def z_X5_addBar (σ : ez_H) (h0 : Nat) (x1 : Int32) : Option (Unit × ez_H) :=
  ez_bd (ez_ob σ 5 h0) fun _ =>
  if x1 = (0 : Int32) then (
  z_X5_addBar_40  σ
  ) else (
  ez_bd (ez_gi σ 5 h0 4) fun t_5 =>
  if t_5 < (0 : Int32) then (
  z_X5_addBar_40  σ
  ) else (
  ez_bd (ez_gi σ 5 h0 4) fun t_12 =>
  if (48 : Int32) ≤ t_12 then (
  z_X5_addBar_40  σ
  ) else (
  ez_bd (ez_gr σ 5 h0 3) fun t_21 =>
  ez_bd (ez_gi σ 5 h0 4) fun t_25 =>
  ez_bd (ez_is σ 1 t_21 t_25 x1) fun σ =>
  ez_bd (ez_gi σ 5 h0 4) fun t_32 =>
  ez_let (t_32 + (1 : Int32)) fun t_36 =>
  ez_bd (ez_pf σ 5 h0 4 (.inl t_36)) fun σ =>
  z_X5_addBar_40  σ
  )
  )
  )
set_option maxRecDepth 100000 in
noncomputable def z_X5_gatherBars_70 (k_7 : ez_H → Nat → Int32 → Int32 → Option (Unit × ez_H)) (k_20 : ez_H → Nat → Int32 → Int32 → Int32 → Option (Unit × ez_H)) (σ : ez_H) (h0 : Nat) (x1 : Int32) (x2 : Int32) (x3 : Int32) : Option (Unit × ez_H) :=
  ez_let (x3 + 1) fun t_70 =>
  k_20 σ h0 x1 x2 t_70
set_option maxRecDepth 100000 in
noncomputable def z_X5_gatherBars_67 (k_7 : ez_H → Nat → Int32 → Int32 → Option (Unit × ez_H)) (k_20 : ez_H → Nat → Int32 → Int32 → Int32 → Option (Unit × ez_H)) (σ : ez_H) (h0 : Nat) (x1 : Int32) (x2 : Int32) (x3 : Int32) (y0 : Nat) (y1 : Int32) : Option (Unit × ez_H) :=
  ez_b2 (z_X5_addBar σ y0 y1) fun _ σ =>
  z_X5_gatherBars_70 k_7 k_20 σ h0 x1 x2 x3
set_option maxRecDepth 100000 in
noncomputable def z_X5_gatherBars_20 (k_7 : ez_H → Nat → Int32 → Int32 → Option (Unit × ez_H)) (k_20 : ez_H → Nat → Int32 → Int32 → Int32 → Option (Unit × ez_H)) (σ : ez_H) (h0 : Nat) (x1 : Int32) (x2 : Int32) (x3 : Int32) : Option (Unit × ez_H) :=
  ez_bd (ez_gr σ 5 h0 0) fun t_22 =>
  ez_bd (ez_gi σ 3 t_22 3) fun t_25 =>
  if t_25 ≤ x3 then (
  ez_let (x2 + 1) fun t_76 =>
  k_7 σ h0 x1 t_76
  ) else (
  ez_bd (ez_gr σ 5 h0 0) fun t_32 =>
  ez_bd (z_X3_neverOf σ t_32 x2) fun t_36 =>
  ez_let (t_36 >>> (x3 &&& 31)) fun t_40 =>
  ez_let (t_40 &&& (1 : Int32)) fun t_42 =>
  if t_42 = (0 : Int32) then (
  z_X5_gatherBars_70 k_7 k_20 σ h0 x1 x2 x3
  ) else (
  if x3 = x1 then (
  ez_bd (z_X5_lawfulPins σ h0 x2) fun t_54 =>
  z_X5_gatherBars_67 k_7 k_20 σ h0 x1 x2 x3 h0 t_54
  ) else (
  ez_bd (z_X5_lettingIn σ h0 x3 x2 x1) fun t_64 =>
  z_X5_gatherBars_67 k_7 k_20 σ h0 x1 x2 x3 h0 t_64
  )
  )
  )
set_option maxRecDepth 100000 in
noncomputable def z_X5_gatherBars_7 (k_7 : ez_H → Nat → Int32 → Int32 → Option (Unit × ez_H)) (σ : ez_H) (h0 : Nat) (x1 : Int32) (x2 : Int32) : Option (Unit × ez_H) :=
  ez_bd (ez_gr σ 5 h0 0) fun t_9 =>
  ez_bd (ez_gi σ 3 t_9 4) fun t_12 =>
  if t_12 ≤ x2 then (
  some ((), σ)
  ) else (
  ez_fix (fun _ _ _ _ _ => none) (z_X5_gatherBars_20 k_7) ez_N σ h0 x1 x2 (0 : Int32)
  )
set_option maxRecDepth 100000 in
noncomputable def z_X5_gatherBars (σ : ez_H) (h0 : Nat) (x1 : Int32) : Option (Unit × ez_H) :=
  ez_bd (ez_ob σ 5 h0) fun _ =>
  ez_bd (ez_pf σ 5 h0 4 (.inl (0 : Int32))) fun σ =>
  ez_fix (fun _ _ _ _ => none) (z_X5_gatherBars_7 ) ez_N σ h0 x1 (0 : Int32)
set_option maxRecDepth 100000 in
noncomputable def z_X5_isBarred_37 (σ : ez_H) : Option (Int32) :=
  some (0 : Int32)
set_option maxRecDepth 100000 in
noncomputable def z_X5_isBarred_2 (σ : ez_H) (k_2 : Nat → Int32 → Int32 → Option (Int32)) (h0 : Nat) (x1 : Int32) (x2 : Int32) : Option (Int32) :=
  ez_bd (ez_gi σ 5 h0 4) fun t_4 =>
  if t_4 ≤ x2 then (
  z_X5_isBarred_37 σ 
  ) else (
  if (48 : Int32) ≤ x2 then (
  z_X5_isBarred_37 σ 
  ) else (
  ez_bd (ez_gr σ 5 h0 3) fun t_18 =>
  ez_bd (ez_ia σ 1 t_18 x2) fun t_22 =>
  ez_bd (z_X6_fitsIn σ x1 t_22) fun t_23 =>
  if t_23 = (0 : Int32) then (
  ez_let (x2 + 1) fun t_31 =>
  k_2 h0 x1 t_31
  ) else (
  some (1 : Int32)
  )
  )
  )
set_option maxRecDepth 100000 in
noncomputable def z_X5_isBarred (σ : ez_H) (h0 : Nat) (x1 : Int32) : Option (Int32) :=
  ez_bd (ez_ob σ 5 h0) fun _ =>
  ez_fix (fun _ _ _ => none) (z_X5_isBarred_2 σ) ez_N h0 x1 (0 : Int32)
set_option maxRecDepth 100000 in
noncomputable def z_X5_keepingCut_51 (σ : ez_H) : Option (Int32 × ez_H) :=
  some ((0 : Int32), σ)
set_option maxRecDepth 100000 in
noncomputable def z_X5_keepingCut_15 (k_15 : ez_H → Nat → Int32 → Int32 → Option (Int32 × ez_H)) (σ : ez_H) (h0 : Nat) (x2 : Int32) (x3 : Int32) : Option (Int32 × ez_H) :=
  if (7776 : Int32) ≤ x3 then (
  z_X5_keepingCut_51  σ
  ) else (
  if x2 = (0 : Int32) then (
  z_X5_keepingCut_51  σ
  ) else (
  ez_bd (z_X5_isBarred σ h0 x2) fun t_28 =>
  if t_28 = (0 : Int32) then (
  some (x2, σ)
  ) else (
  ez_bd (ez_gr σ 5 h0 2) fun t_37 =>
  ez_bd (z_X6_after σ t_37 x2) fun t_41 =>
  ez_let (x3 + 1) fun t_45 =>
  k_15 σ h0 t_41 t_45
  )
  )
  )
set_option maxRecDepth 100000 in
noncomputable def z_X5_keepingCut (σ : ez_H) (h0 : Nat) (x1 : Int32) : Option (Int32 × ez_H) :=
  ez_bd (ez_ob σ 5 h0) fun _ =>
  ez_b2 (z_X5_gatherBars σ h0 x1) fun _ σ =>
  ez_bd (ez_gr σ 5 h0 2) fun t_6 =>
  ez_bd (z_X6_least σ t_6) fun t_9 =>
  ez_fix (fun _ _ _ _ => none) (z_X5_keepingCut_15 ) ez_N σ h0 t_9 (0 : Int32)
set_option maxRecDepth 100000 in
noncomputable def z_X11_keeps_30 (σ : ez_H) (y0 : Int32) : Option (Int32 × ez_H) :=
  some (y0, σ)
set_option maxRecDepth 100000 in
noncomputable def z_X11_keeps (σ : ez_H) (h0 : Nat) (x1 : Int32) : Option (Int32 × ez_H) :=
  ez_bd (ez_ob σ 11 h0) fun _ =>
  ez_bd (ez_gr σ 11 h0 3) fun t_1 =>
  ez_bd (z_X3_hasKey σ t_1 x1) fun t_5 =>
  if t_5 = (0 : Int32) then (
  z_X11_keeps_30  σ (-1 : Int32)
  ) else (
  ez_bd (ez_gr σ 11 h0 4) fun t_12 =>
  ez_bd (ez_gr σ 11 h0 13) fun t_16 =>
  ez_b2 (z_X5_keepingCut σ t_16 x1) fun t_20 σ =>
  ez_bd (z_X6_numberOf σ t_12 t_20) fun t_23 =>
  z_X11_keeps_30  σ t_23
  )
set_option maxRecDepth 100000 in
noncomputable def z_X7_used (σ : ez_H) (h0 : Nat) (x1 : Int32) : Option (Int32) :=
  ez_bd (ez_ob σ 7 h0) fun _ =>
  ez_let ((8 : Int32) + x1) fun t_4 =>
  ez_bd (z_X7_look σ h0 t_4) fun t_5 =>
  some t_5
set_option maxRecDepth 100000 in
noncomputable def z_X11_key (σ : ez_H) (h0 : Nat) (x1 : Int32) (x2 : Int32) : Option (Int32) :=
  ez_bd (ez_ob σ 11 h0) fun _ =>
  ez_bd (ez_gr σ 11 h0 3) fun t_1 =>
  ez_bd (z_X3_hasKey σ t_1 x1) fun t_5 =>
  if t_5 = (0 : Int32) then (
  some (-3 : Int32)
  ) else (
  if x2 = 0 then (
  ez_bd (ez_gr σ 11 h0 4) fun t_45 =>
  ez_bd (ez_gr σ 11 h0 5) fun t_49 =>
  ez_bd (z_X7_bits σ t_49 x1) fun t_53 =>
  ez_bd (z_X6_numberOf σ t_45 t_53) fun t_56 =>
  some t_56
  ) else (
  if x2 = 1 then (
  ez_bd (ez_gr σ 11 h0 5) fun t_61 =>
  ez_bd (z_X7_used σ t_61 x1) fun t_65 =>
  some t_65
  ) else (
  if x2 = 2 then (
  ez_bd (ez_gr σ 11 h0 5) fun t_70 =>
  ez_bd (z_X7_holder σ t_70 x1) fun t_74 =>
  some t_74
  ) else (
  if x2 = 3 then (
  ez_bd (ez_gr σ 11 h0 12) fun t_79 =>
  ez_let ((1 : Int32) <<< (x1 &&& 31)) fun t_84 =>
  ez_bd (z_X2_locksFor σ t_79 t_84) fun t_85 =>
  some t_85
  ) else (
  some (-3 : Int32)
  ))))
  )
set_option maxRecDepth 100000 in
noncomputable def z_X7_putSeed (σ : ez_H) (h0 : Nat) (x1 : Int32) : Option (Unit × ez_H) :=
  ez_bd (ez_ob σ 7 h0) fun _ =>
  ez_b2 (z_X7_put σ h0 (34 : Int32) x1) fun _ σ =>
  some ((), σ)
set_option maxRecDepth 100000 in
noncomputable def z_X6_besideOf_39 (σ : ez_H) (x3 : Int32) (y0 : Int32) : Option (Int32) :=
  ez_let (if x3 < y0 then y0 else x3) fun t_44 =>
  some t_44
set_option maxRecDepth 100000 in
noncomputable def z_X6_besideOf_16 (σ : ez_H) (h0 : Nat) (x1 : Int32) (x2 : Int32) (y0 : Int32) : Option (Int32) :=
  ez_let (x2 + (1 : Int32)) fun t_19 =>
  ez_bd (ez_gi σ 6 h0 0) fun t_21 =>
  if t_21 ≤ t_19 then (
  z_X6_besideOf_39 σ y0 (0 : Int32)
  ) else (
  ez_let (x2 + (1 : Int32)) fun t_31 =>
  ez_bd (z_X6_depthAt σ h0 x1 t_31) fun t_32 =>
  z_X6_besideOf_39 σ y0 t_32
  )
set_option maxRecDepth 100000 in
noncomputable def z_X6_besideOf (σ : ez_H) (h0 : Nat) (x1 : Int32) (x2 : Int32) : Option (Int32) :=
  ez_bd (ez_ob σ 6 h0) fun _ =>
  if x2 ≤ (0 : Int32) then (
  z_X6_besideOf_16 σ h0 x1 x2 (0 : Int32)
  ) else (
  ez_let (x2 - (1 : Int32)) fun t_8 =>
  ez_bd (z_X6_depthAt σ h0 x1 t_8) fun t_9 =>
  z_X6_besideOf_16 σ h0 x1 x2 t_9
  )
set_option maxRecDepth 100000 in
noncomputable def z_X0_truth_9 (σ : ez_H) (y0 : Int32) : Option (Int32) :=
  some y0
set_option maxRecDepth 100000 in
noncomputable def z_X0_truth (σ : ez_H) (x0 : Int32) : Option (Int32) :=
  if x0 = (0 : Int32) then (
  z_X0_truth_9 σ (0 : Int32)
  ) else (
  z_X0_truth_9 σ (1 : Int32)
  )
set_option maxRecDepth 100000 in
noncomputable def z_X0_joined_69 (σ : ez_H) (y0 : Int32) : Option (Int32) :=
  ez_bd (z_X0_truth σ y0) fun t_69 =>
  some t_69
set_option maxRecDepth 100000 in
noncomputable def z_X0_joined_64 (σ : ez_H) : Option (Int32) :=
  z_X0_joined_69 σ (1 : Int32)
set_option maxRecDepth 100000 in
noncomputable def z_X0_joined_86 (σ : ez_H) (y0 : Int32) : Option (Int32) :=
  ez_bd (z_X0_truth σ y0) fun t_86 =>
  some t_86
set_option maxRecDepth 100000 in
noncomputable def z_X0_joined_85 (σ : ez_H) : Option (Int32) :=
  z_X0_joined_86 σ (0 : Int32)
set_option maxRecDepth 100000 in
noncomputable def z_X0_joined_100 (σ : ez_H) (y0 : Int32) : Option (Int32) :=
  ez_bd (z_X0_truth σ y0) fun t_100 =>
  some t_100
set_option maxRecDepth 100000 in
noncomputable def z_X0_joined_114 (σ : ez_H) (y0 : Int32) : Option (Int32) :=
  ez_bd (z_X0_truth σ y0) fun t_114 =>
  some t_114
set_option maxRecDepth 100000 in
noncomputable def z_X0_joined_128 (σ : ez_H) (y0 : Int32) : Option (Int32) :=
  ez_bd (z_X0_truth σ y0) fun t_128 =>
  some t_128
set_option maxRecDepth 100000 in
noncomputable def z_X0_joined_155 (σ : ez_H) (y0 : Int32) : Option (Int32) :=
  some y0
set_option maxRecDepth 100000 in
noncomputable def z_X0_joined_167 (σ : ez_H) (y0 : Int32) : Option (Int32) :=
  some y0
set_option maxRecDepth 100000 in
noncomputable def z_X0_joined (σ : ez_H) (x0 : Int32) (x1 : Int32) (x2 : Int32) : Option (Int32) :=
  if x0 = 6 then (
  if x1 = (0 : Int32) then (
  if x2 = (0 : Int32) then (
  z_X0_joined_69 σ (0 : Int32)
  ) else (
  z_X0_joined_64 σ 
  )
  ) else (
  z_X0_joined_64 σ 
  )
  ) else (
  if x0 = 7 then (
  if x1 = (0 : Int32) then (
  z_X0_joined_85 σ 
  ) else (
  if x2 = (0 : Int32) then (
  z_X0_joined_85 σ 
  ) else (
  z_X0_joined_86 σ (1 : Int32)
  )
  )
  ) else (
  if x0 = 8 then (
  if x2 ≤ x1 then (
  z_X0_joined_100 σ (0 : Int32)
  ) else (
  z_X0_joined_100 σ (1 : Int32)
  )
  ) else (
  if x0 = 9 then (
  if x1 ≤ x2 then (
  z_X0_joined_114 σ (0 : Int32)
  ) else (
  z_X0_joined_114 σ (1 : Int32)
  )
  ) else (
  if x0 = 10 then (
  if x1 = x2 then (
  z_X0_joined_128 σ (1 : Int32)
  ) else (
  z_X0_joined_128 σ (0 : Int32)
  )
  ) else (
  if x0 = 11 then (
  ez_let (x1 + x2) fun t_134 =>
  some t_134
  ) else (
  if x0 = 12 then (
  ez_let (x1 - x2) fun t_138 =>
  some t_138
  ) else (
  if x0 = 13 then (
  ez_let (x1 * x2) fun t_142 =>
  some t_142
  ) else (
  if x0 = 14 then (
  if x2 = (0 : Int32) then (
  z_X0_joined_155 σ (0 : Int32)
  ) else (
  ez_nz x2 <|
  ez_let (x1 / x2) fun t_154 =>
  z_X0_joined_155 σ t_154
  )
  ) else (
  if x0 = 15 then (
  if x2 = (0 : Int32) then (
  z_X0_joined_167 σ (0 : Int32)
  ) else (
  ez_nz x2 <|
  ez_let (x1 - x1 / x2 * x2) fun t_166 =>
  z_X0_joined_167 σ t_166
  )
  ) else (
  some (0 : Int32)
  ))))))))))
set_option maxRecDepth 100000 in
noncomputable def z_X0_unitValue (σ : ez_H) (x0 : Int32) (x1 : Int32) (x2 : Int32) (x3 : Int32) (x4 : Int32) (x5 : Int32) : Option (Int32) :=
  if x0 = 1 then (
  some x2
  ) else (
  if x0 = 2 then (
  some x3
  ) else (
  if x0 = 3 then (
  some x4
  ) else (
  if x0 = 4 then (
  some x5
  ) else (
  some x1
  ))))
set_option maxRecDepth 100000 in
noncomputable def z_X0_value_191 (σ : ez_H) (y0 : Int32) : Option (Int32 × ez_H) :=
  some (y0, σ)
set_option maxRecDepth 100000 in
noncomputable def z_X0_value_173 (σ : ez_H) (h0 : Nat) (x5 : Int32) : Option (Int32 × ez_H) :=
  if x5 ≤ (0 : Int32) then (
  z_X0_value_191  σ (0 : Int32)
  ) else (
  ez_bd (ez_gr σ 0 h0 4) fun t_179 =>
  ez_let (x5 - (1 : Int32)) fun t_185 =>
  ez_bd (ez_ia σ 1 t_179 t_185) fun t_186 =>
  z_X0_value_191  σ t_186
  )
set_option maxRecDepth 100000 in
noncomputable def z_X0_value_167 (k_6 : ez_H → Nat → Int32 → Int32 → Int32 → Int32 → Int32 → Int32 → Option (Int32 × ez_H)) (σ : ez_H) (h0 : Nat) (x1 : Int32) (x2 : Int32) (x3 : Int32) (x4 : Int32) (x5 : Int32) (x6 : Int32) : Option (Int32 × ez_H) :=
  ez_let (x6 + 1) fun t_167 =>
  k_6 σ h0 x1 x2 x3 x4 x5 t_167
set_option maxRecDepth 100000 in
noncomputable def z_X0_value_124 (k_6 : ez_H → Nat → Int32 → Int32 → Int32 → Int32 → Int32 → Int32 → Option (Int32 × ez_H)) (σ : ez_H) (h0 : Nat) (x1 : Int32) (x2 : Int32) (x3 : Int32) (x4 : Int32) (x5 : Int32) (x6 : Int32) (x7 : Int32) : Option (Int32 × ez_H) :=
  if (5 : Int32) ≤ x7 then (
  z_X0_value_167 k_6 σ h0 x1 x2 x3 x4 x5 x6
  ) else (
  ez_bd (ez_gr σ 0 h0 4) fun t_133 =>
  ez_bd (ez_ln σ 1 t_133) fun t_136 =>
  if t_136 ≤ x5 then (
  z_X0_value_167 k_6 σ h0 x1 x2 x3 x4 x5 x6
  ) else (
  ez_bd (ez_gr σ 0 h0 4) fun t_141 =>
  ez_bd (ez_gr σ 0 h0 3) fun t_149 =>
  ez_bd (ez_ia σ 1 t_149 x6) fun t_154 =>
  ez_bd (z_X0_unitValue σ x7 t_154 x1 x2 x3 x4) fun t_160 =>
  ez_bd (ez_is σ 1 t_141 x5 t_160) fun σ =>
  ez_let (x5 + 1) fun t_164 =>
  z_X0_value_167 k_6 σ h0 x1 x2 x3 x4 t_164 x6
  )
  )
set_option maxRecDepth 100000 in
noncomputable def z_X0_value_117 (k_6 : ez_H → Nat → Int32 → Int32 → Int32 → Int32 → Int32 → Int32 → Option (Int32 × ez_H)) (σ : ez_H) (h0 : Nat) (x1 : Int32) (x2 : Int32) (x3 : Int32) (x4 : Int32) (x5 : Int32) (x6 : Int32) (y0 : Nat) (y1 : Int32) (y2 : Int32) : Option (Int32 × ez_H) :=
  ez_bd (z_X0_truth σ y2) fun t_117 =>
  ez_bd (ez_is σ 1 y0 y1 t_117) fun σ =>
  z_X0_value_167 k_6 σ h0 x1 x2 x3 x4 x5 x6
set_option maxRecDepth 100000 in
noncomputable def z_X0_value_80 (k_6 : ez_H → Nat → Int32 → Int32 → Int32 → Int32 → Int32 → Int32 → Option (Int32 × ez_H)) (σ : ez_H) (h0 : Nat) (x1 : Int32) (x2 : Int32) (x3 : Int32) (x4 : Int32) (x5 : Int32) (x6 : Int32) (x7 : Int32) : Option (Int32 × ez_H) :=
  if x7 = (5 : Int32) then (
  if x5 < (1 : Int32) then (
  z_X0_value_124 k_6 σ h0 x1 x2 x3 x4 x5 x6 x7
  ) else (
  ez_bd (ez_gr σ 0 h0 4) fun t_93 =>
  ez_let (x5 - (1 : Int32)) fun t_99 =>
  ez_bd (ez_gr σ 0 h0 4) fun t_101 =>
  ez_let (x5 - (1 : Int32)) fun t_107 =>
  ez_bd (ez_ia σ 1 t_101 t_107) fun t_108 =>
  if t_108 = (0 : Int32) then (
  z_X0_value_117 k_6 σ h0 x1 x2 x3 x4 x5 x6 t_93 t_99 (1 : Int32)
  ) else (
  z_X0_value_117 k_6 σ h0 x1 x2 x3 x4 x5 x6 t_93 t_99 (0 : Int32)
  )
  )
  ) else (
  z_X0_value_124 k_6 σ h0 x1 x2 x3 x4 x5 x6 x7
  )
set_option maxRecDepth 100000 in
noncomputable def z_X0_value_6 (k_6 : ez_H → Nat → Int32 → Int32 → Int32 → Int32 → Int32 → Int32 → Option (Int32 × ez_H)) (σ : ez_H) (h0 : Nat) (x1 : Int32) (x2 : Int32) (x3 : Int32) (x4 : Int32) (x5 : Int32) (x6 : Int32) : Option (Int32 × ez_H) :=
  ez_bd (ez_gi σ 0 h0 1) fun t_9 =>
  if t_9 ≤ x6 then (
  z_X0_value_173  σ h0 x5
  ) else (
  if (270 : Int32) ≤ x6 then (
  z_X0_value_173  σ h0 x5
  ) else (
  ez_bd (ez_gr σ 0 h0 2) fun t_24 =>
  ez_bd (ez_ia σ 1 t_24 x6) fun t_29 =>
  if t_29 ≤ (5 : Int32) then (
  z_X0_value_80 k_6 σ h0 x1 x2 x3 x4 x5 x6 t_29
  ) else (
  if x5 < (2 : Int32) then (
  z_X0_value_80 k_6 σ h0 x1 x2 x3 x4 x5 x6 t_29
  ) else (
  ez_let (x5 + (-1)) fun t_44 =>
  ez_bd (ez_gr σ 0 h0 4) fun t_48 =>
  ez_let (t_44 - (1 : Int32)) fun t_54 =>
  ez_bd (ez_gr σ 0 h0 4) fun t_58 =>
  ez_let (t_44 - (1 : Int32)) fun t_64 =>
  ez_bd (ez_ia σ 1 t_58 t_64) fun t_65 =>
  ez_bd (ez_gr σ 0 h0 4) fun t_67 =>
  ez_bd (ez_ia σ 1 t_67 t_44) fun t_72 =>
  ez_bd (z_X0_joined σ t_29 t_65 t_72) fun t_73 =>
  ez_bd (ez_is σ 1 t_48 t_54 t_73) fun σ =>
  z_X0_value_167 k_6 σ h0 x1 x2 x3 x4 t_44 x6
  )
  )
  )
  )
set_option maxRecDepth 100000 in
noncomputable def z_X0_value (σ : ez_H) (h0 : Nat) (x1 : Int32) (x2 : Int32) (x3 : Int32) (x4 : Int32) : Option (Int32 × ez_H) :=
  ez_bd (ez_ob σ 0 h0) fun _ =>
  ez_fix (fun _ _ _ _ _ _ _ _ => none) (z_X0_value_6 ) ez_N σ h0 x1 x2 x3 x4 (0 : Int32) (0 : Int32)
set_option maxRecDepth 100000 in
noncomputable def z_X7_putUsed (σ : ez_H) (h0 : Nat) (x1 : Int32) (x2 : Int32) : Option (Unit × ez_H) :=
  ez_bd (ez_ob σ 7 h0) fun _ =>
  ez_let ((8 : Int32) + x1) fun t_4 =>
  ez_b2 (z_X7_put σ h0 t_4 x2) fun _ σ =>
  some ((), σ)
set_option maxRecDepth 100000 in
noncomputable def z_X11_useOnce_118 (σ : ez_H) (h1 : Nat) (x2 : Int32) : Option (Unit × ez_H) :=
  ez_bd (z_X7_used σ h1 x2) fun t_122 =>
  ez_let (t_122 + (1 : Int32)) fun t_126 =>
  ez_b2 (z_X7_putUsed σ h1 x2 t_126) fun _ σ =>
  some ((), σ)
set_option maxRecDepth 100000 in
noncomputable def z_X11_useOnce (σ : ez_H) (h0 : Nat) (h1 : Nat) (x2 : Int32) : Option (Unit × ez_H) :=
  ez_bd (ez_ob σ 11 h0) fun _ =>
  ez_bd (z_X7_seed σ h1) fun t_1 =>
  ez_let (t_1 * (137 : Int32)) fun t_7 =>
  ez_let (t_7 + (71 : Int32)) fun t_10 =>
  ez_nz (1000 : Int32) <|
  ez_let (t_10 - t_10 / (1000 : Int32) * (1000 : Int32)) fun t_14 =>
  ez_b2 (z_X7_putSeed σ h1 t_14) fun _ σ =>
  ez_bd (z_X7_bits σ h1 x2) fun t_23 =>
  ez_bd (ez_gr σ 11 h0 4) fun t_31 =>
  ez_bd (ez_gi σ 6 t_31 0) fun t_34 =>
  ez_let (if (1 : Int32) < t_34 then t_34 else (1 : Int32)) fun t_37 =>
  ez_nz t_37 <|
  ez_let (t_14 - t_14 / t_37 * t_37) fun t_40 =>
  ez_bd (ez_gr σ 11 h0 3) fun t_44 =>
  ez_bd (ez_gr σ 3 t_44 1) fun t_47 =>
  ez_bd (ez_gr σ 11 h0 4) fun t_51 =>
  ez_bd (z_X6_depthAt σ t_51 t_23 t_40) fun t_58 =>
  ez_bd (ez_gr σ 11 h0 4) fun t_62 =>
  ez_bd (z_X6_besideOf σ t_62 t_23 t_40) fun t_69 =>
  ez_bd (z_X7_used σ h1 x2) fun t_74 =>
  ez_b2 (z_X0_value σ t_47 t_58 t_69 t_74 t_40) fun t_79 σ =>
  ez_nz (10 : Int32) <|
  ez_let (t_14 / (10 : Int32)) fun t_87 =>
  if t_79 ≤ t_87 then (
  z_X11_useOnce_118  σ h1 x2
  ) else (
  ez_bd (ez_gr σ 11 h0 4) fun t_94 =>
  ez_bd (z_X6_deeper σ t_94 t_23 t_40) fun t_101 =>
  if t_101 = (0 : Int32) then (
  z_X11_useOnce_118  σ h1 x2
  ) else (
  ez_b2 (z_X7_putBits σ h1 x2 t_101) fun _ σ =>
  z_X11_useOnce_118  σ h1 x2
  )
  )
set_option maxRecDepth 100000 in
noncomputable def z_X11_lasts_22 (σ : ez_H) : Option (Int32 × ez_H) :=
  some ((-1 : Int32), σ)
set_option maxRecDepth 100000 in
noncomputable def z_X11_lasts_37 (k_37 : ez_H → Nat → Int32 → Int32 → Int32 → Option (Int32 × ez_H)) (σ : ez_H) (h0 : Nat) (x1 : Int32) (x2 : Int32) (x3 : Int32) : Option (Int32 × ez_H) :=
  if (200 : Int32) < x3 then (
  some ((-1 : Int32), σ)
  ) else (
  ez_bd (ez_gr σ 11 h0 6) fun t_45 =>
  ez_bd (z_X7_bits σ t_45 x1) fun t_49 =>
  ez_bd (ez_gr σ 11 h0 6) fun t_53 =>
  ez_bd (z_X7_pins σ t_53 x2) fun t_57 =>
  ez_bd (z_X6_fitsIn σ t_49 t_57) fun t_60 =>
  if t_60 = (0 : Int32) then (
  some (x3, σ)
  ) else (
  ez_bd (ez_gr σ 11 h0 6) fun t_70 =>
  ez_b2 (z_X11_useOnce σ h0 t_70 x1) fun _ σ =>
  ez_let (x3 + 1) fun t_77 =>
  k_37 σ h0 x1 x2 t_77
  )
  )
set_option maxRecDepth 100000 in
noncomputable def z_X11_lasts (σ : ez_H) (h0 : Nat) (x1 : Int32) (x2 : Int32) : Option (Int32 × ez_H) :=
  ez_bd (ez_ob σ 11 h0) fun _ =>
  ez_bd (ez_gr σ 11 h0 3) fun t_1 =>
  ez_bd (z_X3_hasKey σ t_1 x1) fun t_5 =>
  if t_5 = (0 : Int32) then (
  z_X11_lasts_22  σ
  ) else (
  ez_bd (ez_gr σ 11 h0 3) fun t_12 =>
  ez_bd (z_X3_hasLock σ t_12 x2) fun t_16 =>
  if t_16 = (0 : Int32) then (
  z_X11_lasts_22  σ
  ) else (
  ez_bd (ez_gr σ 11 h0 6) fun t_25 =>
  ez_bd (ez_gr σ 11 h0 5) fun t_29 =>
  ez_b2 (z_X7_copyFrom σ t_25 t_29) fun _ σ =>
  ez_fix (fun _ _ _ _ _ => none) (z_X11_lasts_37 ) ez_N σ h0 x1 x2 (0 : Int32)
  )
  )
set_option maxRecDepth 100000 in
noncomputable def z_X10_goOn_22 (σ : ez_H) : Option (Int32 × ez_H) :=
  some ((-1 : Int32), σ)
set_option maxRecDepth 100000 in
noncomputable def z_X10_goOn (σ : ez_H) (h0 : Nat) (x1 : Int32) : Option (Int32 × ez_H) :=
  ez_bd (ez_ob σ 10 h0) fun _ =>
  if x1 < (0 : Int32) then (
  z_X10_goOn_22  σ
  ) else (
  if (1000 : Int32) < x1 then (
  z_X10_goOn_22  σ
  ) else (
  ez_bd (ez_gi σ 10 h0 5) fun t_12 =>
  ez_let (t_12 + x1) fun t_16 =>
  if t_16 ≤ (100000 : Int32) then (
  ez_bd (ez_gi σ 10 h0 5) fun t_26 =>
  ez_let (t_26 + x1) fun t_30 =>
  ez_bd (ez_pf σ 10 h0 5 (.inl t_30)) fun σ =>
  ez_bd (ez_gi σ 10 h0 5) fun t_35 =>
  some (t_35, σ)
  ) else (
  z_X10_goOn_22  σ
  )
  )
  )
set_option maxRecDepth 100000 in
noncomputable def z_X11_later (σ : ez_H) (h0 : Nat) (x1 : Int32) : Option (Int32 × ez_H) :=
  ez_bd (ez_ob σ 11 h0) fun _ =>
  ez_bd (ez_gr σ 11 h0 14) fun t_1 =>
  ez_b2 (z_X10_goOn σ t_1 x1) fun t_5 σ =>
  some (t_5, σ)
set_option maxRecDepth 100000 in
noncomputable def z_X11_law_28 (σ : ez_H) (y0 : Int32) : Option (Int32 × ez_H) :=
  some (y0, σ)
set_option maxRecDepth 100000 in
noncomputable def z_X11_law_9 (σ : ez_H) : Option (Int32 × ez_H) :=
  z_X11_law_28  σ (-1 : Int32)
set_option maxRecDepth 100000 in
noncomputable def z_X11_law (σ : ez_H) (h0 : Nat) (x1 : Int32) : Option (Int32 × ez_H) :=
  ez_bd (ez_ob σ 11 h0) fun _ =>
  if x1 < (0 : Int32) then (
  z_X11_law_9  σ
  ) else (
  if x1 ≤ (5 : Int32) then (
  ez_bd (ez_gr σ 11 h0 4) fun t_14 =>
  ez_bd (ez_gr σ 11 h0 4) fun t_18 =>
  ez_bd (z_X6_everything σ t_18) fun t_21 =>
  ez_b2 (z_X6_howMany σ t_14 t_21 x1) fun t_25 σ =>
  z_X11_law_28  σ t_25
  ) else (
  z_X11_law_9  σ
  )
  )
set_option maxRecDepth 100000 in
noncomputable def z_X5_stillOpened_62 (σ : ez_H) (k_4 : Nat → Int32 → Int32 → Int32 → Option (Int32)) (h0 : Nat) (x1 : Int32) (x2 : Int32) (x3 : Int32) : Option (Int32) :=
  ez_let (x3 + 1) fun t_62 =>
  k_4 h0 x1 x2 t_62
set_option maxRecDepth 100000 in
noncomputable def z_X5_stillOpened_4 (σ : ez_H) (k_4 : Nat → Int32 → Int32 → Int32 → Option (Int32)) (h0 : Nat) (x1 : Int32) (x2 : Int32) (x3 : Int32) : Option (Int32) :=
  ez_bd (ez_gr σ 5 h0 0) fun t_6 =>
  ez_bd (ez_gi σ 3 t_6 4) fun t_9 =>
  if t_9 ≤ x3 then (
  some x2
  ) else (
  ez_bd (ez_gr σ 5 h0 0) fun t_16 =>
  ez_bd (z_X3_mustOf σ t_16 x3) fun t_20 =>
  ez_let ((1 : Int32) <<< (x1 &&& 31)) fun t_25 =>
  ez_let (t_25 ^^^ (-1 : Int32)) fun t_27 =>
  ez_let (t_20 &&& t_27) fun t_28 =>
  if t_28 = (0 : Int32) then (
  z_X5_stillOpened_62 σ k_4 h0 x1 x2 x3
  ) else (
  ez_bd (ez_gr σ 5 h0 1) fun t_37 =>
  ez_bd (z_X7_bits σ t_37 x1) fun t_41 =>
  ez_bd (z_X5_pinsFor σ h0 t_28) fun t_47 =>
  ez_bd (z_X6_fitsIn σ t_41 t_47) fun t_50 =>
  if t_50 = (0 : Int32) then (
  z_X5_stillOpened_62 σ k_4 h0 x1 x2 x3
  ) else (
  ez_let ((1 : Int32) <<< (x3 &&& 31)) fun t_59 =>
  ez_let (x2 ||| t_59) fun t_60 =>
  z_X5_stillOpened_62 σ k_4 h0 x1 t_60 x3
  )
  )
  )
set_option maxRecDepth 100000 in
noncomputable def z_X5_stillOpened (σ : ez_H) (h0 : Nat) (x1 : Int32) : Option (Int32) :=
  ez_bd (ez_ob σ 5 h0) fun _ =>
  ez_fix (fun _ _ _ _ => none) (z_X5_stillOpened_4 σ) ez_N h0 x1 (0 : Int32) (0 : Int32)
set_option maxRecDepth 100000 in
noncomputable def z_X11_leftOver_23 (σ : ez_H) (y0 : Int32) : Option (Int32) :=
  some y0
set_option maxRecDepth 100000 in
noncomputable def z_X11_leftOver (σ : ez_H) (h0 : Nat) (x1 : Int32) : Option (Int32) :=
  ez_bd (ez_ob σ 11 h0) fun _ =>
  ez_bd (ez_gr σ 11 h0 3) fun t_1 =>
  ez_bd (z_X3_hasKey σ t_1 x1) fun t_5 =>
  if t_5 = (0 : Int32) then (
  z_X11_leftOver_23 σ (-1 : Int32)
  ) else (
  ez_bd (ez_gr σ 11 h0 13) fun t_12 =>
  ez_bd (z_X5_stillOpened σ t_12 x1) fun t_16 =>
  z_X11_leftOver_23 σ t_16
  )
set_option maxRecDepth 100000 in
noncomputable def z_X11_legal (σ : ez_H) (h0 : Nat) : Option (Int32 × ez_H) :=
  ez_bd (ez_ob σ 11 h0) fun _ =>
  ez_bd (ez_gr σ 11 h0 4) fun t_1 =>
  ez_bd (ez_gr σ 11 h0 4) fun t_5 =>
  ez_bd (z_X6_everything σ t_5) fun t_8 =>
  ez_bd (ez_gr σ 11 h0 4) fun t_12 =>
  ez_bd (ez_gi σ 6 t_12 2) fun t_15 =>
  ez_b2 (z_X6_howMany σ t_1 t_8 t_15) fun t_18 σ =>
  some (t_18, σ)
set_option maxRecDepth 100000 in
noncomputable def z_X2_pathDoor_32 (σ : ez_H) (y0 : Int32) : Option (Int32) :=
  some y0
set_option maxRecDepth 100000 in
noncomputable def z_X2_pathDoor_30 (σ : ez_H) : Option (Int32) :=
  z_X2_pathDoor_32 σ (-2 : Int32)
set_option maxRecDepth 100000 in
noncomputable def z_X2_pathDoor (σ : ez_H) (h0 : Nat) (x1 : Int32) : Option (Int32) :=
  ez_bd (ez_ob σ 2 h0) fun _ =>
  if x1 < (0 : Int32) then (
  z_X2_pathDoor_30 σ 
  ) else (
  ez_bd (ez_gi σ 2 h0 5) fun t_6 =>
  if t_6 ≤ x1 then (
  z_X2_pathDoor_30 σ 
  ) else (
  ez_bd (ez_gr σ 2 h0 4) fun t_14 =>
  ez_bd (ez_ln σ 1 t_14) fun t_17 =>
  if t_17 ≤ x1 then (
  z_X2_pathDoor_30 σ 
  ) else (
  ez_bd (ez_gr σ 2 h0 4) fun t_22 =>
  ez_bd (ez_ia σ 1 t_22 x1) fun t_26 =>
  z_X2_pathDoor_32 σ t_26
  )
  )
  )
set_option maxRecDepth 100000 in
noncomputable def z_X11_lies (σ : ez_H) (h0 : Nat) (x1 : Int32) : Option (Int32) :=
  ez_bd (ez_ob σ 11 h0) fun _ =>
  ez_bd (ez_gr σ 11 h0 12) fun t_1 =>
  ez_bd (z_X2_pathDoor σ t_1 x1) fun t_5 =>
  some t_5
set_option maxRecDepth 100000 in
noncomputable def z_X2_keysFor_43 (σ : ez_H) (k_4 : Nat → Int32 → Int32 → Int32 → Option (Int32)) (h0 : Nat) (x1 : Int32) (x2 : Int32) (x3 : Int32) : Option (Int32) :=
  ez_let (x3 + 1) fun t_43 =>
  k_4 h0 x1 x2 t_43
set_option maxRecDepth 100000 in
noncomputable def z_X2_keysFor_4 (σ : ez_H) (k_4 : Nat → Int32 → Int32 → Int32 → Option (Int32)) (h0 : Nat) (x1 : Int32) (x2 : Int32) (x3 : Int32) : Option (Int32) :=
  ez_bd (ez_gr σ 2 h0 0) fun t_6 =>
  ez_bd (ez_gi σ 3 t_6 3) fun t_9 =>
  if t_9 ≤ x3 then (
  some x2
  ) else (
  ez_bd (ez_gr σ 2 h0 1) fun t_16 =>
  ez_bd (z_X7_bits σ t_16 x3) fun t_20 =>
  ez_bd (ez_gr σ 2 h0 1) fun t_24 =>
  ez_bd (z_X7_pins σ t_24 x1) fun t_28 =>
  ez_bd (z_X6_fitsIn σ t_20 t_28) fun t_31 =>
  if t_31 = (0 : Int32) then (
  z_X2_keysFor_43 σ k_4 h0 x1 x2 x3
  ) else (
  ez_let ((1 : Int32) <<< (x3 &&& 31)) fun t_40 =>
  ez_let (x2 ||| t_40) fun t_41 =>
  z_X2_keysFor_43 σ k_4 h0 x1 t_41 x3
  )
  )
set_option maxRecDepth 100000 in
noncomputable def z_X2_keysFor (σ : ez_H) (h0 : Nat) (x1 : Int32) : Option (Int32) :=
  ez_bd (ez_ob σ 2 h0) fun _ =>
  ez_fix (fun _ _ _ _ => none) (z_X2_keysFor_4 σ) ez_N h0 x1 (0 : Int32) (0 : Int32)
set_option maxRecDepth 100000 in
noncomputable def z_X11_lock (σ : ez_H) (h0 : Nat) (x1 : Int32) (x2 : Int32) : Option (Int32) :=
  ez_bd (ez_ob σ 11 h0) fun _ =>
  ez_bd (ez_gr σ 11 h0 3) fun t_1 =>
  ez_bd (z_X3_hasLock σ t_1 x1) fun t_5 =>
  if t_5 = (0 : Int32) then (
  some (-1 : Int32)
  ) else (
  if x2 = 0 then (
  ez_bd (ez_gr σ 11 h0 5) fun t_45 =>
  ez_bd (z_X7_pins σ t_45 x1) fun t_49 =>
  ez_bd (z_J6_bitCount_0f7a4 σ t_49) fun t_52 =>
  some t_52
  ) else (
  if x2 = 1 then (
  ez_bd (ez_gr σ 11 h0 12) fun t_57 =>
  ez_bd (z_X2_keysFor σ t_57 x1) fun t_61 =>
  some t_61
  ) else (
  if x2 = 2 then (
  ez_bd (ez_gr σ 11 h0 3) fun t_66 =>
  ez_bd (z_X3_mustOf σ t_66 x1) fun t_70 =>
  some t_70
  ) else (
  if x2 = 3 then (
  ez_bd (ez_gr σ 11 h0 3) fun t_75 =>
  ez_bd (z_X3_neverOf σ t_75 x1) fun t_79 =>
  some t_79
  ) else (
  some (-1 : Int32)
  ))))
  )
set_option maxRecDepth 100000 in
noncomputable def z_X11_lose_24 (σ : ez_H) : Option (Int32 × ez_H) :=
  some ((-3 : Int32), σ)
set_option maxRecDepth 100000 in
noncomputable def z_X11_lose (σ : ez_H) (h0 : Nat) (x1 : Int32) : Option (Int32 × ez_H) :=
  ez_bd (ez_ob σ 11 h0) fun _ =>
  ez_bd (ez_gr σ 11 h0 3) fun t_1 =>
  ez_bd (z_X3_hasKey σ t_1 x1) fun t_5 =>
  if t_5 = (0 : Int32) then (
  z_X11_lose_24  σ
  ) else (
  ez_bd (ez_gr σ 11 h0 5) fun t_12 =>
  ez_bd (z_X7_holder σ t_12 x1) fun t_16 =>
  if t_16 = (-2 : Int32) then (
  z_X11_lose_24  σ
  ) else (
  ez_b2 (z_X11_handOver σ h0 x1 (-2 : Int32)) fun t_31 σ =>
  some (t_31, σ)
  )
  )
set_option maxRecDepth 100000 in
noncomputable def z_X8_isBetter_38 (σ : ez_H) (y0 : Int32) : Option (Int32) :=
  ez_nr .boolean y0 <|
  some y0
set_option maxRecDepth 100000 in
noncomputable def z_X8_isBetter_33 (σ : ez_H) : Option (Int32) :=
  z_X8_isBetter_38 σ (1 : Int32)
set_option maxRecDepth 100000 in
noncomputable def z_X8_isBetter_37 (σ : ez_H) : Option (Int32) :=
  z_X8_isBetter_38 σ (0 : Int32)
set_option maxRecDepth 100000 in
noncomputable def z_X8_isBetter (σ : ez_H) (h0 : Nat) (x1 : Int32) (x2 : Int32) : Option (Int32) :=
  ez_bd (ez_ob σ 8 h0) fun _ =>
  ez_bd (z_J6_bitCount_0f7a4 σ x1) fun t_1 =>
  ez_bd (z_J6_bitCount_0f7a4 σ x2) fun t_5 =>
  ez_let (t_1 - t_5) fun t_8 =>
  if (0 : Int32) < t_8 then (
  z_X8_isBetter_33 σ 
  ) else (
  if t_8 = (0 : Int32) then (
  ez_bd (ez_gr σ 8 h0 11) fun t_19 =>
  ez_bd (ez_ia σ 1 t_19 x1) fun t_23 =>
  ez_bd (ez_gr σ 8 h0 11) fun t_25 =>
  ez_bd (ez_ia σ 1 t_25 x2) fun t_29 =>
  if t_29 ≤ t_23 then (
  z_X8_isBetter_37 σ 
  ) else (
  z_X8_isBetter_33 σ 
  )
  ) else (
  z_X8_isBetter_37 σ 
  )
  )
set_option maxRecDepth 100000 in
noncomputable def z_X8_masterLocks_36 (σ : ez_H) (k_4 : Nat → Int32 → Int32 → Option (Int32)) (h0 : Nat) (x1 : Int32) (x2 : Int32) : Option (Int32) :=
  ez_let (x2 + 1) fun t_36 =>
  k_4 h0 x1 t_36
set_option maxRecDepth 100000 in
noncomputable def z_X8_masterLocks_34 (σ : ez_H) (k_4 : Nat → Int32 → Int32 → Option (Int32)) (h0 : Nat) (x2 : Int32) : Option (Int32) :=
  z_X8_masterLocks_36 σ k_4 h0 x2 x2
set_option maxRecDepth 100000 in
noncomputable def z_X8_masterLocks_4 (σ : ez_H) (k_4 : Nat → Int32 → Int32 → Option (Int32)) (h0 : Nat) (x1 : Int32) (x2 : Int32) : Option (Int32) :=
  if (64 : Int32) ≤ x2 then (
  ez_let (if (0 : Int32) < x1 then x1 else (0 : Int32)) fun t_44 =>
  some t_44
  ) else (
  ez_bd (z_X8_isSuch σ h0 x2 (0 : Int32) (0 : Int32)) fun t_14 =>
  if t_14 = (0 : Int32) then (
  z_X8_masterLocks_36 σ k_4 h0 x1 x2
  ) else (
  if x1 = (-1 : Int32) then (
  z_X8_masterLocks_34 σ k_4 h0 x2
  ) else (
  ez_bd (z_X8_isBetter σ h0 x2 x1) fun t_28 =>
  if t_28 = (0 : Int32) then (
  z_X8_masterLocks_36 σ k_4 h0 x1 x2
  ) else (
  z_X8_masterLocks_34 σ k_4 h0 x2
  )
  )
  )
  )
set_option maxRecDepth 100000 in
noncomputable def z_X8_masterLocks (σ : ez_H) (h0 : Nat) : Option (Int32) :=
  ez_bd (ez_ob σ 8 h0) fun _ =>
  ez_fix (fun _ _ _ => none) (z_X8_masterLocks_4 σ) ez_N h0 (-1 : Int32) (0 : Int32)
set_option maxRecDepth 100000 in
noncomputable def z_X11_master (σ : ez_H) (h0 : Nat) (x1 : Int32) : Option (Int32 × ez_H) :=
  ez_bd (ez_ob σ 11 h0) fun _ =>
  ez_bd (ez_gr σ 11 h0 10) fun t_1 =>
  ez_bd (ez_gr σ 11 h0 5) fun t_5 =>
  ez_b2 (z_X8_take σ t_1 t_5) fun _ σ =>
  ez_bd (ez_gr σ 11 h0 10) fun t_12 =>
  ez_bd (z_X8_masterLocks σ t_12) fun t_15 =>
  if x1 = 0 then (
  ez_bd (ez_gr σ 11 h0 10) fun t_49 =>
  ez_bd (z_X8_leastNumber σ t_49 t_15 (0 : Int32)) fun t_54 =>
  some (t_54, σ)
  ) else (
  if x1 = 1 then (
  ez_bd (z_J6_bitCount_0f7a4 σ t_15) fun t_59 =>
  some (t_59, σ)
  ) else (
  if x1 = 2 then (
  some (t_15, σ)
  ) else (
  some ((-1 : Int32), σ)
  )))
set_option maxRecDepth 100000 in
noncomputable def z_X11_commonDivisor_34 (σ : ez_H) (x2 : Int32) : Option (Int32) :=
  some x2
set_option maxRecDepth 100000 in
noncomputable def z_X11_commonDivisor_7 (σ : ez_H) (k_7 : Int32 → Int32 → Int32 → Option (Int32)) (x2 : Int32) (x3 : Int32) (x4 : Int32) : Option (Int32) :=
  if (64 : Int32) ≤ x4 then (
  z_X11_commonDivisor_34 σ x2
  ) else (
  if x3 = (0 : Int32) then (
  z_X11_commonDivisor_34 σ x2
  ) else (
  ez_nz x3 <|
  ez_let (x2 - x2 / x3 * x3) fun t_20 =>
  ez_let (x4 + 1) fun t_28 =>
  k_7 x3 t_20 t_28
  )
  )
set_option maxRecDepth 100000 in
noncomputable def z_X11_commonDivisor (σ : ez_H) (x0 : Int32) (x1 : Int32) : Option (Int32) :=
  ez_fix (fun _ _ _ => none) (z_X11_commonDivisor_7 σ) ez_N x0 x1 (0 : Int32)
set_option maxRecDepth 100000 in
noncomputable def z_X11_odds_20 (σ : ez_H) : Option (Int32 × ez_H) :=
  some ((-1 : Int32), σ)
set_option maxRecDepth 100000 in
noncomputable def z_X11_odds_90 (σ : ez_H) (x5 : Int32) (y0 : Int32) : Option (Int32 × ez_H) :=
  ez_nz x5 <|
  ez_let (y0 / x5) fun t_92 =>
  some (t_92, σ)
set_option maxRecDepth 100000 in
noncomputable def z_X11_odds (σ : ez_H) (h0 : Nat) (x1 : Int32) (x2 : Int32) : Option (Int32 × ez_H) :=
  ez_bd (ez_ob σ 11 h0) fun _ =>
  ez_bd (ez_gr σ 11 h0 3) fun t_1 =>
  ez_bd (z_X3_hasLock σ t_1 x1) fun t_5 =>
  if t_5 = (0 : Int32) then (
  z_X11_odds_20  σ
  ) else (
  if x2 < (0 : Int32) then (
  z_X11_odds_20  σ
  ) else (
  if x2 ≤ (1 : Int32) then (
  ez_bd (ez_gr σ 11 h0 4) fun t_23 =>
  ez_bd (ez_gr σ 11 h0 5) fun t_27 =>
  ez_bd (z_X7_pins σ t_27 x1) fun t_31 =>
  ez_bd (ez_gr σ 11 h0 4) fun t_35 =>
  ez_bd (ez_gi σ 6 t_35 2) fun t_38 =>
  ez_b2 (z_X6_howMany σ t_23 t_31 t_38) fun t_41 σ =>
  ez_bd (ez_gr σ 11 h0 4) fun t_46 =>
  ez_bd (ez_gr σ 11 h0 4) fun t_50 =>
  ez_bd (z_X6_everything σ t_50) fun t_53 =>
  ez_bd (ez_gr σ 11 h0 4) fun t_57 =>
  ez_bd (ez_gi σ 6 t_57 2) fun t_60 =>
  ez_b2 (z_X6_howMany σ t_46 t_53 t_60) fun t_63 σ =>
  ez_bd (z_X11_commonDivisor σ t_41 t_63) fun t_72 =>
  ez_let (if (1 : Int32) < t_72 then t_72 else (1 : Int32)) fun t_75 =>
  if x2 = (0 : Int32) then (
  z_X11_odds_90  σ t_75 t_41
  ) else (
  z_X11_odds_90  σ t_75 t_63
  )
  ) else (
  z_X11_odds_20  σ
  )
  )
  )
set_option maxRecDepth 100000 in
noncomputable def z_X6_bitsOf_75 (σ : ez_H) (y0 : Int32) : Option (Int32) :=
  some y0
set_option maxRecDepth 100000 in
noncomputable def z_X6_bitsOf_74 (σ : ez_H) : Option (Int32) :=
  z_X6_bitsOf_75 σ (0 : Int32)
set_option maxRecDepth 100000 in
noncomputable def z_X6_bitsOf_22 (σ : ez_H) (k_22 : Nat → Int32 → Int32 → Int32 → Int32 → Int32 → Option (Int32)) (h0 : Nat) (x1 : Int32) (x2 : Int32) (x3 : Int32) (x4 : Int32) (x5 : Int32) : Option (Int32) :=
  if x5 < (0 : Int32) then (
  if x1 < (0 : Int32) then (
  z_X6_bitsOf_74 σ 
  ) else (
  if x2 = (0 : Int32) then (
  ez_bd (z_X6_isLegal σ h0 x3) fun t_64 =>
  if t_64 = (0 : Int32) then (
  z_X6_bitsOf_74 σ 
  ) else (
  z_X6_bitsOf_75 σ x3
  )
  ) else (
  z_X6_bitsOf_74 σ 
  )
  )
  ) else (
  ez_nz x4 <|
  ez_let (x2 - x2 / x4 * x4) fun t_34 =>
  ez_let (if (0 : Int32) < t_34 then t_34 else (0 : Int32)) fun t_35 =>
  ez_bd (z_X6_notch σ x5 t_35) fun t_38 =>
  ez_let (x3 ||| t_38) fun t_41 =>
  ez_nz x4 <|
  ez_let (x2 / x4) fun t_46 =>
  ez_let (x5 + (-1)) fun t_48 =>
  k_22 h0 x1 t_46 t_41 x4 t_48
  )
set_option maxRecDepth 100000 in
noncomputable def z_X6_bitsOf (σ : ez_H) (h0 : Nat) (x1 : Int32) : Option (Int32) :=
  ez_bd (ez_ob σ 6 h0) fun _ =>
  ez_bd (ez_gi σ 6 h0 1) fun t_6 =>
  ez_let (if (1 : Int32) < t_6 then t_6 else (1 : Int32)) fun t_9 =>
  ez_bd (ez_gi σ 6 h0 0) fun t_15 =>
  ez_let (t_15 - (1 : Int32)) fun t_19 =>
  ez_fix (fun _ _ _ _ _ _ => none) (z_X6_bitsOf_22 σ) ez_N h0 x1 x1 (0 : Int32) t_9 t_19
set_option maxRecDepth 100000 in
noncomputable def z_X11_opens_24 (σ : ez_H) : Option (Int32) :=
  some (-1 : Int32)
set_option maxRecDepth 100000 in
noncomputable def z_X11_opens_46 (σ : ez_H) (y0 : Int32) : Option (Int32) :=
  some y0
set_option maxRecDepth 100000 in
noncomputable def z_X11_opens (σ : ez_H) (h0 : Nat) (x1 : Int32) (x2 : Int32) : Option (Int32) :=
  ez_bd (ez_ob σ 11 h0) fun _ =>
  ez_bd (ez_gr σ 11 h0 4) fun t_1 =>
  ez_bd (z_X6_bitsOf σ t_1 x1) fun t_5 =>
  if t_5 = (0 : Int32) then (
  z_X11_opens_24 σ 
  ) else (
  ez_bd (ez_gr σ 11 h0 3) fun t_14 =>
  ez_bd (z_X3_hasLock σ t_14 x2) fun t_18 =>
  if t_18 = (0 : Int32) then (
  z_X11_opens_24 σ 
  ) else (
  ez_bd (ez_gr σ 11 h0 5) fun t_28 =>
  ez_bd (z_X7_pins σ t_28 x2) fun t_32 =>
  ez_bd (z_X6_fitsIn σ t_5 t_32) fun t_35 =>
  if t_35 = (0 : Int32) then (
  z_X11_opens_46 σ (0 : Int32)
  ) else (
  z_X11_opens_46 σ (1 : Int32)
  )
  )
  )
set_option maxRecDepth 100000 in
noncomputable def z_X6_hasDepth_17 (σ : ez_H) (y0 : Int32) : Option (Int32) :=
  ez_nr .boolean y0 <|
  some y0
set_option maxRecDepth 100000 in
noncomputable def z_X6_hasDepth_16 (σ : ez_H) : Option (Int32) :=
  z_X6_hasDepth_17 σ (0 : Int32)
set_option maxRecDepth 100000 in
noncomputable def z_X6_hasDepth (σ : ez_H) (h0 : Nat) (x1 : Int32) : Option (Int32) :=
  ez_bd (ez_ob σ 6 h0) fun _ =>
  if x1 < (0 : Int32) then (
  z_X6_hasDepth_16 σ 
  ) else (
  ez_bd (ez_gi σ 6 h0 1) fun t_6 =>
  if t_6 ≤ x1 then (
  z_X6_hasDepth_16 σ 
  ) else (
  z_X6_hasDepth_17 σ (1 : Int32)
  )
  )
set_option maxRecDepth 100000 in
noncomputable def z_X7_putPins (σ : ez_H) (h0 : Nat) (x1 : Int32) (x2 : Int32) : Option (Unit × ez_H) :=
  ez_bd (ez_ob σ 7 h0) fun _ =>
  ez_let ((24 : Int32) + x1) fun t_4 =>
  ez_b2 (z_X7_put σ h0 t_4 x2) fun _ σ =>
  some ((), σ)
set_option maxRecDepth 100000 in
noncomputable def z_X11_part_33 (σ : ez_H) : Option (Int32 × ez_H) :=
  some ((-1 : Int32), σ)
set_option maxRecDepth 100000 in
noncomputable def z_X11_part (σ : ez_H) (h0 : Nat) (x1 : Int32) (x2 : Int32) (x3 : Int32) : Option (Int32 × ez_H) :=
  ez_bd (ez_ob σ 11 h0) fun _ =>
  ez_bd (ez_gr σ 11 h0 3) fun t_1 =>
  ez_bd (z_X3_hasLock σ t_1 x1) fun t_5 =>
  if t_5 = (0 : Int32) then (
  z_X11_part_33  σ
  ) else (
  ez_bd (ez_gr σ 11 h0 4) fun t_12 =>
  ez_bd (z_X6_hasChamber σ t_12 x2) fun t_16 =>
  if t_16 = (0 : Int32) then (
  z_X11_part_33  σ
  ) else (
  ez_bd (ez_gr σ 11 h0 4) fun t_23 =>
  ez_bd (z_X6_hasDepth σ t_23 x3) fun t_27 =>
  if t_27 = (0 : Int32) then (
  z_X11_part_33  σ
  ) else (
  ez_bd (ez_gr σ 11 h0 5) fun t_36 =>
  ez_bd (z_X7_pins σ t_36 x1) fun t_40 =>
  ez_bd (z_X6_notch σ x2 x3) fun t_45 =>
  ez_let (t_40 ^^^ t_45) fun t_48 =>
  ez_bd (z_X6_depthsAt σ t_48 x2) fun t_54 =>
  if t_54 = (0 : Int32) then (
  some ((-1 : Int32), σ)
  ) else (
  ez_bd (ez_gr σ 11 h0 7) fun t_67 =>
  ez_bd (ez_gr σ 11 h0 5) fun t_71 =>
  ez_b2 (z_X1_keep σ t_67 t_71) fun _ σ =>
  ez_bd (ez_gr σ 11 h0 5) fun t_78 =>
  ez_b2 (z_X7_putPins σ t_78 x1 t_48) fun _ σ =>
  some (t_54, σ)
  )
  )
  )
  )
set_option maxRecDepth 100000 in
noncomputable def z_X11_parts_22 (σ : ez_H) : Option (Int32) :=
  some (-1 : Int32)
set_option maxRecDepth 100000 in
noncomputable def z_X11_parts (σ : ez_H) (h0 : Nat) (x1 : Int32) (x2 : Int32) : Option (Int32) :=
  ez_bd (ez_ob σ 11 h0) fun _ =>
  ez_bd (ez_gr σ 11 h0 3) fun t_1 =>
  ez_bd (z_X3_hasLock σ t_1 x1) fun t_5 =>
  if t_5 = (0 : Int32) then (
  z_X11_parts_22 σ 
  ) else (
  ez_bd (ez_gr σ 11 h0 4) fun t_12 =>
  ez_bd (z_X6_hasChamber σ t_12 x2) fun t_16 =>
  if t_16 = (0 : Int32) then (
  z_X11_parts_22 σ 
  ) else (
  ez_bd (ez_gr σ 11 h0 5) fun t_25 =>
  ez_bd (z_X7_pins σ t_25 x1) fun t_29 =>
  ez_bd (z_X6_depthsAt σ t_29 x2) fun t_33 =>
  some t_33
  )
  )
set_option maxRecDepth 100000 in
noncomputable def z_X11_person (σ : ez_H) (h0 : Nat) (x1 : Int32) (x2 : Int32) : Option (Int32) :=
  ez_bd (ez_ob σ 11 h0) fun _ =>
  ez_bd (ez_gr σ 11 h0 3) fun t_1 =>
  ez_bd (z_X3_hasPerson σ t_1 x1) fun t_5 =>
  if t_5 = (0 : Int32) then (
  some (-1 : Int32)
  ) else (
  if x2 = 0 then (
  ez_bd (ez_gr σ 11 h0 5) fun t_41 =>
  ez_bd (z_X7_room σ t_41 x1) fun t_45 =>
  some t_45
  ) else (
  if x2 = 1 then (
  ez_bd (ez_gr σ 11 h0 5) fun t_50 =>
  ez_bd (ez_gr σ 11 h0 3) fun t_55 =>
  ez_bd (ez_gi σ 3 t_55 3) fun t_58 =>
  ez_bd (z_X7_heldBy σ t_50 x1 t_58) fun t_61 =>
  some t_61
  ) else (
  if x2 = 2 then (
  ez_bd (ez_gr σ 11 h0 12) fun t_66 =>
  ez_bd (z_X2_reachOf σ t_66 x1) fun t_70 =>
  some t_70
  ) else (
  some (-1 : Int32)
  )))
  )
set_option maxRecDepth 100000 in
noncomputable def z_X3_hasKeys_16 (σ : ez_H) (y0 : Int32) : Option (Int32) :=
  ez_nr .boolean y0 <|
  some y0
set_option maxRecDepth 100000 in
noncomputable def z_X3_hasKeys (σ : ez_H) (h0 : Nat) (x1 : Int32) : Option (Int32) :=
  ez_bd (ez_ob σ 3 h0) fun _ =>
  ez_bd (z_X3_allKeys σ h0) fun t_2 =>
  ez_let (t_2 ^^^ (-1 : Int32)) fun t_6 =>
  ez_let (x1 &&& t_6) fun t_7 =>
  if t_7 = (0 : Int32) then (
  z_X3_hasKeys_16 σ (1 : Int32)
  ) else (
  z_X3_hasKeys_16 σ (0 : Int32)
  )
set_option maxRecDepth 100000 in
noncomputable def z_X11_pin_26 (σ : ez_H) : Option (Int32 × ez_H) :=
  some ((-1 : Int32), σ)
set_option maxRecDepth 100000 in
noncomputable def z_X11_pin (σ : ez_H) (h0 : Nat) (x1 : Int32) (x2 : Int32) : Option (Int32 × ez_H) :=
  ez_bd (ez_ob σ 11 h0) fun _ =>
  ez_bd (ez_gr σ 11 h0 3) fun t_1 =>
  ez_bd (z_X3_hasLock σ t_1 x1) fun t_5 =>
  if t_5 = (0 : Int32) then (
  z_X11_pin_26  σ
  ) else (
  if x2 ≤ (0 : Int32) then (
  z_X11_pin_26  σ
  ) else (
  ez_bd (ez_gr σ 11 h0 3) fun t_16 =>
  ez_bd (z_X3_hasKeys σ t_16 x2) fun t_20 =>
  if t_20 = (0 : Int32) then (
  z_X11_pin_26  σ
  ) else (
  ez_bd (ez_gr σ 11 h0 7) fun t_29 =>
  ez_bd (ez_gr σ 11 h0 5) fun t_33 =>
  ez_b2 (z_X1_keep σ t_29 t_33) fun _ σ =>
  ez_bd (ez_gr σ 11 h0 5) fun t_40 =>
  ez_bd (ez_gr σ 11 h0 13) fun t_45 =>
  ez_bd (z_X5_pinsFor σ t_45 x2) fun t_49 =>
  ez_b2 (z_X7_putPins σ t_40 x1 t_49) fun _ σ =>
  ez_bd (ez_gr σ 11 h0 5) fun t_56 =>
  ez_bd (z_X7_pins σ t_56 x1) fun t_60 =>
  ez_bd (z_J6_bitCount_0f7a4 σ t_60) fun t_63 =>
  some (t_63, σ)
  )
  )
  )
set_option maxRecDepth 100000 in
noncomputable def z_X0_clear (σ : ez_H) (h0 : Nat) : Option (Unit × ez_H) :=
  ez_bd (ez_ob σ 0 h0) fun _ =>
  ez_bd (ez_pf σ 0 h0 0 (.inl (0 : Int32))) fun σ =>
  ez_bd (ez_pf σ 0 h0 1 (.inl (0 : Int32))) fun σ =>
  some ((), σ)
set_option maxRecDepth 100000 in
noncomputable def z_X7_clear (σ : ez_H) (h0 : Nat) : Option (Unit × ez_H) :=
  ez_bd (ez_ob σ 7 h0) fun _ =>
  ez_bd (ez_gr σ 7 h0 0) fun t_1 =>
  ez_b2 (z_J7_fill_53178 σ t_1 (0 : Int32)) fun _ σ =>
  some ((), σ)
set_option maxRecDepth 100000 in
noncomputable def z_X3_clear (σ : ez_H) (h0 : Nat) : Option (Unit × ez_H) :=
  ez_bd (ez_ob σ 3 h0) fun _ =>
  ez_bd (ez_gr σ 3 h0 0) fun t_1 =>
  ez_b2 (z_X6_reset σ t_1) fun _ σ =>
  ez_bd (ez_gr σ 3 h0 1) fun t_8 =>
  ez_b2 (z_X0_clear σ t_8) fun _ σ =>
  ez_bd (ez_gr σ 3 h0 2) fun t_15 =>
  ez_b2 (z_X7_clear σ t_15) fun _ σ =>
  ez_bd (ez_pf σ 3 h0 3 (.inl (0 : Int32))) fun σ =>
  ez_bd (ez_pf σ 3 h0 4 (.inl (0 : Int32))) fun σ =>
  ez_bd (ez_pf σ 3 h0 5 (.inl (0 : Int32))) fun σ =>
  ez_bd (ez_pf σ 3 h0 6 (.inl (0 : Int32))) fun σ =>
  ez_bd (ez_pf σ 3 h0 7 (.inl (0 : Int32))) fun σ =>
  ez_bd (ez_gr σ 3 h0 11) fun t_47 =>
  ez_b2 (z_J7_fill_53178 σ t_47 (0 : Int32)) fun _ σ =>
  ez_bd (ez_gr σ 3 h0 12) fun t_55 =>
  ez_b2 (z_J7_fill_53178 σ t_55 (0 : Int32)) fun _ σ =>
  some ((), σ)
set_option maxRecDepth 100000 in
noncomputable def z_X9_byteAt_35 (σ : ez_H) (y0 : Int32) : Option (Int32) :=
  some y0
set_option maxRecDepth 100000 in
noncomputable def z_X9_byteAt_34 (σ : ez_H) : Option (Int32) :=
  z_X9_byteAt_35 σ (-1 : Int32)
set_option maxRecDepth 100000 in
noncomputable def z_X9_byteAt (σ : ez_H) (h0 : Nat) (x1 : Int32) : Option (Int32) :=
  ez_bd (ez_ob σ 9 h0) fun _ =>
  if x1 < (0 : Int32) then (
  z_X9_byteAt_34 σ 
  ) else (
  ez_bd (ez_gi σ 9 h0 2) fun t_6 =>
  if t_6 ≤ x1 then (
  z_X9_byteAt_34 σ 
  ) else (
  ez_bd (ez_gr σ 9 h0 0) fun t_14 =>
  ez_bd (ez_ln σ 0 t_14) fun t_17 =>
  if t_17 ≤ x1 then (
  z_X9_byteAt_34 σ 
  ) else (
  ez_bd (ez_gr σ 9 h0 0) fun t_22 =>
  ez_bd (ez_ia σ 0 t_22 x1) fun t_26 =>
  ez_let (t_26 &&& (255 : Int32)) fun t_30 =>
  z_X9_byteAt_35 σ t_30
  )
  )
  )
set_option maxRecDepth 100000 in
noncomputable def z_X9_isLetter_17 (σ : ez_H) (y0 : Int32) : Option (Int32) :=
  ez_nr .boolean y0 <|
  some y0
set_option maxRecDepth 100000 in
noncomputable def z_X9_isLetter_16 (σ : ez_H) : Option (Int32) :=
  z_X9_isLetter_17 σ (0 : Int32)
set_option maxRecDepth 100000 in
noncomputable def z_X9_isLetter (σ : ez_H) (x0 : Int32) : Option (Int32) :=
  if x0 < (97 : Int32) then (
  z_X9_isLetter_16 σ 
  ) else (
  if (122 : Int32) < x0 then (
  z_X9_isLetter_16 σ 
  ) else (
  z_X9_isLetter_17 σ (1 : Int32)
  )
  )
set_option maxRecDepth 100000 in
noncomputable def z_X9_readWord_123 (k_89 : ez_H → Nat → Int32 → Option (Unit × ez_H)) (σ : ez_H) (h0 : Nat) (x1 : Int32) : Option (Unit × ez_H) :=
  ez_let (x1 + 1) fun t_123 =>
  k_89 σ h0 t_123
set_option maxRecDepth 100000 in
noncomputable def z_X9_readWord_89 (k_89 : ez_H → Nat → Int32 → Option (Unit × ez_H)) (σ : ez_H) (h0 : Nat) (x1 : Int32) : Option (Unit × ez_H) :=
  if (23 : Int32) ≤ x1 then (
  some ((), σ)
  ) else (
  ez_bd (ez_gi σ 9 h0 4) fun t_96 =>
  if t_96 = (23 : Int32) then (
  ez_bd (ez_gr σ 9 h0 1) fun t_105 =>
  ez_bd (ez_la σ t_105 x1) fun t_109 =>
  ez_bd (ez_gl σ 9 h0 7) fun t_111 =>
  ez_let (lg_cmp t_109 t_111) fun t_114 =>
  if t_114 = (0 : Int32) then (
  ez_bd (ez_pf σ 9 h0 4 (.inl x1)) fun σ =>
  z_X9_readWord_123 k_89 σ h0 x1
  ) else (
  z_X9_readWord_123 k_89 σ h0 x1
  )
  ) else (
  z_X9_readWord_123 k_89 σ h0 x1
  )
  )
set_option maxRecDepth 100000 in
noncomputable def z_X9_readWord_84 (σ : ez_H) (h0 : Nat) (y0 : Nat) (y1 : Int32) : Option (Unit × ez_H) :=
  ez_bd (ez_pf σ 9 y0 4 (.inl y1)) fun σ =>
  ez_fix (fun _ _ _ => none) (z_X9_readWord_89 ) ez_N σ h0 (0 : Int32)
set_option maxRecDepth 100000 in
noncomputable def z_X9_readWord_62 (σ : ez_H) (h0 : Nat) : Option (Unit × ez_H) :=
  ez_bd (ez_gi σ 9 h0 3) fun t_64 =>
  ez_bd (ez_gi σ 9 h0 5) fun t_68 =>
  ez_let (t_64 - t_68) fun t_71 =>
  if t_71 ≤ (8 : Int32) then (
  z_X9_readWord_84  σ h0 h0 (23 : Int32)
  ) else (
  z_X9_readWord_84  σ h0 h0 (25 : Int32)
  )
set_option maxRecDepth 100000 in
noncomputable def z_X9_readWord_5 (k_5 : ez_H → Nat → Option (Unit × ez_H)) (σ : ez_H) (h0 : Nat) : Option (Unit × ez_H) :=
  ez_bd (ez_gi σ 9 h0 3) fun t_6 =>
  ez_bd (ez_gi σ 9 h0 2) fun t_10 =>
  if t_10 ≤ t_6 then (
  z_X9_readWord_62  σ h0
  ) else (
  ez_bd (ez_gi σ 9 h0 3) fun t_18 =>
  ez_bd (z_X9_byteAt σ h0 t_18) fun t_21 =>
  ez_bd (z_X9_isLetter σ t_21) fun t_24 =>
  if t_24 = (0 : Int32) then (
  z_X9_readWord_62  σ h0
  ) else (
  ez_bd (ez_gl σ 9 h0 7) fun t_32 =>
  ez_bd (ez_gi σ 9 h0 3) fun t_37 =>
  ez_bd (z_X9_byteAt σ h0 t_37) fun t_40 =>
  ez_bd (z_X9_withLetter σ t_32 t_40) fun t_43 =>
  ez_bd (ez_pf σ 9 h0 7 (.inr (.inl t_43))) fun σ =>
  ez_bd (ez_gi σ 9 h0 3) fun t_51 =>
  ez_let (t_51 + (1 : Int32)) fun t_55 =>
  ez_bd (ez_pf σ 9 h0 3 (.inl t_55)) fun σ =>
  k_5 σ h0
  )
  )
set_option maxRecDepth 100000 in
noncomputable def z_X9_readWord (σ : ez_H) (h0 : Nat) : Option (Unit × ez_H) :=
  ez_bd (ez_ob σ 9 h0) fun _ =>
  ez_bd (ez_pf σ 9 h0 7 (.inr (.inl (0 : Int64)))) fun σ =>
  ez_fix (fun _ _ => none) (z_X9_readWord_5 ) ez_N σ h0
set_option maxRecDepth 100000 in
noncomputable def z_X9_isDigit_17 (σ : ez_H) (y0 : Int32) : Option (Int32) :=
  ez_nr .boolean y0 <|
  some y0
set_option maxRecDepth 100000 in
noncomputable def z_X9_isDigit_16 (σ : ez_H) : Option (Int32) :=
  z_X9_isDigit_17 σ (0 : Int32)
set_option maxRecDepth 100000 in
noncomputable def z_X9_isDigit (σ : ez_H) (x0 : Int32) : Option (Int32) :=
  if x0 < (48 : Int32) then (
  z_X9_isDigit_16 σ 
  ) else (
  if (57 : Int32) < x0 then (
  z_X9_isDigit_16 σ 
  ) else (
  z_X9_isDigit_17 σ (1 : Int32)
  )
  )
set_option maxRecDepth 100000 in
noncomputable def z_X9_readNumber_101 (σ : ez_H) (y0 : Nat) (y1 : Int32) : Option (Unit × ez_H) :=
  ez_bd (ez_pf σ 9 y0 4 (.inl y1)) fun σ =>
  some ((), σ)
set_option maxRecDepth 100000 in
noncomputable def z_X9_readNumber_94 (σ : ez_H) (y0 : Nat) : Option (Unit × ez_H) :=
  z_X9_readNumber_101  σ y0 (25 : Int32)
set_option maxRecDepth 100000 in
noncomputable def z_X9_readNumber_66 (σ : ez_H) (h0 : Nat) : Option (Unit × ez_H) :=
  ez_bd (ez_gi σ 9 h0 3) fun t_68 =>
  ez_bd (ez_gi σ 9 h0 5) fun t_72 =>
  ez_let (t_68 - t_72) fun t_75 =>
  if (4 : Int32) < t_75 then (
  z_X9_readNumber_94  σ h0
  ) else (
  ez_bd (ez_gi σ 9 h0 3) fun t_82 =>
  ez_bd (z_X9_byteAt σ h0 t_82) fun t_85 =>
  ez_bd (z_X9_isLetter σ t_85) fun t_88 =>
  if t_88 = (0 : Int32) then (
  z_X9_readNumber_101  σ h0 (24 : Int32)
  ) else (
  z_X9_readNumber_94  σ h0
  )
  )
set_option maxRecDepth 100000 in
noncomputable def z_X9_readNumber_5 (k_5 : ez_H → Nat → Option (Unit × ez_H)) (σ : ez_H) (h0 : Nat) : Option (Unit × ez_H) :=
  ez_bd (ez_gi σ 9 h0 3) fun t_6 =>
  ez_bd (ez_gi σ 9 h0 2) fun t_10 =>
  if t_10 ≤ t_6 then (
  z_X9_readNumber_66  σ h0
  ) else (
  ez_bd (ez_gi σ 9 h0 3) fun t_18 =>
  ez_bd (z_X9_byteAt σ h0 t_18) fun t_21 =>
  ez_bd (z_X9_isDigit σ t_21) fun t_24 =>
  if t_24 = (0 : Int32) then (
  z_X9_readNumber_66  σ h0
  ) else (
  ez_bd (ez_gi σ 9 h0 6) fun t_32 =>
  ez_let (t_32 * (10 : Int32)) fun t_37 =>
  ez_bd (ez_gi σ 9 h0 3) fun t_40 =>
  ez_bd (z_X9_byteAt σ h0 t_40) fun t_43 =>
  ez_let (t_43 - (48 : Int32)) fun t_48 =>
  ez_let (t_37 + t_48) fun t_49 =>
  ez_bd (ez_pf σ 9 h0 6 (.inl t_49)) fun σ =>
  ez_bd (ez_gi σ 9 h0 3) fun t_55 =>
  ez_let (t_55 + (1 : Int32)) fun t_59 =>
  ez_bd (ez_pf σ 9 h0 3 (.inl t_59)) fun σ =>
  k_5 σ h0
  )
  )
set_option maxRecDepth 100000 in
noncomputable def z_X9_readNumber (σ : ez_H) (h0 : Nat) : Option (Unit × ez_H) :=
  ez_bd (ez_ob σ 9 h0) fun _ =>
  ez_bd (ez_pf σ 9 h0 6 (.inl (0 : Int32))) fun σ =>
  ez_fix (fun _ _ => none) (z_X9_readNumber_5 ) ez_N σ h0
set_option maxRecDepth 100000 in
noncomputable def z_J0_isLatin1_aae02_s1_18 (σ : ez_H) (y0 : Int32) : Option (Int32) :=
  ez_nr .boolean y0 <|
  some y0
set_option maxRecDepth 100000 in
noncomputable def z_J0_isLatin1_aae02_s1 (σ : ez_H) : Option (Int32) :=
  z_J0_isLatin1_aae02_s1_18 σ (1 : Int32)
set_option maxRecDepth 100000 in
noncomputable def z_J0_coder_7d493_s1_14 (σ : ez_H) (y0 : Int32) : Option (Int32) :=
  ez_nr .byte y0 <|
  some y0
set_option maxRecDepth 100000 in
noncomputable def z_J0_coder_7d493_s1 (σ : ez_H) : Option (Int32) :=
  z_J0_coder_7d493_s1_14 σ (0 : Int32)
set_option maxRecDepth 100000 in
noncomputable def z_J0_length_8abf5_s1 (σ : ez_H) : Option (Int32) :=
  ez_bd (z_J0_coder_7d493_s1 σ ) fun t_6 =>
  ez_let ((11 : Int32) >>> (t_6 &&& 31)) fun t_9 =>
  some t_9
set_option maxRecDepth 100000 in
noncomputable def z_J1_canEncode_9a6ad_16 (σ : ez_H) (y0 : Int32) : Option (Int32) :=
  ez_nr .boolean y0 <|
  some y0
set_option maxRecDepth 100000 in
noncomputable def z_J1_canEncode_9a6ad_15 (σ : ez_H) : Option (Int32) :=
  z_J1_canEncode_9a6ad_16 σ (0 : Int32)
set_option maxRecDepth 100000 in
noncomputable def z_J1_canEncode_9a6ad (σ : ez_H) (x0 : Int32) : Option (Int32) :=
  if x0 < (0 : Int32) then (
  z_J1_canEncode_9a6ad_15 σ 
  ) else (
  if (255 : Int32) < x0 then (
  z_J1_canEncode_9a6ad_15 σ 
  ) else (
  z_J1_canEncode_9a6ad_16 σ (1 : Int32)
  )
  )
set_option maxRecDepth 100000 in
noncomputable def z_J1_indexOfChar_4cfef_v1_7 (σ : ez_H) (k_7 : Int32 → Int32 → Int32 → Option (Int32)) (x3 : Int32) (x4 : Int32) (x5 : Int32) : Option (Int32) :=
  if x3 ≤ x5 then (
  some (-1 : Int32)
  ) else (
  ez_bd (ez_tx 1 x5) fun t_16 =>
  if t_16 = x4 then (
  some x5
  ) else (
  ez_let (x5 + 1) fun t_25 =>
  k_7 x3 x4 t_25
  )
  )
set_option maxRecDepth 100000 in
noncomputable def z_J1_indexOfChar_4cfef_v1 (σ : ez_H) (x1 : Int32) (x2 : Int32) (x3 : Int32) : Option (Int32) :=
  ez_let ((Int32.toInt8 x1).toInt32) fun t_1 =>
  ez_fix (fun _ _ _ => none) (z_J1_indexOfChar_4cfef_v1_7 σ) ez_N x3 t_1 x2
set_option maxRecDepth 100000 in
noncomputable def z_J1_indexOf_4cfef_v1 (σ : ez_H) (x1 : Int32) (x2 : Int32) (x3 : Int32) : Option (Int32) :=
  ez_bd (z_J1_canEncode_9a6ad σ x1) fun t_1 =>
  if t_1 = (0 : Int32) then (
  some (-1 : Int32)
  ) else (
  ez_let (if x2 < (0 : Int32) then (0 : Int32) else x2) fun t_11 =>
  ez_let (if (11 : Int32) < x3 then (11 : Int32) else x3) fun t_18 =>
  if t_11 < t_18 then (
  ez_bd (z_J1_indexOfChar_4cfef_v1 σ x1 t_11 t_18) fun t_33 =>
  some t_33
  ) else (
  some (-1 : Int32)
  )
  )
set_option maxRecDepth 100000 in
noncomputable def z_J0_indexOf_7cf53_s1_36 (σ : ez_H) (y0 : Int32) : Option (Int32) :=
  some y0
set_option maxRecDepth 100000 in
noncomputable def z_J0_indexOf_7cf53_s1 (σ : ez_H) (x1 : Int32) (x2 : Int32) : Option (Int32) :=
  ez_bd (z_J0_isLatin1_aae02_s1 σ ) fun t_1 =>
  if t_1 = (0 : Int32) then (
  ez_bd (z_J0_length_8abf5_s1 σ ) fun t_30 =>
  none
  ) else (
  ez_bd (z_J0_length_8abf5_s1 σ ) fun t_14 =>
  ez_bd (z_J1_indexOf_4cfef_v1 σ x1 x2 t_14) fun t_17 =>
  z_J0_indexOf_7cf53_s1_36 σ t_17
  )
set_option maxRecDepth 100000 in
noncomputable def z_J0_indexOf_0f7a4_s1 (σ : ez_H) (x1 : Int32) : Option (Int32) :=
  ez_bd (z_J0_indexOf_7cf53_s1 σ x1 (0 : Int32)) fun t_3 =>
  some t_3
set_option maxRecDepth 100000 in
noncomputable def z_X9_advance_152 (σ : ez_H) : Option (Unit × ez_H) :=
  some ((), σ)
set_option maxRecDepth 100000 in
noncomputable def z_X9_advance_139 (σ : ez_H) (h0 : Nat) (y0 : Nat) (y1 : Int32) : Option (Unit × ez_H) :=
  ez_bd (ez_pf σ 9 y0 4 (.inl y1)) fun σ =>
  ez_bd (ez_gi σ 9 h0 3) fun t_144 =>
  ez_let (t_144 + (1 : Int32)) fun t_148 =>
  ez_bd (ez_pf σ 9 h0 3 (.inl t_148)) fun σ =>
  z_X9_advance_152  σ
set_option maxRecDepth 100000 in
noncomputable def z_X9_advance_137 (σ : ez_H) (h0 : Nat) (y0 : Nat) : Option (Unit × ez_H) :=
  z_X9_advance_139  σ h0 y0 (25 : Int32)
set_option maxRecDepth 100000 in
noncomputable def z_X9_advance_50 (σ : ez_H) (h0 : Nat) : Option (Unit × ez_H) :=
  ez_bd (ez_gi σ 9 h0 3) fun t_52 =>
  ez_bd (ez_pf σ 9 h0 5 (.inl t_52)) fun σ =>
  ez_bd (ez_gi σ 9 h0 3) fun t_60 =>
  ez_bd (z_X9_byteAt σ h0 t_60) fun t_63 =>
  ez_bd (ez_gi σ 9 h0 3) fun t_68 =>
  ez_bd (ez_gi σ 9 h0 2) fun t_72 =>
  if t_68 < t_72 then (
  ez_bd (z_X9_isLetter σ t_63) fun t_88 =>
  if t_88 = (0 : Int32) then (
  ez_bd (z_X9_isDigit σ t_63) fun t_102 =>
  if t_102 = (0 : Int32) then (
  if (128 : Int32) ≤ t_63 then (
  z_X9_advance_137  σ h0 h0
  ) else (
  ez_let ((Int32.toUInt32 t_63 % 65536).toInt32) fun t_126 =>
  ez_bd (z_J0_indexOf_0f7a4_s1 σ t_126) fun t_127 =>
  if t_127 < (0 : Int32) then (
  z_X9_advance_137  σ h0 h0
  ) else (
  z_X9_advance_139  σ h0 h0 t_63
  )
  )
  ) else (
  ez_b2 (z_X9_readNumber σ h0) fun _ σ =>
  z_X9_advance_152  σ
  )
  ) else (
  ez_b2 (z_X9_readWord σ h0) fun _ σ =>
  z_X9_advance_152  σ
  )
  ) else (
  ez_bd (ez_pf σ 9 h0 4 (.inl (26 : Int32))) fun σ =>
  z_X9_advance_152  σ
  )
set_option maxRecDepth 100000 in
noncomputable def z_X9_advance_37 (k_0 : ez_H → Nat → Option (Unit × ez_H)) (σ : ez_H) (h0 : Nat) : Option (Unit × ez_H) :=
  ez_bd (ez_gi σ 9 h0 3) fun t_39 =>
  ez_let (t_39 + (1 : Int32)) fun t_43 =>
  ez_bd (ez_pf σ 9 h0 3 (.inl t_43)) fun σ =>
  k_0 σ h0
set_option maxRecDepth 100000 in
noncomputable def z_X9_advance_0 (k_0 : ez_H → Nat → Option (Unit × ez_H)) (σ : ez_H) (h0 : Nat) : Option (Unit × ez_H) :=
  ez_bd (ez_gi σ 9 h0 3) fun t_1 =>
  ez_bd (ez_gi σ 9 h0 2) fun t_5 =>
  if t_5 ≤ t_1 then (
  z_X9_advance_50  σ h0
  ) else (
  ez_bd (ez_gi σ 9 h0 3) fun t_13 =>
  ez_bd (z_X9_byteAt σ h0 t_13) fun t_16 =>
  if t_16 = (32 : Int32) then (
  z_X9_advance_37 k_0 σ h0
  ) else (
  ez_bd (ez_gi σ 9 h0 3) fun t_26 =>
  ez_bd (z_X9_byteAt σ h0 t_26) fun t_29 =>
  if t_29 = (10 : Int32) then (
  z_X9_advance_37 k_0 σ h0
  ) else (
  z_X9_advance_50  σ h0
  )
  )
  )
set_option maxRecDepth 100000 in
noncomputable def z_X9_advance (σ : ez_H) (h0 : Nat) : Option (Unit × ez_H) :=
  ez_bd (ez_ob σ 9 h0) fun _ =>
  ez_fix (fun _ _ => none) (z_X9_advance_0 ) ez_N σ h0
set_option maxRecDepth 100000 in
noncomputable def z_X9_begin (σ : ez_H) (h0 : Nat) (x1 : Int32) : Option (Unit × ez_H) :=
  ez_bd (ez_ob σ 9 h0) fun _ =>
  ez_bd (ez_gr σ 9 h0 0) fun t_3 =>
  ez_bd (ez_ln σ 0 t_3) fun t_6 =>
  ez_let (if t_6 < x1 then t_6 else x1) fun t_7 =>
  ez_bd (ez_pf σ 9 h0 2 (.inl t_7)) fun σ =>
  ez_bd (ez_pf σ 9 h0 3 (.inl (0 : Int32))) fun σ =>
  ez_b2 (z_X9_advance σ h0) fun _ σ =>
  some ((), σ)
set_option maxRecDepth 100000 in
noncomputable def z_X4_blame (σ : ez_H) (h0 : Nat) (x1 : Int32) : Option (Int32 × ez_H) :=
  ez_bd (ez_ob σ 4 h0) fun _ =>
  ez_bd (ez_pf σ 4 h0 1 (.inl x1)) fun σ =>
  ez_bd (ez_gr σ 4 h0 3) fun t_7 =>
  ez_bd (ez_gi σ 9 t_7 5) fun t_10 =>
  ez_bd (ez_pf σ 4 h0 2 (.inl t_10)) fun σ =>
  some ((0 : Int32), σ)
set_option maxRecDepth 100000 in
noncomputable def z_X4_refuse_18 (σ : ez_H) (y0 : Nat) (y1 : Int32) : Option (Int32 × ez_H) :=
  ez_b2 (z_X4_blame σ y0 y1) fun t_18 σ =>
  ez_nr .boolean t_18 <|
  some (t_18, σ)
set_option maxRecDepth 100000 in
noncomputable def z_X4_refuse (σ : ez_H) (h0 : Nat) : Option (Int32 × ez_H) :=
  ez_bd (ez_ob σ 4 h0) fun _ =>
  ez_bd (ez_gr σ 4 h0 3) fun t_2 =>
  ez_bd (ez_gi σ 9 t_2 4) fun t_5 =>
  if t_5 = (25 : Int32) then (
  z_X4_refuse_18  σ h0 (1 : Int32)
  ) else (
  z_X4_refuse_18  σ h0 (2 : Int32)
  )
set_option maxRecDepth 100000 in
noncomputable def z_X4_beginOnce (σ : ez_H) (h0 : Nat) : Option (Int32 × ez_H) :=
  ez_bd (ez_ob σ 4 h0) fun _ =>
  ez_bd (ez_gr σ 4 h0 3) fun t_2 =>
  ez_bd (ez_gi σ 9 t_2 4) fun t_5 =>
  ez_let ((1 : Int32) <<< (t_5 &&& 31)) fun t_8 =>
  ez_bd (ez_gi σ 4 h0 5) fun t_11 =>
  ez_let (t_11 &&& t_8) fun t_15 =>
  if t_15 = (0 : Int32) then (
  ez_bd (ez_gi σ 4 h0 5) fun t_26 =>
  ez_let (t_26 ||| t_8) fun t_30 =>
  ez_bd (ez_pf σ 4 h0 5 (.inl t_30)) fun σ =>
  ez_bd (ez_gr σ 4 h0 3) fun t_35 =>
  ez_b2 (z_X9_advance σ t_35) fun _ σ =>
  some ((1 : Int32), σ)
  ) else (
  ez_b2 (z_X4_refuse σ h0) fun t_20 σ =>
  ez_nr .boolean t_20 <|
  some (t_20, σ)
  )
set_option maxRecDepth 100000 in
noncomputable def z_X4_expect (σ : ez_H) (h0 : Nat) (x1 : Int32) : Option (Int32 × ez_H) :=
  ez_bd (ez_ob σ 4 h0) fun _ =>
  ez_bd (ez_gr σ 4 h0 3) fun t_1 =>
  ez_bd (ez_gi σ 9 t_1 4) fun t_4 =>
  if t_4 = x1 then (
  ez_bd (ez_gr σ 4 h0 3) fun t_17 =>
  ez_b2 (z_X9_advance σ t_17) fun _ σ =>
  some ((1 : Int32), σ)
  ) else (
  ez_b2 (z_X4_refuse σ h0) fun t_12 σ =>
  ez_nr .boolean t_12 <|
  some (t_12, σ)
  )
set_option maxRecDepth 100000 in
noncomputable def z_X4_readOnce_98 (σ : ez_H) (h0 : Nat) : Option (Int32 × ez_H) :=
  ez_b2 (z_X4_blame σ h0 (4 : Int32)) fun t_100 σ =>
  ez_nr .boolean t_100 <|
  some (t_100, σ)
set_option maxRecDepth 100000 in
noncomputable def z_X4_readOnce_175 (σ : ez_H) (h0 : Nat) : Option (Int32 × ez_H) :=
  ez_bd (ez_gr σ 4 h0 3) fun t_176 =>
  ez_b2 (z_X9_advance σ t_176) fun _ σ =>
  ez_b2 (z_X4_expect σ h0 (59 : Int32)) fun t_185 σ =>
  ez_nr .boolean t_185 <|
  some (t_185, σ)
set_option maxRecDepth 100000 in
noncomputable def z_X4_readOnce_51 (σ : ez_H) (h0 : Nat) (x1 : Int32) (x2 : Int32) (x3 : Int32) : Option (Int32 × ez_H) :=
  ez_b2 (z_X4_beginOnce σ h0) fun t_52 σ =>
  if t_52 = (0 : Int32) then (
  some ((0 : Int32), σ)
  ) else (
  ez_bd (ez_gr σ 4 h0 3) fun t_61 =>
  ez_bd (ez_gi σ 9 t_61 4) fun t_64 =>
  if t_64 = (24 : Int32) then (
  ez_bd (ez_gr σ 4 h0 3) fun t_78 =>
  ez_bd (ez_gi σ 9 t_78 6) fun t_81 =>
  if t_81 < x1 then (
  z_X4_readOnce_98  σ h0
  ) else (
  if t_81 ≤ x2 then (
  if x3 = (0 : Int32) then (
  ez_bd (ez_gr σ 4 h0 0) fun t_109 =>
  ez_bd (ez_gr σ 3 t_109 0) fun t_112 =>
  ez_bd (ez_pf σ 6 t_112 0 (.inl t_81)) fun σ =>
  z_X4_readOnce_175  σ h0
  ) else (
  if x3 = (1 : Int32) then (
  ez_bd (ez_gr σ 4 h0 0) fun t_129 =>
  ez_bd (ez_gr σ 3 t_129 0) fun t_132 =>
  ez_bd (ez_pf σ 6 t_132 1 (.inl t_81)) fun σ =>
  z_X4_readOnce_175  σ h0
  ) else (
  if x3 = (2 : Int32) then (
  ez_bd (ez_gr σ 4 h0 0) fun t_149 =>
  ez_bd (ez_gr σ 3 t_149 0) fun t_152 =>
  ez_bd (ez_pf σ 6 t_152 2 (.inl t_81)) fun σ =>
  z_X4_readOnce_175  σ h0
  ) else (
  ez_bd (ez_gr σ 4 h0 0) fun t_164 =>
  ez_bd (ez_gr σ 3 t_164 2) fun t_167 =>
  ez_b2 (z_X7_putSeed σ t_167 t_81) fun _ σ =>
  z_X4_readOnce_175  σ h0
  )
  )
  )
  ) else (
  z_X4_readOnce_98  σ h0
  )
  )
  ) else (
  ez_b2 (z_X4_refuse σ h0) fun t_73 σ =>
  ez_nr .boolean t_73 <|
  some (t_73, σ)
  )
  )
set_option maxRecDepth 100000 in
noncomputable def z_X4_readOnce_33 (σ : ez_H) (h0 : Nat) (x1 : Int32) (x2 : Int32) (x3 : Int32) (y0 : Int32) : Option (Int32 × ez_H) :=
  if y0 = (0 : Int32) then (
  z_X4_readOnce_51  σ h0 x1 x2 x3
  ) else (
  if x3 = (11 : Int32) then (
  z_X4_readOnce_51  σ h0 x1 x2 x3
  ) else (
  ez_b2 (z_X4_refuse σ h0) fun t_47 σ =>
  ez_nr .boolean t_47 <|
  some (t_47, σ)
  )
  )
set_option maxRecDepth 100000 in
noncomputable def z_X4_readOnce_28 (σ : ez_H) (h0 : Nat) (x1 : Int32) (x2 : Int32) (x3 : Int32) : Option (Int32 × ez_H) :=
  z_X4_readOnce_33  σ h0 x1 x2 x3 (1 : Int32)
set_option maxRecDepth 100000 in
noncomputable def z_X4_readOnce (σ : ez_H) (h0 : Nat) (x1 : Int32) (x2 : Int32) : Option (Int32 × ez_H) :=
  ez_bd (ez_ob σ 4 h0) fun _ =>
  ez_bd (ez_gr σ 4 h0 3) fun t_1 =>
  ez_bd (ez_gi σ 9 t_1 4) fun t_4 =>
  ez_bd (ez_gr σ 4 h0 0) fun t_9 =>
  ez_bd (ez_gi σ 3 t_9 3) fun t_12 =>
  if (0 : Int32) < t_12 then (
  z_X4_readOnce_28  σ h0 x1 x2 t_4
  ) else (
  ez_bd (ez_gr σ 4 h0 0) fun t_19 =>
  ez_bd (ez_gi σ 3 t_19 4) fun t_22 =>
  if t_22 ≤ (0 : Int32) then (
  z_X4_readOnce_33  σ h0 x1 x2 t_4 (0 : Int32)
  ) else (
  z_X4_readOnce_28  σ h0 x1 x2 t_4
  )
  )
set_option maxRecDepth 100000 in
noncomputable def z_X4_unitHere_54 (σ : ez_H) : Option (Int32) :=
  some (-1 : Int32)
set_option maxRecDepth 100000 in
noncomputable def z_X4_unitHere (σ : ez_H) (h0 : Nat) : Option (Int32) :=
  ez_bd (ez_ob σ 4 h0) fun _ =>
  ez_bd (ez_gr σ 4 h0 3) fun t_1 =>
  ez_bd (ez_gi σ 9 t_1 4) fun t_4 =>
  if t_4 = 19 then (
  some (1 : Int32)
  ) else (
  if t_4 = 20 then (
  some (2 : Int32)
  ) else (
  if t_4 = 21 then (
  some (3 : Int32)
  ) else (
  if t_4 = 22 then (
  some (4 : Int32)
  ) else (
  if t_4 = 23 then (
  z_X4_unitHere_54 σ 
  ) else (
  if t_4 = 24 then (
  some (0 : Int32)
  ) else (
  z_X4_unitHere_54 σ 
  ))))))
set_option maxRecDepth 100000 in
noncomputable def z_X0_append_47 (σ : ez_H) : Option (Unit × ez_H) :=
  some ((), σ)
set_option maxRecDepth 100000 in
noncomputable def z_X0_append (σ : ez_H) (h0 : Nat) (x1 : Int32) (x2 : Int32) : Option (Unit × ez_H) :=
  ez_bd (ez_ob σ 0 h0) fun _ =>
  ez_bd (ez_gi σ 0 h0 1) fun t_1 =>
  if t_1 < (0 : Int32) then (
  z_X0_append_47  σ
  ) else (
  ez_bd (ez_gi σ 0 h0 1) fun t_8 =>
  if (270 : Int32) ≤ t_8 then (
  z_X0_append_47  σ
  ) else (
  ez_bd (ez_gr σ 0 h0 2) fun t_18 =>
  ez_bd (ez_gi σ 0 h0 1) fun t_22 =>
  ez_bd (ez_is σ 1 t_18 t_22 x1) fun σ =>
  ez_bd (ez_gr σ 0 h0 3) fun t_28 =>
  ez_bd (ez_gi σ 0 h0 1) fun t_32 =>
  ez_bd (ez_is σ 1 t_28 t_32 x2) fun σ =>
  ez_bd (ez_gi σ 0 h0 1) fun t_39 =>
  ez_let (t_39 + (1 : Int32)) fun t_43 =>
  ez_bd (ez_pf σ 0 h0 1 (.inl t_43)) fun σ =>
  z_X0_append_47  σ
  )
  )
set_option maxRecDepth 100000 in
noncomputable def z_X4_readUnit_k7_140 (σ : ez_H) (y0 : Int32) : Option (Int32 × ez_H) :=
  ez_nr .boolean y0 <|
  some (y0, σ)
set_option maxRecDepth 100000 in
noncomputable def z_X4_readUnit_k7_135 (σ : ez_H) : Option (Int32 × ez_H) :=
  z_X4_readUnit_k7_140  σ (1 : Int32)
set_option maxRecDepth 100000 in
noncomputable def z_X4_readUnit_k7_105 (σ : ez_H) (h0 : Nat) (x2 : Int32) : Option (Int32 × ez_H) :=
  ez_bd (ez_gr σ 4 h0 3) fun t_106 =>
  ez_b2 (z_X9_advance σ t_106) fun _ σ =>
  if x2 = (0 : Int32) then (
  z_X4_readUnit_k7_135  σ
  ) else (
  none
  )
set_option maxRecDepth 100000 in
noncomputable def z_X4_readUnit_k7_67 (σ : ez_H) (h0 : Nat) (x2 : Int32) (x3 : Int32) : Option (Int32 × ez_H) :=
  ez_bd (ez_gr σ 4 h0 0) fun t_68 =>
  ez_bd (ez_gr σ 3 t_68 1) fun t_71 =>
  ez_bd (ez_gi σ 0 t_71 0) fun t_75 =>
  ez_let (t_75 + (1 : Int32)) fun t_79 =>
  ez_bd (ez_pf σ 0 t_71 0 (.inl t_79)) fun σ =>
  if x2 = (0 : Int32) then (
  ez_bd (ez_gr σ 4 h0 0) fun t_88 =>
  ez_bd (ez_gr σ 3 t_88 1) fun t_91 =>
  ez_bd (ez_gr σ 4 h0 3) fun t_96 =>
  ez_bd (ez_gi σ 9 t_96 6) fun t_99 =>
  ez_b2 (z_X0_append σ t_91 x3 t_99) fun _ σ =>
  z_X4_readUnit_k7_105  σ h0 x2
  ) else (
  z_X4_readUnit_k7_105  σ h0 x2
  )
set_option maxRecDepth 100000 in
noncomputable def z_X4_readUnit_k7_47 (σ : ez_H) (h0 : Nat) : Option (Int32 × ez_H) :=
  ez_b2 (z_X4_refuse σ h0) fun t_48 σ =>
  ez_nr .boolean t_48 <|
  some (t_48, σ)
set_option maxRecDepth 100000 in
noncomputable def z_X4_readUnit_k7_32 (σ : ez_H) (h0 : Nat) (x2 : Int32) (x3 : Int32) : Option (Int32 × ez_H) :=
  ez_bd (ez_gr σ 4 h0 0) fun t_33 =>
  ez_bd (ez_gr σ 3 t_33 1) fun t_36 =>
  ez_bd (ez_gi σ 0 t_36 0) fun t_39 =>
  if t_39 < (30 : Int32) then (
  if x2 = (0 : Int32) then (
  z_X4_readUnit_k7_67  σ h0 x2 x3
  ) else (
  ez_b2 (z_X4_refuse σ h0) fun t_63 σ =>
  ez_nr .boolean t_63 <|
  some (t_63, σ)
  )
  ) else (
  z_X4_readUnit_k7_47  σ h0
  )
set_option maxRecDepth 100000 in
noncomputable def z_X4_readUnit_k7_17 (σ : ez_H) (h0 : Nat) (y0 : Int32) : Option (Int32 × ez_H) :=
  ez_bd (z_X4_unitHere σ h0) fun t_19 =>
  if y0 = (0 : Int32) then (
  if t_19 = (-1 : Int32) then (
  z_X4_readUnit_k7_47  σ h0
  ) else (
  z_X4_readUnit_k7_32  σ h0 y0 t_19
  )
  ) else (
  z_X4_readUnit_k7_32  σ h0 y0 t_19
  )
set_option maxRecDepth 100000 in
noncomputable def z_X4_readUnit_k7 (σ : ez_H) (h0 : Nat) : Option (Int32 × ez_H) :=
  ez_bd (ez_ob σ 4 h0) fun _ =>
  ez_bd (ez_gr σ 4 h0 3) fun t_1 =>
  ez_bd (ez_gi σ 9 t_1 4) fun t_4 =>
  if t_4 = (40 : Int32) then (
  z_X4_readUnit_k7_17  σ h0 (1 : Int32)
  ) else (
  z_X4_readUnit_k7_17  σ h0 (0 : Int32)
  )
set_option maxRecDepth 100000 in
noncomputable def z_X4_productHere (σ : ez_H) (h0 : Nat) : Option (Int32) :=
  ez_bd (ez_ob σ 4 h0) fun _ =>
  ez_bd (ez_gr σ 4 h0 3) fun t_1 =>
  ez_bd (ez_gi σ 9 t_1 4) fun t_4 =>
  if t_4 = 37 then (
  some (15 : Int32)
  ) else (
  if t_4 = 42 then (
  some (13 : Int32)
  ) else (
  if t_4 = 47 then (
  some (14 : Int32)
  ) else (
  some (-1 : Int32)
  )))
set_option maxRecDepth 100000 in
noncomputable def z_X4_readTerm_k7_65 (σ : ez_H) (x2 : Int32) : Option (Int32 × ez_H) :=
  ez_nr .boolean x2 <|
  some (x2, σ)
set_option maxRecDepth 100000 in
noncomputable def z_X4_readTerm_k7_8 (k_8 : ez_H → Nat → Int32 → Int32 → Option (Int32 × ez_H)) (σ : ez_H) (h0 : Nat) (x2 : Int32) (x3 : Int32) : Option (Int32 × ez_H) :=
  if (1600 : Int32) ≤ x3 then (
  z_X4_readTerm_k7_65  σ x2
  ) else (
  if x2 = (0 : Int32) then (
  z_X4_readTerm_k7_65  σ x2
  ) else (
  ez_bd (z_X4_productHere σ h0) fun t_20 =>
  if t_20 = (-1 : Int32) then (
  z_X4_readTerm_k7_65  σ x2
  ) else (
  ez_bd (z_X4_productHere σ h0) fun t_28 =>
  ez_bd (ez_gr σ 4 h0 3) fun t_34 =>
  ez_b2 (z_X9_advance σ t_34) fun _ σ =>
  ez_b2 (z_X4_readUnit_k7 σ h0) fun t_42 σ =>
  ez_bd (ez_gr σ 4 h0 0) fun t_47 =>
  ez_bd (ez_gr σ 3 t_47 1) fun t_50 =>
  ez_b2 (z_X0_append σ t_50 t_28 (0 : Int32)) fun _ σ =>
  ez_let (x3 + 1) fun t_59 =>
  k_8 σ h0 t_42 t_59
  )
  )
  )
set_option maxRecDepth 100000 in
noncomputable def z_X4_readTerm_k7 (σ : ez_H) (h0 : Nat) : Option (Int32 × ez_H) :=
  ez_bd (ez_ob σ 4 h0) fun _ =>
  ez_b2 (z_X4_readUnit_k7 σ h0) fun t_2 σ =>
  ez_fix (fun _ _ _ _ => none) (z_X4_readTerm_k7_8 ) ez_N σ h0 t_2 (0 : Int32)
set_option maxRecDepth 100000 in
noncomputable def z_X4_readSum_k7_96 (σ : ez_H) (x2 : Int32) : Option (Int32 × ez_H) :=
  ez_nr .boolean x2 <|
  some (x2, σ)
set_option maxRecDepth 100000 in
noncomputable def z_X4_readSum_k7_62 (k_8 : ez_H → Nat → Int32 → Int32 → Option (Int32 × ez_H)) (σ : ez_H) (h0 : Nat) (x3 : Int32) (y0 : Int32) : Option (Int32 × ez_H) :=
  ez_bd (ez_gr σ 4 h0 3) fun t_65 =>
  ez_b2 (z_X9_advance σ t_65) fun _ σ =>
  ez_b2 (z_X4_readTerm_k7 σ h0) fun t_73 σ =>
  ez_bd (ez_gr σ 4 h0 0) fun t_78 =>
  ez_bd (ez_gr σ 3 t_78 1) fun t_81 =>
  ez_b2 (z_X0_append σ t_81 y0 (0 : Int32)) fun _ σ =>
  ez_let (x3 + 1) fun t_90 =>
  k_8 σ h0 t_73 t_90
set_option maxRecDepth 100000 in
noncomputable def z_X4_readSum_k7_43 (k_8 : ez_H → Nat → Int32 → Int32 → Option (Int32 × ez_H)) (σ : ez_H) (h0 : Nat) (x3 : Int32) : Option (Int32 × ez_H) :=
  ez_bd (ez_gr σ 4 h0 3) fun t_44 =>
  ez_bd (ez_gi σ 9 t_44 4) fun t_47 =>
  if t_47 = (43 : Int32) then (
  z_X4_readSum_k7_62 k_8 σ h0 x3 (11 : Int32)
  ) else (
  z_X4_readSum_k7_62 k_8 σ h0 x3 (12 : Int32)
  )
set_option maxRecDepth 100000 in
noncomputable def z_X4_readSum_k7_8 (k_8 : ez_H → Nat → Int32 → Int32 → Option (Int32 × ez_H)) (σ : ez_H) (h0 : Nat) (x2 : Int32) (x3 : Int32) : Option (Int32 × ez_H) :=
  if (1600 : Int32) ≤ x3 then (
  z_X4_readSum_k7_96  σ x2
  ) else (
  if x2 = (0 : Int32) then (
  z_X4_readSum_k7_96  σ x2
  ) else (
  ez_bd (ez_gr σ 4 h0 3) fun t_20 =>
  ez_bd (ez_gi σ 9 t_20 4) fun t_23 =>
  if t_23 = (43 : Int32) then (
  z_X4_readSum_k7_43 k_8 σ h0 x3
  ) else (
  ez_bd (ez_gr σ 4 h0 3) fun t_32 =>
  ez_bd (ez_gi σ 9 t_32 4) fun t_35 =>
  if t_35 = (45 : Int32) then (
  z_X4_readSum_k7_43 k_8 σ h0 x3
  ) else (
  z_X4_readSum_k7_96  σ x2
  )
  )
  )
  )
set_option maxRecDepth 100000 in
noncomputable def z_X4_readSum_k7 (σ : ez_H) (h0 : Nat) : Option (Int32 × ez_H) :=
  ez_bd (ez_ob σ 4 h0) fun _ =>
  ez_b2 (z_X4_readTerm_k7 σ h0) fun t_2 σ =>
  ez_fix (fun _ _ _ _ => none) (z_X4_readSum_k7_8 ) ez_N σ h0 t_2 (0 : Int32)
set_option maxRecDepth 100000 in
noncomputable def z_X4_relationHere (σ : ez_H) (h0 : Nat) : Option (Int32) :=
  ez_bd (ez_ob σ 4 h0) fun _ =>
  ez_bd (ez_gr σ 4 h0 3) fun t_1 =>
  ez_bd (ez_gi σ 9 t_1 4) fun t_4 =>
  if t_4 = 60 then (
  some (8 : Int32)
  ) else (
  if t_4 = 61 then (
  some (10 : Int32)
  ) else (
  if t_4 = 62 then (
  some (9 : Int32)
  ) else (
  some (-1 : Int32)
  )))
set_option maxRecDepth 100000 in
noncomputable def z_X4_readOne_k7_97 (σ : ez_H) (x2 : Int32) : Option (Int32 × ez_H) :=
  ez_nr .boolean x2 <|
  some (x2, σ)
set_option maxRecDepth 100000 in
noncomputable def z_X4_readOne_k7 (σ : ez_H) (h0 : Nat) : Option (Int32 × ez_H) :=
  ez_bd (ez_ob σ 4 h0) fun _ =>
  ez_bd (ez_gr σ 4 h0 3) fun t_1 =>
  ez_bd (ez_gi σ 9 t_1 4) fun t_4 =>
  if t_4 = (18 : Int32) then (
  ez_b2 (z_X4_refuse σ h0) fun t_19 σ =>
  ez_nr .boolean t_19 <|
  some (t_19, σ)
  ) else (
  ez_b2 (z_X4_readSum_k7 σ h0) fun t_54 σ =>
  ez_bd (z_X4_relationHere σ h0) fun t_59 =>
  if t_54 = (0 : Int32) then (
  z_X4_readOne_k7_97  σ t_54
  ) else (
  if t_59 = (-1 : Int32) then (
  z_X4_readOne_k7_97  σ t_54
  ) else (
  ez_bd (ez_gr σ 4 h0 3) fun t_73 =>
  ez_b2 (z_X9_advance σ t_73) fun _ σ =>
  ez_b2 (z_X4_readSum_k7 σ h0) fun t_81 σ =>
  ez_bd (ez_gr σ 4 h0 0) fun t_86 =>
  ez_bd (ez_gr σ 3 t_86 1) fun t_89 =>
  ez_b2 (z_X0_append σ t_89 t_59 (0 : Int32)) fun _ σ =>
  z_X4_readOne_k7_97  σ t_81
  )
  )
  )
set_option maxRecDepth 100000 in
noncomputable def z_X4_readBoth_k7_63 (σ : ez_H) (x2 : Int32) : Option (Int32 × ez_H) :=
  ez_nr .boolean x2 <|
  some (x2, σ)
set_option maxRecDepth 100000 in
noncomputable def z_X4_readBoth_k7_8 (k_8 : ez_H → Nat → Int32 → Int32 → Option (Int32 × ez_H)) (σ : ez_H) (h0 : Nat) (x2 : Int32) (x3 : Int32) : Option (Int32 × ez_H) :=
  if (1600 : Int32) ≤ x3 then (
  z_X4_readBoth_k7_63  σ x2
  ) else (
  if x2 = (0 : Int32) then (
  z_X4_readBoth_k7_63  σ x2
  ) else (
  ez_bd (ez_gr σ 4 h0 3) fun t_20 =>
  ez_bd (ez_gi σ 9 t_20 4) fun t_23 =>
  if t_23 = (17 : Int32) then (
  ez_bd (ez_gr σ 4 h0 3) fun t_32 =>
  ez_b2 (z_X9_advance σ t_32) fun _ σ =>
  ez_b2 (z_X4_readOne_k7 σ h0) fun t_40 σ =>
  ez_bd (ez_gr σ 4 h0 0) fun t_45 =>
  ez_bd (ez_gr σ 3 t_45 1) fun t_48 =>
  ez_b2 (z_X0_append σ t_48 (7 : Int32) (0 : Int32)) fun _ σ =>
  ez_let (x3 + 1) fun t_57 =>
  k_8 σ h0 t_40 t_57
  ) else (
  z_X4_readBoth_k7_63  σ x2
  )
  )
  )
set_option maxRecDepth 100000 in
noncomputable def z_X4_readBoth_k7 (σ : ez_H) (h0 : Nat) : Option (Int32 × ez_H) :=
  ez_bd (ez_ob σ 4 h0) fun _ =>
  ez_b2 (z_X4_readOne_k7 σ h0) fun t_2 σ =>
  ez_fix (fun _ _ _ _ => none) (z_X4_readBoth_k7_8 ) ez_N σ h0 t_2 (0 : Int32)
set_option maxRecDepth 100000 in
noncomputable def z_X4_readEither_k7_63 (σ : ez_H) (x2 : Int32) : Option (Int32 × ez_H) :=
  ez_nr .boolean x2 <|
  some (x2, σ)
set_option maxRecDepth 100000 in
noncomputable def z_X4_readEither_k7_8 (k_8 : ez_H → Nat → Int32 → Int32 → Option (Int32 × ez_H)) (σ : ez_H) (h0 : Nat) (x2 : Int32) (x3 : Int32) : Option (Int32 × ez_H) :=
  if (1600 : Int32) ≤ x3 then (
  z_X4_readEither_k7_63  σ x2
  ) else (
  if x2 = (0 : Int32) then (
  z_X4_readEither_k7_63  σ x2
  ) else (
  ez_bd (ez_gr σ 4 h0 3) fun t_20 =>
  ez_bd (ez_gi σ 9 t_20 4) fun t_23 =>
  if t_23 = (16 : Int32) then (
  ez_bd (ez_gr σ 4 h0 3) fun t_32 =>
  ez_b2 (z_X9_advance σ t_32) fun _ σ =>
  ez_b2 (z_X4_readBoth_k7 σ h0) fun t_40 σ =>
  ez_bd (ez_gr σ 4 h0 0) fun t_45 =>
  ez_bd (ez_gr σ 3 t_45 1) fun t_48 =>
  ez_b2 (z_X0_append σ t_48 (6 : Int32) (0 : Int32)) fun _ σ =>
  ez_let (x3 + 1) fun t_57 =>
  k_8 σ h0 t_40 t_57
  ) else (
  z_X4_readEither_k7_63  σ x2
  )
  )
  )
set_option maxRecDepth 100000 in
noncomputable def z_X4_readEither_k7 (σ : ez_H) (h0 : Nat) : Option (Int32 × ez_H) :=
  ez_bd (ez_ob σ 4 h0) fun _ =>
  ez_b2 (z_X4_readBoth_k7 σ h0) fun t_2 σ =>
  ez_fix (fun _ _ _ _ => none) (z_X4_readEither_k7_8 ) ez_N σ h0 t_2 (0 : Int32)
set_option maxRecDepth 100000 in
noncomputable def z_X4_readUnit_k6_140 (σ : ez_H) (y0 : Int32) : Option (Int32 × ez_H) :=
  ez_nr .boolean y0 <|
  some (y0, σ)
set_option maxRecDepth 100000 in
noncomputable def z_X4_readUnit_k6_135 (σ : ez_H) : Option (Int32 × ez_H) :=
  z_X4_readUnit_k6_140  σ (1 : Int32)
set_option maxRecDepth 100000 in
noncomputable def z_X4_readUnit_k6_139 (σ : ez_H) : Option (Int32 × ez_H) :=
  z_X4_readUnit_k6_140  σ (0 : Int32)
set_option maxRecDepth 100000 in
noncomputable def z_X4_readUnit_k6_105 (σ : ez_H) (h0 : Nat) (x2 : Int32) : Option (Int32 × ez_H) :=
  ez_bd (ez_gr σ 4 h0 3) fun t_106 =>
  ez_b2 (z_X9_advance σ t_106) fun _ σ =>
  if x2 = (0 : Int32) then (
  z_X4_readUnit_k6_135  σ
  ) else (
  ez_b2 (z_X4_readEither_k7 σ h0) fun t_120 σ =>
  if t_120 = (0 : Int32) then (
  z_X4_readUnit_k6_139  σ
  ) else (
  ez_b2 (z_X4_expect σ h0 (41 : Int32)) fun t_129 σ =>
  if t_129 = (0 : Int32) then (
  z_X4_readUnit_k6_139  σ
  ) else (
  z_X4_readUnit_k6_135  σ
  )
  )
  )
set_option maxRecDepth 100000 in
noncomputable def z_X4_readUnit_k6_67 (σ : ez_H) (h0 : Nat) (x2 : Int32) (x3 : Int32) : Option (Int32 × ez_H) :=
  ez_bd (ez_gr σ 4 h0 0) fun t_68 =>
  ez_bd (ez_gr σ 3 t_68 1) fun t_71 =>
  ez_bd (ez_gi σ 0 t_71 0) fun t_75 =>
  ez_let (t_75 + (1 : Int32)) fun t_79 =>
  ez_bd (ez_pf σ 0 t_71 0 (.inl t_79)) fun σ =>
  if x2 = (0 : Int32) then (
  ez_bd (ez_gr σ 4 h0 0) fun t_88 =>
  ez_bd (ez_gr σ 3 t_88 1) fun t_91 =>
  ez_bd (ez_gr σ 4 h0 3) fun t_96 =>
  ez_bd (ez_gi σ 9 t_96 6) fun t_99 =>
  ez_b2 (z_X0_append σ t_91 x3 t_99) fun _ σ =>
  z_X4_readUnit_k6_105  σ h0 x2
  ) else (
  z_X4_readUnit_k6_105  σ h0 x2
  )
set_option maxRecDepth 100000 in
noncomputable def z_X4_readUnit_k6_47 (σ : ez_H) (h0 : Nat) : Option (Int32 × ez_H) :=
  ez_b2 (z_X4_refuse σ h0) fun t_48 σ =>
  ez_nr .boolean t_48 <|
  some (t_48, σ)
set_option maxRecDepth 100000 in
noncomputable def z_X4_readUnit_k6_32 (σ : ez_H) (h0 : Nat) (x2 : Int32) (x3 : Int32) : Option (Int32 × ez_H) :=
  ez_bd (ez_gr σ 4 h0 0) fun t_33 =>
  ez_bd (ez_gr σ 3 t_33 1) fun t_36 =>
  ez_bd (ez_gi σ 0 t_36 0) fun t_39 =>
  if t_39 < (30 : Int32) then (
  if x2 = (0 : Int32) then (
  z_X4_readUnit_k6_67  σ h0 x2 x3
  ) else (
  z_X4_readUnit_k6_67  σ h0 x2 x3
  )
  ) else (
  z_X4_readUnit_k6_47  σ h0
  )
set_option maxRecDepth 100000 in
noncomputable def z_X4_readUnit_k6_17 (σ : ez_H) (h0 : Nat) (y0 : Int32) : Option (Int32 × ez_H) :=
  ez_bd (z_X4_unitHere σ h0) fun t_19 =>
  if y0 = (0 : Int32) then (
  if t_19 = (-1 : Int32) then (
  z_X4_readUnit_k6_47  σ h0
  ) else (
  z_X4_readUnit_k6_32  σ h0 y0 t_19
  )
  ) else (
  z_X4_readUnit_k6_32  σ h0 y0 t_19
  )
set_option maxRecDepth 100000 in
noncomputable def z_X4_readUnit_k6 (σ : ez_H) (h0 : Nat) : Option (Int32 × ez_H) :=
  ez_bd (ez_ob σ 4 h0) fun _ =>
  ez_bd (ez_gr σ 4 h0 3) fun t_1 =>
  ez_bd (ez_gi σ 9 t_1 4) fun t_4 =>
  if t_4 = (40 : Int32) then (
  z_X4_readUnit_k6_17  σ h0 (1 : Int32)
  ) else (
  z_X4_readUnit_k6_17  σ h0 (0 : Int32)
  )
set_option maxRecDepth 100000 in
noncomputable def z_X4_readTerm_k6_65 (σ : ez_H) (x2 : Int32) : Option (Int32 × ez_H) :=
  ez_nr .boolean x2 <|
  some (x2, σ)
set_option maxRecDepth 100000 in
noncomputable def z_X4_readTerm_k6_8 (k_8 : ez_H → Nat → Int32 → Int32 → Option (Int32 × ez_H)) (σ : ez_H) (h0 : Nat) (x2 : Int32) (x3 : Int32) : Option (Int32 × ez_H) :=
  if (1600 : Int32) ≤ x3 then (
  z_X4_readTerm_k6_65  σ x2
  ) else (
  if x2 = (0 : Int32) then (
  z_X4_readTerm_k6_65  σ x2
  ) else (
  ez_bd (z_X4_productHere σ h0) fun t_20 =>
  if t_20 = (-1 : Int32) then (
  z_X4_readTerm_k6_65  σ x2
  ) else (
  ez_bd (z_X4_productHere σ h0) fun t_28 =>
  ez_bd (ez_gr σ 4 h0 3) fun t_34 =>
  ez_b2 (z_X9_advance σ t_34) fun _ σ =>
  ez_b2 (z_X4_readUnit_k6 σ h0) fun t_42 σ =>
  ez_bd (ez_gr σ 4 h0 0) fun t_47 =>
  ez_bd (ez_gr σ 3 t_47 1) fun t_50 =>
  ez_b2 (z_X0_append σ t_50 t_28 (0 : Int32)) fun _ σ =>
  ez_let (x3 + 1) fun t_59 =>
  k_8 σ h0 t_42 t_59
  )
  )
  )
set_option maxRecDepth 100000 in
noncomputable def z_X4_readTerm_k6 (σ : ez_H) (h0 : Nat) : Option (Int32 × ez_H) :=
  ez_bd (ez_ob σ 4 h0) fun _ =>
  ez_b2 (z_X4_readUnit_k6 σ h0) fun t_2 σ =>
  ez_fix (fun _ _ _ _ => none) (z_X4_readTerm_k6_8 ) ez_N σ h0 t_2 (0 : Int32)
set_option maxRecDepth 100000 in
noncomputable def z_X4_readSum_k6_96 (σ : ez_H) (x2 : Int32) : Option (Int32 × ez_H) :=
  ez_nr .boolean x2 <|
  some (x2, σ)
set_option maxRecDepth 100000 in
noncomputable def z_X4_readSum_k6_62 (k_8 : ez_H → Nat → Int32 → Int32 → Option (Int32 × ez_H)) (σ : ez_H) (h0 : Nat) (x3 : Int32) (y0 : Int32) : Option (Int32 × ez_H) :=
  ez_bd (ez_gr σ 4 h0 3) fun t_65 =>
  ez_b2 (z_X9_advance σ t_65) fun _ σ =>
  ez_b2 (z_X4_readTerm_k6 σ h0) fun t_73 σ =>
  ez_bd (ez_gr σ 4 h0 0) fun t_78 =>
  ez_bd (ez_gr σ 3 t_78 1) fun t_81 =>
  ez_b2 (z_X0_append σ t_81 y0 (0 : Int32)) fun _ σ =>
  ez_let (x3 + 1) fun t_90 =>
  k_8 σ h0 t_73 t_90
set_option maxRecDepth 100000 in
noncomputable def z_X4_readSum_k6_43 (k_8 : ez_H → Nat → Int32 → Int32 → Option (Int32 × ez_H)) (σ : ez_H) (h0 : Nat) (x3 : Int32) : Option (Int32 × ez_H) :=
  ez_bd (ez_gr σ 4 h0 3) fun t_44 =>
  ez_bd (ez_gi σ 9 t_44 4) fun t_47 =>
  if t_47 = (43 : Int32) then (
  z_X4_readSum_k6_62 k_8 σ h0 x3 (11 : Int32)
  ) else (
  z_X4_readSum_k6_62 k_8 σ h0 x3 (12 : Int32)
  )
set_option maxRecDepth 100000 in
noncomputable def z_X4_readSum_k6_8 (k_8 : ez_H → Nat → Int32 → Int32 → Option (Int32 × ez_H)) (σ : ez_H) (h0 : Nat) (x2 : Int32) (x3 : Int32) : Option (Int32 × ez_H) :=
  if (1600 : Int32) ≤ x3 then (
  z_X4_readSum_k6_96  σ x2
  ) else (
  if x2 = (0 : Int32) then (
  z_X4_readSum_k6_96  σ x2
  ) else (
  ez_bd (ez_gr σ 4 h0 3) fun t_20 =>
  ez_bd (ez_gi σ 9 t_20 4) fun t_23 =>
  if t_23 = (43 : Int32) then (
  z_X4_readSum_k6_43 k_8 σ h0 x3
  ) else (
  ez_bd (ez_gr σ 4 h0 3) fun t_32 =>
  ez_bd (ez_gi σ 9 t_32 4) fun t_35 =>
  if t_35 = (45 : Int32) then (
  z_X4_readSum_k6_43 k_8 σ h0 x3
  ) else (
  z_X4_readSum_k6_96  σ x2
  )
  )
  )
  )
set_option maxRecDepth 100000 in
noncomputable def z_X4_readSum_k6 (σ : ez_H) (h0 : Nat) : Option (Int32 × ez_H) :=
  ez_bd (ez_ob σ 4 h0) fun _ =>
  ez_b2 (z_X4_readTerm_k6 σ h0) fun t_2 σ =>
  ez_fix (fun _ _ _ _ => none) (z_X4_readSum_k6_8 ) ez_N σ h0 t_2 (0 : Int32)
set_option maxRecDepth 100000 in
noncomputable def z_X4_readOne_k6_97 (σ : ez_H) (x2 : Int32) : Option (Int32 × ez_H) :=
  ez_nr .boolean x2 <|
  some (x2, σ)
set_option maxRecDepth 100000 in
noncomputable def z_X4_readOne_k6 (σ : ez_H) (h0 : Nat) : Option (Int32 × ez_H) :=
  ez_bd (ez_ob σ 4 h0) fun _ =>
  ez_bd (ez_gr σ 4 h0 3) fun t_1 =>
  ez_bd (ez_gi σ 9 t_1 4) fun t_4 =>
  if t_4 = (18 : Int32) then (
  ez_bd (ez_gr σ 4 h0 3) fun t_24 =>
  ez_b2 (z_X9_advance σ t_24) fun _ σ =>
  ez_b2 (z_X4_readOne_k7 σ h0) fun t_34 σ =>
  ez_bd (ez_gr σ 4 h0 0) fun t_39 =>
  ez_bd (ez_gr σ 3 t_39 1) fun t_42 =>
  ez_b2 (z_X0_append σ t_42 (5 : Int32) (0 : Int32)) fun _ σ =>
  ez_nr .boolean t_34 <|
  some (t_34, σ)
  ) else (
  ez_b2 (z_X4_readSum_k6 σ h0) fun t_54 σ =>
  ez_bd (z_X4_relationHere σ h0) fun t_59 =>
  if t_54 = (0 : Int32) then (
  z_X4_readOne_k6_97  σ t_54
  ) else (
  if t_59 = (-1 : Int32) then (
  z_X4_readOne_k6_97  σ t_54
  ) else (
  ez_bd (ez_gr σ 4 h0 3) fun t_73 =>
  ez_b2 (z_X9_advance σ t_73) fun _ σ =>
  ez_b2 (z_X4_readSum_k6 σ h0) fun t_81 σ =>
  ez_bd (ez_gr σ 4 h0 0) fun t_86 =>
  ez_bd (ez_gr σ 3 t_86 1) fun t_89 =>
  ez_b2 (z_X0_append σ t_89 t_59 (0 : Int32)) fun _ σ =>
  z_X4_readOne_k6_97  σ t_81
  )
  )
  )
set_option maxRecDepth 100000 in
noncomputable def z_X4_readBoth_k6_63 (σ : ez_H) (x2 : Int32) : Option (Int32 × ez_H) :=
  ez_nr .boolean x2 <|
  some (x2, σ)
set_option maxRecDepth 100000 in
noncomputable def z_X4_readBoth_k6_8 (k_8 : ez_H → Nat → Int32 → Int32 → Option (Int32 × ez_H)) (σ : ez_H) (h0 : Nat) (x2 : Int32) (x3 : Int32) : Option (Int32 × ez_H) :=
  if (1600 : Int32) ≤ x3 then (
  z_X4_readBoth_k6_63  σ x2
  ) else (
  if x2 = (0 : Int32) then (
  z_X4_readBoth_k6_63  σ x2
  ) else (
  ez_bd (ez_gr σ 4 h0 3) fun t_20 =>
  ez_bd (ez_gi σ 9 t_20 4) fun t_23 =>
  if t_23 = (17 : Int32) then (
  ez_bd (ez_gr σ 4 h0 3) fun t_32 =>
  ez_b2 (z_X9_advance σ t_32) fun _ σ =>
  ez_b2 (z_X4_readOne_k6 σ h0) fun t_40 σ =>
  ez_bd (ez_gr σ 4 h0 0) fun t_45 =>
  ez_bd (ez_gr σ 3 t_45 1) fun t_48 =>
  ez_b2 (z_X0_append σ t_48 (7 : Int32) (0 : Int32)) fun _ σ =>
  ez_let (x3 + 1) fun t_57 =>
  k_8 σ h0 t_40 t_57
  ) else (
  z_X4_readBoth_k6_63  σ x2
  )
  )
  )
set_option maxRecDepth 100000 in
noncomputable def z_X4_readBoth_k6 (σ : ez_H) (h0 : Nat) : Option (Int32 × ez_H) :=
  ez_bd (ez_ob σ 4 h0) fun _ =>
  ez_b2 (z_X4_readOne_k6 σ h0) fun t_2 σ =>
  ez_fix (fun _ _ _ _ => none) (z_X4_readBoth_k6_8 ) ez_N σ h0 t_2 (0 : Int32)
set_option maxRecDepth 100000 in
noncomputable def z_X4_readEither_k6_63 (σ : ez_H) (x2 : Int32) : Option (Int32 × ez_H) :=
  ez_nr .boolean x2 <|
  some (x2, σ)
set_option maxRecDepth 100000 in
noncomputable def z_X4_readEither_k6_8 (k_8 : ez_H → Nat → Int32 → Int32 → Option (Int32 × ez_H)) (σ : ez_H) (h0 : Nat) (x2 : Int32) (x3 : Int32) : Option (Int32 × ez_H) :=
  if (1600 : Int32) ≤ x3 then (
  z_X4_readEither_k6_63  σ x2
  ) else (
  if x2 = (0 : Int32) then (
  z_X4_readEither_k6_63  σ x2
  ) else (
  ez_bd (ez_gr σ 4 h0 3) fun t_20 =>
  ez_bd (ez_gi σ 9 t_20 4) fun t_23 =>
  if t_23 = (16 : Int32) then (
  ez_bd (ez_gr σ 4 h0 3) fun t_32 =>
  ez_b2 (z_X9_advance σ t_32) fun _ σ =>
  ez_b2 (z_X4_readBoth_k6 σ h0) fun t_40 σ =>
  ez_bd (ez_gr σ 4 h0 0) fun t_45 =>
  ez_bd (ez_gr σ 3 t_45 1) fun t_48 =>
  ez_b2 (z_X0_append σ t_48 (6 : Int32) (0 : Int32)) fun _ σ =>
  ez_let (x3 + 1) fun t_57 =>
  k_8 σ h0 t_40 t_57
  ) else (
  z_X4_readEither_k6_63  σ x2
  )
  )
  )
set_option maxRecDepth 100000 in
noncomputable def z_X4_readEither_k6 (σ : ez_H) (h0 : Nat) : Option (Int32 × ez_H) :=
  ez_bd (ez_ob σ 4 h0) fun _ =>
  ez_b2 (z_X4_readBoth_k6 σ h0) fun t_2 σ =>
  ez_fix (fun _ _ _ _ => none) (z_X4_readEither_k6_8 ) ez_N σ h0 t_2 (0 : Int32)
set_option maxRecDepth 100000 in
noncomputable def z_X4_readUnit_k5_140 (σ : ez_H) (y0 : Int32) : Option (Int32 × ez_H) :=
  ez_nr .boolean y0 <|
  some (y0, σ)
set_option maxRecDepth 100000 in
noncomputable def z_X4_readUnit_k5_135 (σ : ez_H) : Option (Int32 × ez_H) :=
  z_X4_readUnit_k5_140  σ (1 : Int32)
set_option maxRecDepth 100000 in
noncomputable def z_X4_readUnit_k5_139 (σ : ez_H) : Option (Int32 × ez_H) :=
  z_X4_readUnit_k5_140  σ (0 : Int32)
set_option maxRecDepth 100000 in
noncomputable def z_X4_readUnit_k5_105 (σ : ez_H) (h0 : Nat) (x2 : Int32) : Option (Int32 × ez_H) :=
  ez_bd (ez_gr σ 4 h0 3) fun t_106 =>
  ez_b2 (z_X9_advance σ t_106) fun _ σ =>
  if x2 = (0 : Int32) then (
  z_X4_readUnit_k5_135  σ
  ) else (
  ez_b2 (z_X4_readEither_k6 σ h0) fun t_120 σ =>
  if t_120 = (0 : Int32) then (
  z_X4_readUnit_k5_139  σ
  ) else (
  ez_b2 (z_X4_expect σ h0 (41 : Int32)) fun t_129 σ =>
  if t_129 = (0 : Int32) then (
  z_X4_readUnit_k5_139  σ
  ) else (
  z_X4_readUnit_k5_135  σ
  )
  )
  )
set_option maxRecDepth 100000 in
noncomputable def z_X4_readUnit_k5_67 (σ : ez_H) (h0 : Nat) (x2 : Int32) (x3 : Int32) : Option (Int32 × ez_H) :=
  ez_bd (ez_gr σ 4 h0 0) fun t_68 =>
  ez_bd (ez_gr σ 3 t_68 1) fun t_71 =>
  ez_bd (ez_gi σ 0 t_71 0) fun t_75 =>
  ez_let (t_75 + (1 : Int32)) fun t_79 =>
  ez_bd (ez_pf σ 0 t_71 0 (.inl t_79)) fun σ =>
  if x2 = (0 : Int32) then (
  ez_bd (ez_gr σ 4 h0 0) fun t_88 =>
  ez_bd (ez_gr σ 3 t_88 1) fun t_91 =>
  ez_bd (ez_gr σ 4 h0 3) fun t_96 =>
  ez_bd (ez_gi σ 9 t_96 6) fun t_99 =>
  ez_b2 (z_X0_append σ t_91 x3 t_99) fun _ σ =>
  z_X4_readUnit_k5_105  σ h0 x2
  ) else (
  z_X4_readUnit_k5_105  σ h0 x2
  )
set_option maxRecDepth 100000 in
noncomputable def z_X4_readUnit_k5_47 (σ : ez_H) (h0 : Nat) : Option (Int32 × ez_H) :=
  ez_b2 (z_X4_refuse σ h0) fun t_48 σ =>
  ez_nr .boolean t_48 <|
  some (t_48, σ)
set_option maxRecDepth 100000 in
noncomputable def z_X4_readUnit_k5_32 (σ : ez_H) (h0 : Nat) (x2 : Int32) (x3 : Int32) : Option (Int32 × ez_H) :=
  ez_bd (ez_gr σ 4 h0 0) fun t_33 =>
  ez_bd (ez_gr σ 3 t_33 1) fun t_36 =>
  ez_bd (ez_gi σ 0 t_36 0) fun t_39 =>
  if t_39 < (30 : Int32) then (
  if x2 = (0 : Int32) then (
  z_X4_readUnit_k5_67  σ h0 x2 x3
  ) else (
  z_X4_readUnit_k5_67  σ h0 x2 x3
  )
  ) else (
  z_X4_readUnit_k5_47  σ h0
  )
set_option maxRecDepth 100000 in
noncomputable def z_X4_readUnit_k5_17 (σ : ez_H) (h0 : Nat) (y0 : Int32) : Option (Int32 × ez_H) :=
  ez_bd (z_X4_unitHere σ h0) fun t_19 =>
  if y0 = (0 : Int32) then (
  if t_19 = (-1 : Int32) then (
  z_X4_readUnit_k5_47  σ h0
  ) else (
  z_X4_readUnit_k5_32  σ h0 y0 t_19
  )
  ) else (
  z_X4_readUnit_k5_32  σ h0 y0 t_19
  )
set_option maxRecDepth 100000 in
noncomputable def z_X4_readUnit_k5 (σ : ez_H) (h0 : Nat) : Option (Int32 × ez_H) :=
  ez_bd (ez_ob σ 4 h0) fun _ =>
  ez_bd (ez_gr σ 4 h0 3) fun t_1 =>
  ez_bd (ez_gi σ 9 t_1 4) fun t_4 =>
  if t_4 = (40 : Int32) then (
  z_X4_readUnit_k5_17  σ h0 (1 : Int32)
  ) else (
  z_X4_readUnit_k5_17  σ h0 (0 : Int32)
  )
set_option maxRecDepth 100000 in
noncomputable def z_X4_readTerm_k5_65 (σ : ez_H) (x2 : Int32) : Option (Int32 × ez_H) :=
  ez_nr .boolean x2 <|
  some (x2, σ)
set_option maxRecDepth 100000 in
noncomputable def z_X4_readTerm_k5_8 (k_8 : ez_H → Nat → Int32 → Int32 → Option (Int32 × ez_H)) (σ : ez_H) (h0 : Nat) (x2 : Int32) (x3 : Int32) : Option (Int32 × ez_H) :=
  if (1600 : Int32) ≤ x3 then (
  z_X4_readTerm_k5_65  σ x2
  ) else (
  if x2 = (0 : Int32) then (
  z_X4_readTerm_k5_65  σ x2
  ) else (
  ez_bd (z_X4_productHere σ h0) fun t_20 =>
  if t_20 = (-1 : Int32) then (
  z_X4_readTerm_k5_65  σ x2
  ) else (
  ez_bd (z_X4_productHere σ h0) fun t_28 =>
  ez_bd (ez_gr σ 4 h0 3) fun t_34 =>
  ez_b2 (z_X9_advance σ t_34) fun _ σ =>
  ez_b2 (z_X4_readUnit_k5 σ h0) fun t_42 σ =>
  ez_bd (ez_gr σ 4 h0 0) fun t_47 =>
  ez_bd (ez_gr σ 3 t_47 1) fun t_50 =>
  ez_b2 (z_X0_append σ t_50 t_28 (0 : Int32)) fun _ σ =>
  ez_let (x3 + 1) fun t_59 =>
  k_8 σ h0 t_42 t_59
  )
  )
  )
set_option maxRecDepth 100000 in
noncomputable def z_X4_readTerm_k5 (σ : ez_H) (h0 : Nat) : Option (Int32 × ez_H) :=
  ez_bd (ez_ob σ 4 h0) fun _ =>
  ez_b2 (z_X4_readUnit_k5 σ h0) fun t_2 σ =>
  ez_fix (fun _ _ _ _ => none) (z_X4_readTerm_k5_8 ) ez_N σ h0 t_2 (0 : Int32)
set_option maxRecDepth 100000 in
noncomputable def z_X4_readSum_k5_96 (σ : ez_H) (x2 : Int32) : Option (Int32 × ez_H) :=
  ez_nr .boolean x2 <|
  some (x2, σ)
set_option maxRecDepth 100000 in
noncomputable def z_X4_readSum_k5_62 (k_8 : ez_H → Nat → Int32 → Int32 → Option (Int32 × ez_H)) (σ : ez_H) (h0 : Nat) (x3 : Int32) (y0 : Int32) : Option (Int32 × ez_H) :=
  ez_bd (ez_gr σ 4 h0 3) fun t_65 =>
  ez_b2 (z_X9_advance σ t_65) fun _ σ =>
  ez_b2 (z_X4_readTerm_k5 σ h0) fun t_73 σ =>
  ez_bd (ez_gr σ 4 h0 0) fun t_78 =>
  ez_bd (ez_gr σ 3 t_78 1) fun t_81 =>
  ez_b2 (z_X0_append σ t_81 y0 (0 : Int32)) fun _ σ =>
  ez_let (x3 + 1) fun t_90 =>
  k_8 σ h0 t_73 t_90
set_option maxRecDepth 100000 in
noncomputable def z_X4_readSum_k5_43 (k_8 : ez_H → Nat → Int32 → Int32 → Option (Int32 × ez_H)) (σ : ez_H) (h0 : Nat) (x3 : Int32) : Option (Int32 × ez_H) :=
  ez_bd (ez_gr σ 4 h0 3) fun t_44 =>
  ez_bd (ez_gi σ 9 t_44 4) fun t_47 =>
  if t_47 = (43 : Int32) then (
  z_X4_readSum_k5_62 k_8 σ h0 x3 (11 : Int32)
  ) else (
  z_X4_readSum_k5_62 k_8 σ h0 x3 (12 : Int32)
  )
set_option maxRecDepth 100000 in
noncomputable def z_X4_readSum_k5_8 (k_8 : ez_H → Nat → Int32 → Int32 → Option (Int32 × ez_H)) (σ : ez_H) (h0 : Nat) (x2 : Int32) (x3 : Int32) : Option (Int32 × ez_H) :=
  if (1600 : Int32) ≤ x3 then (
  z_X4_readSum_k5_96  σ x2
  ) else (
  if x2 = (0 : Int32) then (
  z_X4_readSum_k5_96  σ x2
  ) else (
  ez_bd (ez_gr σ 4 h0 3) fun t_20 =>
  ez_bd (ez_gi σ 9 t_20 4) fun t_23 =>
  if t_23 = (43 : Int32) then (
  z_X4_readSum_k5_43 k_8 σ h0 x3
  ) else (
  ez_bd (ez_gr σ 4 h0 3) fun t_32 =>
  ez_bd (ez_gi σ 9 t_32 4) fun t_35 =>
  if t_35 = (45 : Int32) then (
  z_X4_readSum_k5_43 k_8 σ h0 x3
  ) else (
  z_X4_readSum_k5_96  σ x2
  )
  )
  )
  )
set_option maxRecDepth 100000 in
noncomputable def z_X4_readSum_k5 (σ : ez_H) (h0 : Nat) : Option (Int32 × ez_H) :=
  ez_bd (ez_ob σ 4 h0) fun _ =>
  ez_b2 (z_X4_readTerm_k5 σ h0) fun t_2 σ =>
  ez_fix (fun _ _ _ _ => none) (z_X4_readSum_k5_8 ) ez_N σ h0 t_2 (0 : Int32)
set_option maxRecDepth 100000 in
noncomputable def z_X4_readOne_k5_97 (σ : ez_H) (x2 : Int32) : Option (Int32 × ez_H) :=
  ez_nr .boolean x2 <|
  some (x2, σ)
set_option maxRecDepth 100000 in
noncomputable def z_X4_readOne_k5 (σ : ez_H) (h0 : Nat) : Option (Int32 × ez_H) :=
  ez_bd (ez_ob σ 4 h0) fun _ =>
  ez_bd (ez_gr σ 4 h0 3) fun t_1 =>
  ez_bd (ez_gi σ 9 t_1 4) fun t_4 =>
  if t_4 = (18 : Int32) then (
  ez_bd (ez_gr σ 4 h0 3) fun t_24 =>
  ez_b2 (z_X9_advance σ t_24) fun _ σ =>
  ez_b2 (z_X4_readOne_k6 σ h0) fun t_34 σ =>
  ez_bd (ez_gr σ 4 h0 0) fun t_39 =>
  ez_bd (ez_gr σ 3 t_39 1) fun t_42 =>
  ez_b2 (z_X0_append σ t_42 (5 : Int32) (0 : Int32)) fun _ σ =>
  ez_nr .boolean t_34 <|
  some (t_34, σ)
  ) else (
  ez_b2 (z_X4_readSum_k5 σ h0) fun t_54 σ =>
  ez_bd (z_X4_relationHere σ h0) fun t_59 =>
  if t_54 = (0 : Int32) then (
  z_X4_readOne_k5_97  σ t_54
  ) else (
  if t_59 = (-1 : Int32) then (
  z_X4_readOne_k5_97  σ t_54
  ) else (
  ez_bd (ez_gr σ 4 h0 3) fun t_73 =>
  ez_b2 (z_X9_advance σ t_73) fun _ σ =>
  ez_b2 (z_X4_readSum_k5 σ h0) fun t_81 σ =>
  ez_bd (ez_gr σ 4 h0 0) fun t_86 =>
  ez_bd (ez_gr σ 3 t_86 1) fun t_89 =>
  ez_b2 (z_X0_append σ t_89 t_59 (0 : Int32)) fun _ σ =>
  z_X4_readOne_k5_97  σ t_81
  )
  )
  )
set_option maxRecDepth 100000 in
noncomputable def z_X4_readBoth_k5_63 (σ : ez_H) (x2 : Int32) : Option (Int32 × ez_H) :=
  ez_nr .boolean x2 <|
  some (x2, σ)
set_option maxRecDepth 100000 in
noncomputable def z_X4_readBoth_k5_8 (k_8 : ez_H → Nat → Int32 → Int32 → Option (Int32 × ez_H)) (σ : ez_H) (h0 : Nat) (x2 : Int32) (x3 : Int32) : Option (Int32 × ez_H) :=
  if (1600 : Int32) ≤ x3 then (
  z_X4_readBoth_k5_63  σ x2
  ) else (
  if x2 = (0 : Int32) then (
  z_X4_readBoth_k5_63  σ x2
  ) else (
  ez_bd (ez_gr σ 4 h0 3) fun t_20 =>
  ez_bd (ez_gi σ 9 t_20 4) fun t_23 =>
  if t_23 = (17 : Int32) then (
  ez_bd (ez_gr σ 4 h0 3) fun t_32 =>
  ez_b2 (z_X9_advance σ t_32) fun _ σ =>
  ez_b2 (z_X4_readOne_k5 σ h0) fun t_40 σ =>
  ez_bd (ez_gr σ 4 h0 0) fun t_45 =>
  ez_bd (ez_gr σ 3 t_45 1) fun t_48 =>
  ez_b2 (z_X0_append σ t_48 (7 : Int32) (0 : Int32)) fun _ σ =>
  ez_let (x3 + 1) fun t_57 =>
  k_8 σ h0 t_40 t_57
  ) else (
  z_X4_readBoth_k5_63  σ x2
  )
  )
  )
set_option maxRecDepth 100000 in
noncomputable def z_X4_readBoth_k5 (σ : ez_H) (h0 : Nat) : Option (Int32 × ez_H) :=
  ez_bd (ez_ob σ 4 h0) fun _ =>
  ez_b2 (z_X4_readOne_k5 σ h0) fun t_2 σ =>
  ez_fix (fun _ _ _ _ => none) (z_X4_readBoth_k5_8 ) ez_N σ h0 t_2 (0 : Int32)
set_option maxRecDepth 100000 in
noncomputable def z_X4_readEither_k5_63 (σ : ez_H) (x2 : Int32) : Option (Int32 × ez_H) :=
  ez_nr .boolean x2 <|
  some (x2, σ)
set_option maxRecDepth 100000 in
noncomputable def z_X4_readEither_k5_8 (k_8 : ez_H → Nat → Int32 → Int32 → Option (Int32 × ez_H)) (σ : ez_H) (h0 : Nat) (x2 : Int32) (x3 : Int32) : Option (Int32 × ez_H) :=
  if (1600 : Int32) ≤ x3 then (
  z_X4_readEither_k5_63  σ x2
  ) else (
  if x2 = (0 : Int32) then (
  z_X4_readEither_k5_63  σ x2
  ) else (
  ez_bd (ez_gr σ 4 h0 3) fun t_20 =>
  ez_bd (ez_gi σ 9 t_20 4) fun t_23 =>
  if t_23 = (16 : Int32) then (
  ez_bd (ez_gr σ 4 h0 3) fun t_32 =>
  ez_b2 (z_X9_advance σ t_32) fun _ σ =>
  ez_b2 (z_X4_readBoth_k5 σ h0) fun t_40 σ =>
  ez_bd (ez_gr σ 4 h0 0) fun t_45 =>
  ez_bd (ez_gr σ 3 t_45 1) fun t_48 =>
  ez_b2 (z_X0_append σ t_48 (6 : Int32) (0 : Int32)) fun _ σ =>
  ez_let (x3 + 1) fun t_57 =>
  k_8 σ h0 t_40 t_57
  ) else (
  z_X4_readEither_k5_63  σ x2
  )
  )
  )
set_option maxRecDepth 100000 in
noncomputable def z_X4_readEither_k5 (σ : ez_H) (h0 : Nat) : Option (Int32 × ez_H) :=
  ez_bd (ez_ob σ 4 h0) fun _ =>
  ez_b2 (z_X4_readBoth_k5 σ h0) fun t_2 σ =>
  ez_fix (fun _ _ _ _ => none) (z_X4_readEither_k5_8 ) ez_N σ h0 t_2 (0 : Int32)
set_option maxRecDepth 100000 in
noncomputable def z_X4_readUnit_k4_140 (σ : ez_H) (y0 : Int32) : Option (Int32 × ez_H) :=
  ez_nr .boolean y0 <|
  some (y0, σ)
set_option maxRecDepth 100000 in
noncomputable def z_X4_readUnit_k4_135 (σ : ez_H) : Option (Int32 × ez_H) :=
  z_X4_readUnit_k4_140  σ (1 : Int32)
set_option maxRecDepth 100000 in
noncomputable def z_X4_readUnit_k4_139 (σ : ez_H) : Option (Int32 × ez_H) :=
  z_X4_readUnit_k4_140  σ (0 : Int32)
set_option maxRecDepth 100000 in
noncomputable def z_X4_readUnit_k4_105 (σ : ez_H) (h0 : Nat) (x2 : Int32) : Option (Int32 × ez_H) :=
  ez_bd (ez_gr σ 4 h0 3) fun t_106 =>
  ez_b2 (z_X9_advance σ t_106) fun _ σ =>
  if x2 = (0 : Int32) then (
  z_X4_readUnit_k4_135  σ
  ) else (
  ez_b2 (z_X4_readEither_k5 σ h0) fun t_120 σ =>
  if t_120 = (0 : Int32) then (
  z_X4_readUnit_k4_139  σ
  ) else (
  ez_b2 (z_X4_expect σ h0 (41 : Int32)) fun t_129 σ =>
  if t_129 = (0 : Int32) then (
  z_X4_readUnit_k4_139  σ
  ) else (
  z_X4_readUnit_k4_135  σ
  )
  )
  )
set_option maxRecDepth 100000 in
noncomputable def z_X4_readUnit_k4_67 (σ : ez_H) (h0 : Nat) (x2 : Int32) (x3 : Int32) : Option (Int32 × ez_H) :=
  ez_bd (ez_gr σ 4 h0 0) fun t_68 =>
  ez_bd (ez_gr σ 3 t_68 1) fun t_71 =>
  ez_bd (ez_gi σ 0 t_71 0) fun t_75 =>
  ez_let (t_75 + (1 : Int32)) fun t_79 =>
  ez_bd (ez_pf σ 0 t_71 0 (.inl t_79)) fun σ =>
  if x2 = (0 : Int32) then (
  ez_bd (ez_gr σ 4 h0 0) fun t_88 =>
  ez_bd (ez_gr σ 3 t_88 1) fun t_91 =>
  ez_bd (ez_gr σ 4 h0 3) fun t_96 =>
  ez_bd (ez_gi σ 9 t_96 6) fun t_99 =>
  ez_b2 (z_X0_append σ t_91 x3 t_99) fun _ σ =>
  z_X4_readUnit_k4_105  σ h0 x2
  ) else (
  z_X4_readUnit_k4_105  σ h0 x2
  )
set_option maxRecDepth 100000 in
noncomputable def z_X4_readUnit_k4_47 (σ : ez_H) (h0 : Nat) : Option (Int32 × ez_H) :=
  ez_b2 (z_X4_refuse σ h0) fun t_48 σ =>
  ez_nr .boolean t_48 <|
  some (t_48, σ)
set_option maxRecDepth 100000 in
noncomputable def z_X4_readUnit_k4_32 (σ : ez_H) (h0 : Nat) (x2 : Int32) (x3 : Int32) : Option (Int32 × ez_H) :=
  ez_bd (ez_gr σ 4 h0 0) fun t_33 =>
  ez_bd (ez_gr σ 3 t_33 1) fun t_36 =>
  ez_bd (ez_gi σ 0 t_36 0) fun t_39 =>
  if t_39 < (30 : Int32) then (
  if x2 = (0 : Int32) then (
  z_X4_readUnit_k4_67  σ h0 x2 x3
  ) else (
  z_X4_readUnit_k4_67  σ h0 x2 x3
  )
  ) else (
  z_X4_readUnit_k4_47  σ h0
  )
set_option maxRecDepth 100000 in
noncomputable def z_X4_readUnit_k4_17 (σ : ez_H) (h0 : Nat) (y0 : Int32) : Option (Int32 × ez_H) :=
  ez_bd (z_X4_unitHere σ h0) fun t_19 =>
  if y0 = (0 : Int32) then (
  if t_19 = (-1 : Int32) then (
  z_X4_readUnit_k4_47  σ h0
  ) else (
  z_X4_readUnit_k4_32  σ h0 y0 t_19
  )
  ) else (
  z_X4_readUnit_k4_32  σ h0 y0 t_19
  )
set_option maxRecDepth 100000 in
noncomputable def z_X4_readUnit_k4 (σ : ez_H) (h0 : Nat) : Option (Int32 × ez_H) :=
  ez_bd (ez_ob σ 4 h0) fun _ =>
  ez_bd (ez_gr σ 4 h0 3) fun t_1 =>
  ez_bd (ez_gi σ 9 t_1 4) fun t_4 =>
  if t_4 = (40 : Int32) then (
  z_X4_readUnit_k4_17  σ h0 (1 : Int32)
  ) else (
  z_X4_readUnit_k4_17  σ h0 (0 : Int32)
  )
set_option maxRecDepth 100000 in
noncomputable def z_X4_readTerm_k4_65 (σ : ez_H) (x2 : Int32) : Option (Int32 × ez_H) :=
  ez_nr .boolean x2 <|
  some (x2, σ)
set_option maxRecDepth 100000 in
noncomputable def z_X4_readTerm_k4_8 (k_8 : ez_H → Nat → Int32 → Int32 → Option (Int32 × ez_H)) (σ : ez_H) (h0 : Nat) (x2 : Int32) (x3 : Int32) : Option (Int32 × ez_H) :=
  if (1600 : Int32) ≤ x3 then (
  z_X4_readTerm_k4_65  σ x2
  ) else (
  if x2 = (0 : Int32) then (
  z_X4_readTerm_k4_65  σ x2
  ) else (
  ez_bd (z_X4_productHere σ h0) fun t_20 =>
  if t_20 = (-1 : Int32) then (
  z_X4_readTerm_k4_65  σ x2
  ) else (
  ez_bd (z_X4_productHere σ h0) fun t_28 =>
  ez_bd (ez_gr σ 4 h0 3) fun t_34 =>
  ez_b2 (z_X9_advance σ t_34) fun _ σ =>
  ez_b2 (z_X4_readUnit_k4 σ h0) fun t_42 σ =>
  ez_bd (ez_gr σ 4 h0 0) fun t_47 =>
  ez_bd (ez_gr σ 3 t_47 1) fun t_50 =>
  ez_b2 (z_X0_append σ t_50 t_28 (0 : Int32)) fun _ σ =>
  ez_let (x3 + 1) fun t_59 =>
  k_8 σ h0 t_42 t_59
  )
  )
  )
set_option maxRecDepth 100000 in
noncomputable def z_X4_readTerm_k4 (σ : ez_H) (h0 : Nat) : Option (Int32 × ez_H) :=
  ez_bd (ez_ob σ 4 h0) fun _ =>
  ez_b2 (z_X4_readUnit_k4 σ h0) fun t_2 σ =>
  ez_fix (fun _ _ _ _ => none) (z_X4_readTerm_k4_8 ) ez_N σ h0 t_2 (0 : Int32)
set_option maxRecDepth 100000 in
noncomputable def z_X4_readSum_k4_96 (σ : ez_H) (x2 : Int32) : Option (Int32 × ez_H) :=
  ez_nr .boolean x2 <|
  some (x2, σ)
set_option maxRecDepth 100000 in
noncomputable def z_X4_readSum_k4_62 (k_8 : ez_H → Nat → Int32 → Int32 → Option (Int32 × ez_H)) (σ : ez_H) (h0 : Nat) (x3 : Int32) (y0 : Int32) : Option (Int32 × ez_H) :=
  ez_bd (ez_gr σ 4 h0 3) fun t_65 =>
  ez_b2 (z_X9_advance σ t_65) fun _ σ =>
  ez_b2 (z_X4_readTerm_k4 σ h0) fun t_73 σ =>
  ez_bd (ez_gr σ 4 h0 0) fun t_78 =>
  ez_bd (ez_gr σ 3 t_78 1) fun t_81 =>
  ez_b2 (z_X0_append σ t_81 y0 (0 : Int32)) fun _ σ =>
  ez_let (x3 + 1) fun t_90 =>
  k_8 σ h0 t_73 t_90
set_option maxRecDepth 100000 in
noncomputable def z_X4_readSum_k4_43 (k_8 : ez_H → Nat → Int32 → Int32 → Option (Int32 × ez_H)) (σ : ez_H) (h0 : Nat) (x3 : Int32) : Option (Int32 × ez_H) :=
  ez_bd (ez_gr σ 4 h0 3) fun t_44 =>
  ez_bd (ez_gi σ 9 t_44 4) fun t_47 =>
  if t_47 = (43 : Int32) then (
  z_X4_readSum_k4_62 k_8 σ h0 x3 (11 : Int32)
  ) else (
  z_X4_readSum_k4_62 k_8 σ h0 x3 (12 : Int32)
  )
set_option maxRecDepth 100000 in
noncomputable def z_X4_readSum_k4_8 (k_8 : ez_H → Nat → Int32 → Int32 → Option (Int32 × ez_H)) (σ : ez_H) (h0 : Nat) (x2 : Int32) (x3 : Int32) : Option (Int32 × ez_H) :=
  if (1600 : Int32) ≤ x3 then (
  z_X4_readSum_k4_96  σ x2
  ) else (
  if x2 = (0 : Int32) then (
  z_X4_readSum_k4_96  σ x2
  ) else (
  ez_bd (ez_gr σ 4 h0 3) fun t_20 =>
  ez_bd (ez_gi σ 9 t_20 4) fun t_23 =>
  if t_23 = (43 : Int32) then (
  z_X4_readSum_k4_43 k_8 σ h0 x3
  ) else (
  ez_bd (ez_gr σ 4 h0 3) fun t_32 =>
  ez_bd (ez_gi σ 9 t_32 4) fun t_35 =>
  if t_35 = (45 : Int32) then (
  z_X4_readSum_k4_43 k_8 σ h0 x3
  ) else (
  z_X4_readSum_k4_96  σ x2
  )
  )
  )
  )
set_option maxRecDepth 100000 in
noncomputable def z_X4_readSum_k4 (σ : ez_H) (h0 : Nat) : Option (Int32 × ez_H) :=
  ez_bd (ez_ob σ 4 h0) fun _ =>
  ez_b2 (z_X4_readTerm_k4 σ h0) fun t_2 σ =>
  ez_fix (fun _ _ _ _ => none) (z_X4_readSum_k4_8 ) ez_N σ h0 t_2 (0 : Int32)
set_option maxRecDepth 100000 in
noncomputable def z_X4_readOne_k4_97 (σ : ez_H) (x2 : Int32) : Option (Int32 × ez_H) :=
  ez_nr .boolean x2 <|
  some (x2, σ)
set_option maxRecDepth 100000 in
noncomputable def z_X4_readOne_k4 (σ : ez_H) (h0 : Nat) : Option (Int32 × ez_H) :=
  ez_bd (ez_ob σ 4 h0) fun _ =>
  ez_bd (ez_gr σ 4 h0 3) fun t_1 =>
  ez_bd (ez_gi σ 9 t_1 4) fun t_4 =>
  if t_4 = (18 : Int32) then (
  ez_bd (ez_gr σ 4 h0 3) fun t_24 =>
  ez_b2 (z_X9_advance σ t_24) fun _ σ =>
  ez_b2 (z_X4_readOne_k5 σ h0) fun t_34 σ =>
  ez_bd (ez_gr σ 4 h0 0) fun t_39 =>
  ez_bd (ez_gr σ 3 t_39 1) fun t_42 =>
  ez_b2 (z_X0_append σ t_42 (5 : Int32) (0 : Int32)) fun _ σ =>
  ez_nr .boolean t_34 <|
  some (t_34, σ)
  ) else (
  ez_b2 (z_X4_readSum_k4 σ h0) fun t_54 σ =>
  ez_bd (z_X4_relationHere σ h0) fun t_59 =>
  if t_54 = (0 : Int32) then (
  z_X4_readOne_k4_97  σ t_54
  ) else (
  if t_59 = (-1 : Int32) then (
  z_X4_readOne_k4_97  σ t_54
  ) else (
  ez_bd (ez_gr σ 4 h0 3) fun t_73 =>
  ez_b2 (z_X9_advance σ t_73) fun _ σ =>
  ez_b2 (z_X4_readSum_k4 σ h0) fun t_81 σ =>
  ez_bd (ez_gr σ 4 h0 0) fun t_86 =>
  ez_bd (ez_gr σ 3 t_86 1) fun t_89 =>
  ez_b2 (z_X0_append σ t_89 t_59 (0 : Int32)) fun _ σ =>
  z_X4_readOne_k4_97  σ t_81
  )
  )
  )
set_option maxRecDepth 100000 in
noncomputable def z_X4_readBoth_k4_63 (σ : ez_H) (x2 : Int32) : Option (Int32 × ez_H) :=
  ez_nr .boolean x2 <|
  some (x2, σ)
set_option maxRecDepth 100000 in
noncomputable def z_X4_readBoth_k4_8 (k_8 : ez_H → Nat → Int32 → Int32 → Option (Int32 × ez_H)) (σ : ez_H) (h0 : Nat) (x2 : Int32) (x3 : Int32) : Option (Int32 × ez_H) :=
  if (1600 : Int32) ≤ x3 then (
  z_X4_readBoth_k4_63  σ x2
  ) else (
  if x2 = (0 : Int32) then (
  z_X4_readBoth_k4_63  σ x2
  ) else (
  ez_bd (ez_gr σ 4 h0 3) fun t_20 =>
  ez_bd (ez_gi σ 9 t_20 4) fun t_23 =>
  if t_23 = (17 : Int32) then (
  ez_bd (ez_gr σ 4 h0 3) fun t_32 =>
  ez_b2 (z_X9_advance σ t_32) fun _ σ =>
  ez_b2 (z_X4_readOne_k4 σ h0) fun t_40 σ =>
  ez_bd (ez_gr σ 4 h0 0) fun t_45 =>
  ez_bd (ez_gr σ 3 t_45 1) fun t_48 =>
  ez_b2 (z_X0_append σ t_48 (7 : Int32) (0 : Int32)) fun _ σ =>
  ez_let (x3 + 1) fun t_57 =>
  k_8 σ h0 t_40 t_57
  ) else (
  z_X4_readBoth_k4_63  σ x2
  )
  )
  )
set_option maxRecDepth 100000 in
noncomputable def z_X4_readBoth_k4 (σ : ez_H) (h0 : Nat) : Option (Int32 × ez_H) :=
  ez_bd (ez_ob σ 4 h0) fun _ =>
  ez_b2 (z_X4_readOne_k4 σ h0) fun t_2 σ =>
  ez_fix (fun _ _ _ _ => none) (z_X4_readBoth_k4_8 ) ez_N σ h0 t_2 (0 : Int32)
set_option maxRecDepth 100000 in
noncomputable def z_X4_readEither_k4_63 (σ : ez_H) (x2 : Int32) : Option (Int32 × ez_H) :=
  ez_nr .boolean x2 <|
  some (x2, σ)
set_option maxRecDepth 100000 in
noncomputable def z_X4_readEither_k4_8 (k_8 : ez_H → Nat → Int32 → Int32 → Option (Int32 × ez_H)) (σ : ez_H) (h0 : Nat) (x2 : Int32) (x3 : Int32) : Option (Int32 × ez_H) :=
  if (1600 : Int32) ≤ x3 then (
  z_X4_readEither_k4_63  σ x2
  ) else (
  if x2 = (0 : Int32) then (
  z_X4_readEither_k4_63  σ x2
  ) else (
  ez_bd (ez_gr σ 4 h0 3) fun t_20 =>
  ez_bd (ez_gi σ 9 t_20 4) fun t_23 =>
  if t_23 = (16 : Int32) then (
  ez_bd (ez_gr σ 4 h0 3) fun t_32 =>
  ez_b2 (z_X9_advance σ t_32) fun _ σ =>
  ez_b2 (z_X4_readBoth_k4 σ h0) fun t_40 σ =>
  ez_bd (ez_gr σ 4 h0 0) fun t_45 =>
  ez_bd (ez_gr σ 3 t_45 1) fun t_48 =>
  ez_b2 (z_X0_append σ t_48 (6 : Int32) (0 : Int32)) fun _ σ =>
  ez_let (x3 + 1) fun t_57 =>
  k_8 σ h0 t_40 t_57
  ) else (
  z_X4_readEither_k4_63  σ x2
  )
  )
  )
set_option maxRecDepth 100000 in
noncomputable def z_X4_readEither_k4 (σ : ez_H) (h0 : Nat) : Option (Int32 × ez_H) :=
  ez_bd (ez_ob σ 4 h0) fun _ =>
  ez_b2 (z_X4_readBoth_k4 σ h0) fun t_2 σ =>
  ez_fix (fun _ _ _ _ => none) (z_X4_readEither_k4_8 ) ez_N σ h0 t_2 (0 : Int32)
set_option maxRecDepth 100000 in
noncomputable def z_X4_readUnit_k3_140 (σ : ez_H) (y0 : Int32) : Option (Int32 × ez_H) :=
  ez_nr .boolean y0 <|
  some (y0, σ)
set_option maxRecDepth 100000 in
noncomputable def z_X4_readUnit_k3_135 (σ : ez_H) : Option (Int32 × ez_H) :=
  z_X4_readUnit_k3_140  σ (1 : Int32)
set_option maxRecDepth 100000 in
noncomputable def z_X4_readUnit_k3_139 (σ : ez_H) : Option (Int32 × ez_H) :=
  z_X4_readUnit_k3_140  σ (0 : Int32)
set_option maxRecDepth 100000 in
noncomputable def z_X4_readUnit_k3_105 (σ : ez_H) (h0 : Nat) (x2 : Int32) : Option (Int32 × ez_H) :=
  ez_bd (ez_gr σ 4 h0 3) fun t_106 =>
  ez_b2 (z_X9_advance σ t_106) fun _ σ =>
  if x2 = (0 : Int32) then (
  z_X4_readUnit_k3_135  σ
  ) else (
  ez_b2 (z_X4_readEither_k4 σ h0) fun t_120 σ =>
  if t_120 = (0 : Int32) then (
  z_X4_readUnit_k3_139  σ
  ) else (
  ez_b2 (z_X4_expect σ h0 (41 : Int32)) fun t_129 σ =>
  if t_129 = (0 : Int32) then (
  z_X4_readUnit_k3_139  σ
  ) else (
  z_X4_readUnit_k3_135  σ
  )
  )
  )
set_option maxRecDepth 100000 in
noncomputable def z_X4_readUnit_k3_67 (σ : ez_H) (h0 : Nat) (x2 : Int32) (x3 : Int32) : Option (Int32 × ez_H) :=
  ez_bd (ez_gr σ 4 h0 0) fun t_68 =>
  ez_bd (ez_gr σ 3 t_68 1) fun t_71 =>
  ez_bd (ez_gi σ 0 t_71 0) fun t_75 =>
  ez_let (t_75 + (1 : Int32)) fun t_79 =>
  ez_bd (ez_pf σ 0 t_71 0 (.inl t_79)) fun σ =>
  if x2 = (0 : Int32) then (
  ez_bd (ez_gr σ 4 h0 0) fun t_88 =>
  ez_bd (ez_gr σ 3 t_88 1) fun t_91 =>
  ez_bd (ez_gr σ 4 h0 3) fun t_96 =>
  ez_bd (ez_gi σ 9 t_96 6) fun t_99 =>
  ez_b2 (z_X0_append σ t_91 x3 t_99) fun _ σ =>
  z_X4_readUnit_k3_105  σ h0 x2
  ) else (
  z_X4_readUnit_k3_105  σ h0 x2
  )
set_option maxRecDepth 100000 in
noncomputable def z_X4_readUnit_k3_47 (σ : ez_H) (h0 : Nat) : Option (Int32 × ez_H) :=
  ez_b2 (z_X4_refuse σ h0) fun t_48 σ =>
  ez_nr .boolean t_48 <|
  some (t_48, σ)
set_option maxRecDepth 100000 in
noncomputable def z_X4_readUnit_k3_32 (σ : ez_H) (h0 : Nat) (x2 : Int32) (x3 : Int32) : Option (Int32 × ez_H) :=
  ez_bd (ez_gr σ 4 h0 0) fun t_33 =>
  ez_bd (ez_gr σ 3 t_33 1) fun t_36 =>
  ez_bd (ez_gi σ 0 t_36 0) fun t_39 =>
  if t_39 < (30 : Int32) then (
  if x2 = (0 : Int32) then (
  z_X4_readUnit_k3_67  σ h0 x2 x3
  ) else (
  z_X4_readUnit_k3_67  σ h0 x2 x3
  )
  ) else (
  z_X4_readUnit_k3_47  σ h0
  )
set_option maxRecDepth 100000 in
noncomputable def z_X4_readUnit_k3_17 (σ : ez_H) (h0 : Nat) (y0 : Int32) : Option (Int32 × ez_H) :=
  ez_bd (z_X4_unitHere σ h0) fun t_19 =>
  if y0 = (0 : Int32) then (
  if t_19 = (-1 : Int32) then (
  z_X4_readUnit_k3_47  σ h0
  ) else (
  z_X4_readUnit_k3_32  σ h0 y0 t_19
  )
  ) else (
  z_X4_readUnit_k3_32  σ h0 y0 t_19
  )
set_option maxRecDepth 100000 in
noncomputable def z_X4_readUnit_k3 (σ : ez_H) (h0 : Nat) : Option (Int32 × ez_H) :=
  ez_bd (ez_ob σ 4 h0) fun _ =>
  ez_bd (ez_gr σ 4 h0 3) fun t_1 =>
  ez_bd (ez_gi σ 9 t_1 4) fun t_4 =>
  if t_4 = (40 : Int32) then (
  z_X4_readUnit_k3_17  σ h0 (1 : Int32)
  ) else (
  z_X4_readUnit_k3_17  σ h0 (0 : Int32)
  )
set_option maxRecDepth 100000 in
noncomputable def z_X4_readTerm_k3_65 (σ : ez_H) (x2 : Int32) : Option (Int32 × ez_H) :=
  ez_nr .boolean x2 <|
  some (x2, σ)
set_option maxRecDepth 100000 in
noncomputable def z_X4_readTerm_k3_8 (k_8 : ez_H → Nat → Int32 → Int32 → Option (Int32 × ez_H)) (σ : ez_H) (h0 : Nat) (x2 : Int32) (x3 : Int32) : Option (Int32 × ez_H) :=
  if (1600 : Int32) ≤ x3 then (
  z_X4_readTerm_k3_65  σ x2
  ) else (
  if x2 = (0 : Int32) then (
  z_X4_readTerm_k3_65  σ x2
  ) else (
  ez_bd (z_X4_productHere σ h0) fun t_20 =>
  if t_20 = (-1 : Int32) then (
  z_X4_readTerm_k3_65  σ x2
  ) else (
  ez_bd (z_X4_productHere σ h0) fun t_28 =>
  ez_bd (ez_gr σ 4 h0 3) fun t_34 =>
  ez_b2 (z_X9_advance σ t_34) fun _ σ =>
  ez_b2 (z_X4_readUnit_k3 σ h0) fun t_42 σ =>
  ez_bd (ez_gr σ 4 h0 0) fun t_47 =>
  ez_bd (ez_gr σ 3 t_47 1) fun t_50 =>
  ez_b2 (z_X0_append σ t_50 t_28 (0 : Int32)) fun _ σ =>
  ez_let (x3 + 1) fun t_59 =>
  k_8 σ h0 t_42 t_59
  )
  )
  )
set_option maxRecDepth 100000 in
noncomputable def z_X4_readTerm_k3 (σ : ez_H) (h0 : Nat) : Option (Int32 × ez_H) :=
  ez_bd (ez_ob σ 4 h0) fun _ =>
  ez_b2 (z_X4_readUnit_k3 σ h0) fun t_2 σ =>
  ez_fix (fun _ _ _ _ => none) (z_X4_readTerm_k3_8 ) ez_N σ h0 t_2 (0 : Int32)
set_option maxRecDepth 100000 in
noncomputable def z_X4_readSum_k3_96 (σ : ez_H) (x2 : Int32) : Option (Int32 × ez_H) :=
  ez_nr .boolean x2 <|
  some (x2, σ)
set_option maxRecDepth 100000 in
noncomputable def z_X4_readSum_k3_62 (k_8 : ez_H → Nat → Int32 → Int32 → Option (Int32 × ez_H)) (σ : ez_H) (h0 : Nat) (x3 : Int32) (y0 : Int32) : Option (Int32 × ez_H) :=
  ez_bd (ez_gr σ 4 h0 3) fun t_65 =>
  ez_b2 (z_X9_advance σ t_65) fun _ σ =>
  ez_b2 (z_X4_readTerm_k3 σ h0) fun t_73 σ =>
  ez_bd (ez_gr σ 4 h0 0) fun t_78 =>
  ez_bd (ez_gr σ 3 t_78 1) fun t_81 =>
  ez_b2 (z_X0_append σ t_81 y0 (0 : Int32)) fun _ σ =>
  ez_let (x3 + 1) fun t_90 =>
  k_8 σ h0 t_73 t_90
set_option maxRecDepth 100000 in
noncomputable def z_X4_readSum_k3_43 (k_8 : ez_H → Nat → Int32 → Int32 → Option (Int32 × ez_H)) (σ : ez_H) (h0 : Nat) (x3 : Int32) : Option (Int32 × ez_H) :=
  ez_bd (ez_gr σ 4 h0 3) fun t_44 =>
  ez_bd (ez_gi σ 9 t_44 4) fun t_47 =>
  if t_47 = (43 : Int32) then (
  z_X4_readSum_k3_62 k_8 σ h0 x3 (11 : Int32)
  ) else (
  z_X4_readSum_k3_62 k_8 σ h0 x3 (12 : Int32)
  )
set_option maxRecDepth 100000 in
noncomputable def z_X4_readSum_k3_8 (k_8 : ez_H → Nat → Int32 → Int32 → Option (Int32 × ez_H)) (σ : ez_H) (h0 : Nat) (x2 : Int32) (x3 : Int32) : Option (Int32 × ez_H) :=
  if (1600 : Int32) ≤ x3 then (
  z_X4_readSum_k3_96  σ x2
  ) else (
  if x2 = (0 : Int32) then (
  z_X4_readSum_k3_96  σ x2
  ) else (
  ez_bd (ez_gr σ 4 h0 3) fun t_20 =>
  ez_bd (ez_gi σ 9 t_20 4) fun t_23 =>
  if t_23 = (43 : Int32) then (
  z_X4_readSum_k3_43 k_8 σ h0 x3
  ) else (
  ez_bd (ez_gr σ 4 h0 3) fun t_32 =>
  ez_bd (ez_gi σ 9 t_32 4) fun t_35 =>
  if t_35 = (45 : Int32) then (
  z_X4_readSum_k3_43 k_8 σ h0 x3
  ) else (
  z_X4_readSum_k3_96  σ x2
  )
  )
  )
  )
set_option maxRecDepth 100000 in
noncomputable def z_X4_readSum_k3 (σ : ez_H) (h0 : Nat) : Option (Int32 × ez_H) :=
  ez_bd (ez_ob σ 4 h0) fun _ =>
  ez_b2 (z_X4_readTerm_k3 σ h0) fun t_2 σ =>
  ez_fix (fun _ _ _ _ => none) (z_X4_readSum_k3_8 ) ez_N σ h0 t_2 (0 : Int32)
set_option maxRecDepth 100000 in
noncomputable def z_X4_readOne_k3_97 (σ : ez_H) (x2 : Int32) : Option (Int32 × ez_H) :=
  ez_nr .boolean x2 <|
  some (x2, σ)
set_option maxRecDepth 100000 in
noncomputable def z_X4_readOne_k3 (σ : ez_H) (h0 : Nat) : Option (Int32 × ez_H) :=
  ez_bd (ez_ob σ 4 h0) fun _ =>
  ez_bd (ez_gr σ 4 h0 3) fun t_1 =>
  ez_bd (ez_gi σ 9 t_1 4) fun t_4 =>
  if t_4 = (18 : Int32) then (
  ez_bd (ez_gr σ 4 h0 3) fun t_24 =>
  ez_b2 (z_X9_advance σ t_24) fun _ σ =>
  ez_b2 (z_X4_readOne_k4 σ h0) fun t_34 σ =>
  ez_bd (ez_gr σ 4 h0 0) fun t_39 =>
  ez_bd (ez_gr σ 3 t_39 1) fun t_42 =>
  ez_b2 (z_X0_append σ t_42 (5 : Int32) (0 : Int32)) fun _ σ =>
  ez_nr .boolean t_34 <|
  some (t_34, σ)
  ) else (
  ez_b2 (z_X4_readSum_k3 σ h0) fun t_54 σ =>
  ez_bd (z_X4_relationHere σ h0) fun t_59 =>
  if t_54 = (0 : Int32) then (
  z_X4_readOne_k3_97  σ t_54
  ) else (
  if t_59 = (-1 : Int32) then (
  z_X4_readOne_k3_97  σ t_54
  ) else (
  ez_bd (ez_gr σ 4 h0 3) fun t_73 =>
  ez_b2 (z_X9_advance σ t_73) fun _ σ =>
  ez_b2 (z_X4_readSum_k3 σ h0) fun t_81 σ =>
  ez_bd (ez_gr σ 4 h0 0) fun t_86 =>
  ez_bd (ez_gr σ 3 t_86 1) fun t_89 =>
  ez_b2 (z_X0_append σ t_89 t_59 (0 : Int32)) fun _ σ =>
  z_X4_readOne_k3_97  σ t_81
  )
  )
  )
set_option maxRecDepth 100000 in
noncomputable def z_X4_readBoth_k3_63 (σ : ez_H) (x2 : Int32) : Option (Int32 × ez_H) :=
  ez_nr .boolean x2 <|
  some (x2, σ)
set_option maxRecDepth 100000 in
noncomputable def z_X4_readBoth_k3_8 (k_8 : ez_H → Nat → Int32 → Int32 → Option (Int32 × ez_H)) (σ : ez_H) (h0 : Nat) (x2 : Int32) (x3 : Int32) : Option (Int32 × ez_H) :=
  if (1600 : Int32) ≤ x3 then (
  z_X4_readBoth_k3_63  σ x2
  ) else (
  if x2 = (0 : Int32) then (
  z_X4_readBoth_k3_63  σ x2
  ) else (
  ez_bd (ez_gr σ 4 h0 3) fun t_20 =>
  ez_bd (ez_gi σ 9 t_20 4) fun t_23 =>
  if t_23 = (17 : Int32) then (
  ez_bd (ez_gr σ 4 h0 3) fun t_32 =>
  ez_b2 (z_X9_advance σ t_32) fun _ σ =>
  ez_b2 (z_X4_readOne_k3 σ h0) fun t_40 σ =>
  ez_bd (ez_gr σ 4 h0 0) fun t_45 =>
  ez_bd (ez_gr σ 3 t_45 1) fun t_48 =>
  ez_b2 (z_X0_append σ t_48 (7 : Int32) (0 : Int32)) fun _ σ =>
  ez_let (x3 + 1) fun t_57 =>
  k_8 σ h0 t_40 t_57
  ) else (
  z_X4_readBoth_k3_63  σ x2
  )
  )
  )
set_option maxRecDepth 100000 in
noncomputable def z_X4_readBoth_k3 (σ : ez_H) (h0 : Nat) : Option (Int32 × ez_H) :=
  ez_bd (ez_ob σ 4 h0) fun _ =>
  ez_b2 (z_X4_readOne_k3 σ h0) fun t_2 σ =>
  ez_fix (fun _ _ _ _ => none) (z_X4_readBoth_k3_8 ) ez_N σ h0 t_2 (0 : Int32)
set_option maxRecDepth 100000 in
noncomputable def z_X4_readEither_k3_63 (σ : ez_H) (x2 : Int32) : Option (Int32 × ez_H) :=
  ez_nr .boolean x2 <|
  some (x2, σ)
set_option maxRecDepth 100000 in
noncomputable def z_X4_readEither_k3_8 (k_8 : ez_H → Nat → Int32 → Int32 → Option (Int32 × ez_H)) (σ : ez_H) (h0 : Nat) (x2 : Int32) (x3 : Int32) : Option (Int32 × ez_H) :=
  if (1600 : Int32) ≤ x3 then (
  z_X4_readEither_k3_63  σ x2
  ) else (
  if x2 = (0 : Int32) then (
  z_X4_readEither_k3_63  σ x2
  ) else (
  ez_bd (ez_gr σ 4 h0 3) fun t_20 =>
  ez_bd (ez_gi σ 9 t_20 4) fun t_23 =>
  if t_23 = (16 : Int32) then (
  ez_bd (ez_gr σ 4 h0 3) fun t_32 =>
  ez_b2 (z_X9_advance σ t_32) fun _ σ =>
  ez_b2 (z_X4_readBoth_k3 σ h0) fun t_40 σ =>
  ez_bd (ez_gr σ 4 h0 0) fun t_45 =>
  ez_bd (ez_gr σ 3 t_45 1) fun t_48 =>
  ez_b2 (z_X0_append σ t_48 (6 : Int32) (0 : Int32)) fun _ σ =>
  ez_let (x3 + 1) fun t_57 =>
  k_8 σ h0 t_40 t_57
  ) else (
  z_X4_readEither_k3_63  σ x2
  )
  )
  )
set_option maxRecDepth 100000 in
noncomputable def z_X4_readEither_k3 (σ : ez_H) (h0 : Nat) : Option (Int32 × ez_H) :=
  ez_bd (ez_ob σ 4 h0) fun _ =>
  ez_b2 (z_X4_readBoth_k3 σ h0) fun t_2 σ =>
  ez_fix (fun _ _ _ _ => none) (z_X4_readEither_k3_8 ) ez_N σ h0 t_2 (0 : Int32)
set_option maxRecDepth 100000 in
noncomputable def z_X4_readUnit_k2_140 (σ : ez_H) (y0 : Int32) : Option (Int32 × ez_H) :=
  ez_nr .boolean y0 <|
  some (y0, σ)
set_option maxRecDepth 100000 in
noncomputable def z_X4_readUnit_k2_135 (σ : ez_H) : Option (Int32 × ez_H) :=
  z_X4_readUnit_k2_140  σ (1 : Int32)
set_option maxRecDepth 100000 in
noncomputable def z_X4_readUnit_k2_139 (σ : ez_H) : Option (Int32 × ez_H) :=
  z_X4_readUnit_k2_140  σ (0 : Int32)
set_option maxRecDepth 100000 in
noncomputable def z_X4_readUnit_k2_105 (σ : ez_H) (h0 : Nat) (x2 : Int32) : Option (Int32 × ez_H) :=
  ez_bd (ez_gr σ 4 h0 3) fun t_106 =>
  ez_b2 (z_X9_advance σ t_106) fun _ σ =>
  if x2 = (0 : Int32) then (
  z_X4_readUnit_k2_135  σ
  ) else (
  ez_b2 (z_X4_readEither_k3 σ h0) fun t_120 σ =>
  if t_120 = (0 : Int32) then (
  z_X4_readUnit_k2_139  σ
  ) else (
  ez_b2 (z_X4_expect σ h0 (41 : Int32)) fun t_129 σ =>
  if t_129 = (0 : Int32) then (
  z_X4_readUnit_k2_139  σ
  ) else (
  z_X4_readUnit_k2_135  σ
  )
  )
  )
set_option maxRecDepth 100000 in
noncomputable def z_X4_readUnit_k2_67 (σ : ez_H) (h0 : Nat) (x2 : Int32) (x3 : Int32) : Option (Int32 × ez_H) :=
  ez_bd (ez_gr σ 4 h0 0) fun t_68 =>
  ez_bd (ez_gr σ 3 t_68 1) fun t_71 =>
  ez_bd (ez_gi σ 0 t_71 0) fun t_75 =>
  ez_let (t_75 + (1 : Int32)) fun t_79 =>
  ez_bd (ez_pf σ 0 t_71 0 (.inl t_79)) fun σ =>
  if x2 = (0 : Int32) then (
  ez_bd (ez_gr σ 4 h0 0) fun t_88 =>
  ez_bd (ez_gr σ 3 t_88 1) fun t_91 =>
  ez_bd (ez_gr σ 4 h0 3) fun t_96 =>
  ez_bd (ez_gi σ 9 t_96 6) fun t_99 =>
  ez_b2 (z_X0_append σ t_91 x3 t_99) fun _ σ =>
  z_X4_readUnit_k2_105  σ h0 x2
  ) else (
  z_X4_readUnit_k2_105  σ h0 x2
  )
set_option maxRecDepth 100000 in
noncomputable def z_X4_readUnit_k2_47 (σ : ez_H) (h0 : Nat) : Option (Int32 × ez_H) :=
  ez_b2 (z_X4_refuse σ h0) fun t_48 σ =>
  ez_nr .boolean t_48 <|
  some (t_48, σ)
set_option maxRecDepth 100000 in
noncomputable def z_X4_readUnit_k2_32 (σ : ez_H) (h0 : Nat) (x2 : Int32) (x3 : Int32) : Option (Int32 × ez_H) :=
  ez_bd (ez_gr σ 4 h0 0) fun t_33 =>
  ez_bd (ez_gr σ 3 t_33 1) fun t_36 =>
  ez_bd (ez_gi σ 0 t_36 0) fun t_39 =>
  if t_39 < (30 : Int32) then (
  if x2 = (0 : Int32) then (
  z_X4_readUnit_k2_67  σ h0 x2 x3
  ) else (
  z_X4_readUnit_k2_67  σ h0 x2 x3
  )
  ) else (
  z_X4_readUnit_k2_47  σ h0
  )
set_option maxRecDepth 100000 in
noncomputable def z_X4_readUnit_k2_17 (σ : ez_H) (h0 : Nat) (y0 : Int32) : Option (Int32 × ez_H) :=
  ez_bd (z_X4_unitHere σ h0) fun t_19 =>
  if y0 = (0 : Int32) then (
  if t_19 = (-1 : Int32) then (
  z_X4_readUnit_k2_47  σ h0
  ) else (
  z_X4_readUnit_k2_32  σ h0 y0 t_19
  )
  ) else (
  z_X4_readUnit_k2_32  σ h0 y0 t_19
  )
set_option maxRecDepth 100000 in
noncomputable def z_X4_readUnit_k2 (σ : ez_H) (h0 : Nat) : Option (Int32 × ez_H) :=
  ez_bd (ez_ob σ 4 h0) fun _ =>
  ez_bd (ez_gr σ 4 h0 3) fun t_1 =>
  ez_bd (ez_gi σ 9 t_1 4) fun t_4 =>
  if t_4 = (40 : Int32) then (
  z_X4_readUnit_k2_17  σ h0 (1 : Int32)
  ) else (
  z_X4_readUnit_k2_17  σ h0 (0 : Int32)
  )
set_option maxRecDepth 100000 in
noncomputable def z_X4_readTerm_k2_65 (σ : ez_H) (x2 : Int32) : Option (Int32 × ez_H) :=
  ez_nr .boolean x2 <|
  some (x2, σ)
set_option maxRecDepth 100000 in
noncomputable def z_X4_readTerm_k2_8 (k_8 : ez_H → Nat → Int32 → Int32 → Option (Int32 × ez_H)) (σ : ez_H) (h0 : Nat) (x2 : Int32) (x3 : Int32) : Option (Int32 × ez_H) :=
  if (1600 : Int32) ≤ x3 then (
  z_X4_readTerm_k2_65  σ x2
  ) else (
  if x2 = (0 : Int32) then (
  z_X4_readTerm_k2_65  σ x2
  ) else (
  ez_bd (z_X4_productHere σ h0) fun t_20 =>
  if t_20 = (-1 : Int32) then (
  z_X4_readTerm_k2_65  σ x2
  ) else (
  ez_bd (z_X4_productHere σ h0) fun t_28 =>
  ez_bd (ez_gr σ 4 h0 3) fun t_34 =>
  ez_b2 (z_X9_advance σ t_34) fun _ σ =>
  ez_b2 (z_X4_readUnit_k2 σ h0) fun t_42 σ =>
  ez_bd (ez_gr σ 4 h0 0) fun t_47 =>
  ez_bd (ez_gr σ 3 t_47 1) fun t_50 =>
  ez_b2 (z_X0_append σ t_50 t_28 (0 : Int32)) fun _ σ =>
  ez_let (x3 + 1) fun t_59 =>
  k_8 σ h0 t_42 t_59
  )
  )
  )
set_option maxRecDepth 100000 in
noncomputable def z_X4_readTerm_k2 (σ : ez_H) (h0 : Nat) : Option (Int32 × ez_H) :=
  ez_bd (ez_ob σ 4 h0) fun _ =>
  ez_b2 (z_X4_readUnit_k2 σ h0) fun t_2 σ =>
  ez_fix (fun _ _ _ _ => none) (z_X4_readTerm_k2_8 ) ez_N σ h0 t_2 (0 : Int32)
set_option maxRecDepth 100000 in
noncomputable def z_X4_readSum_k2_96 (σ : ez_H) (x2 : Int32) : Option (Int32 × ez_H) :=
  ez_nr .boolean x2 <|
  some (x2, σ)
set_option maxRecDepth 100000 in
noncomputable def z_X4_readSum_k2_62 (k_8 : ez_H → Nat → Int32 → Int32 → Option (Int32 × ez_H)) (σ : ez_H) (h0 : Nat) (x3 : Int32) (y0 : Int32) : Option (Int32 × ez_H) :=
  ez_bd (ez_gr σ 4 h0 3) fun t_65 =>
  ez_b2 (z_X9_advance σ t_65) fun _ σ =>
  ez_b2 (z_X4_readTerm_k2 σ h0) fun t_73 σ =>
  ez_bd (ez_gr σ 4 h0 0) fun t_78 =>
  ez_bd (ez_gr σ 3 t_78 1) fun t_81 =>
  ez_b2 (z_X0_append σ t_81 y0 (0 : Int32)) fun _ σ =>
  ez_let (x3 + 1) fun t_90 =>
  k_8 σ h0 t_73 t_90
set_option maxRecDepth 100000 in
noncomputable def z_X4_readSum_k2_43 (k_8 : ez_H → Nat → Int32 → Int32 → Option (Int32 × ez_H)) (σ : ez_H) (h0 : Nat) (x3 : Int32) : Option (Int32 × ez_H) :=
  ez_bd (ez_gr σ 4 h0 3) fun t_44 =>
  ez_bd (ez_gi σ 9 t_44 4) fun t_47 =>
  if t_47 = (43 : Int32) then (
  z_X4_readSum_k2_62 k_8 σ h0 x3 (11 : Int32)
  ) else (
  z_X4_readSum_k2_62 k_8 σ h0 x3 (12 : Int32)
  )
set_option maxRecDepth 100000 in
noncomputable def z_X4_readSum_k2_8 (k_8 : ez_H → Nat → Int32 → Int32 → Option (Int32 × ez_H)) (σ : ez_H) (h0 : Nat) (x2 : Int32) (x3 : Int32) : Option (Int32 × ez_H) :=
  if (1600 : Int32) ≤ x3 then (
  z_X4_readSum_k2_96  σ x2
  ) else (
  if x2 = (0 : Int32) then (
  z_X4_readSum_k2_96  σ x2
  ) else (
  ez_bd (ez_gr σ 4 h0 3) fun t_20 =>
  ez_bd (ez_gi σ 9 t_20 4) fun t_23 =>
  if t_23 = (43 : Int32) then (
  z_X4_readSum_k2_43 k_8 σ h0 x3
  ) else (
  ez_bd (ez_gr σ 4 h0 3) fun t_32 =>
  ez_bd (ez_gi σ 9 t_32 4) fun t_35 =>
  if t_35 = (45 : Int32) then (
  z_X4_readSum_k2_43 k_8 σ h0 x3
  ) else (
  z_X4_readSum_k2_96  σ x2
  )
  )
  )
  )
set_option maxRecDepth 100000 in
noncomputable def z_X4_readSum_k2 (σ : ez_H) (h0 : Nat) : Option (Int32 × ez_H) :=
  ez_bd (ez_ob σ 4 h0) fun _ =>
  ez_b2 (z_X4_readTerm_k2 σ h0) fun t_2 σ =>
  ez_fix (fun _ _ _ _ => none) (z_X4_readSum_k2_8 ) ez_N σ h0 t_2 (0 : Int32)
set_option maxRecDepth 100000 in
noncomputable def z_X4_readOne_k2_97 (σ : ez_H) (x2 : Int32) : Option (Int32 × ez_H) :=
  ez_nr .boolean x2 <|
  some (x2, σ)
set_option maxRecDepth 100000 in
noncomputable def z_X4_readOne_k2 (σ : ez_H) (h0 : Nat) : Option (Int32 × ez_H) :=
  ez_bd (ez_ob σ 4 h0) fun _ =>
  ez_bd (ez_gr σ 4 h0 3) fun t_1 =>
  ez_bd (ez_gi σ 9 t_1 4) fun t_4 =>
  if t_4 = (18 : Int32) then (
  ez_bd (ez_gr σ 4 h0 3) fun t_24 =>
  ez_b2 (z_X9_advance σ t_24) fun _ σ =>
  ez_b2 (z_X4_readOne_k3 σ h0) fun t_34 σ =>
  ez_bd (ez_gr σ 4 h0 0) fun t_39 =>
  ez_bd (ez_gr σ 3 t_39 1) fun t_42 =>
  ez_b2 (z_X0_append σ t_42 (5 : Int32) (0 : Int32)) fun _ σ =>
  ez_nr .boolean t_34 <|
  some (t_34, σ)
  ) else (
  ez_b2 (z_X4_readSum_k2 σ h0) fun t_54 σ =>
  ez_bd (z_X4_relationHere σ h0) fun t_59 =>
  if t_54 = (0 : Int32) then (
  z_X4_readOne_k2_97  σ t_54
  ) else (
  if t_59 = (-1 : Int32) then (
  z_X4_readOne_k2_97  σ t_54
  ) else (
  ez_bd (ez_gr σ 4 h0 3) fun t_73 =>
  ez_b2 (z_X9_advance σ t_73) fun _ σ =>
  ez_b2 (z_X4_readSum_k2 σ h0) fun t_81 σ =>
  ez_bd (ez_gr σ 4 h0 0) fun t_86 =>
  ez_bd (ez_gr σ 3 t_86 1) fun t_89 =>
  ez_b2 (z_X0_append σ t_89 t_59 (0 : Int32)) fun _ σ =>
  z_X4_readOne_k2_97  σ t_81
  )
  )
  )
set_option maxRecDepth 100000 in
noncomputable def z_X4_readBoth_k2_63 (σ : ez_H) (x2 : Int32) : Option (Int32 × ez_H) :=
  ez_nr .boolean x2 <|
  some (x2, σ)
set_option maxRecDepth 100000 in
noncomputable def z_X4_readBoth_k2_8 (k_8 : ez_H → Nat → Int32 → Int32 → Option (Int32 × ez_H)) (σ : ez_H) (h0 : Nat) (x2 : Int32) (x3 : Int32) : Option (Int32 × ez_H) :=
  if (1600 : Int32) ≤ x3 then (
  z_X4_readBoth_k2_63  σ x2
  ) else (
  if x2 = (0 : Int32) then (
  z_X4_readBoth_k2_63  σ x2
  ) else (
  ez_bd (ez_gr σ 4 h0 3) fun t_20 =>
  ez_bd (ez_gi σ 9 t_20 4) fun t_23 =>
  if t_23 = (17 : Int32) then (
  ez_bd (ez_gr σ 4 h0 3) fun t_32 =>
  ez_b2 (z_X9_advance σ t_32) fun _ σ =>
  ez_b2 (z_X4_readOne_k2 σ h0) fun t_40 σ =>
  ez_bd (ez_gr σ 4 h0 0) fun t_45 =>
  ez_bd (ez_gr σ 3 t_45 1) fun t_48 =>
  ez_b2 (z_X0_append σ t_48 (7 : Int32) (0 : Int32)) fun _ σ =>
  ez_let (x3 + 1) fun t_57 =>
  k_8 σ h0 t_40 t_57
  ) else (
  z_X4_readBoth_k2_63  σ x2
  )
  )
  )
set_option maxRecDepth 100000 in
noncomputable def z_X4_readBoth_k2 (σ : ez_H) (h0 : Nat) : Option (Int32 × ez_H) :=
  ez_bd (ez_ob σ 4 h0) fun _ =>
  ez_b2 (z_X4_readOne_k2 σ h0) fun t_2 σ =>
  ez_fix (fun _ _ _ _ => none) (z_X4_readBoth_k2_8 ) ez_N σ h0 t_2 (0 : Int32)
set_option maxRecDepth 100000 in
noncomputable def z_X4_readEither_k2_63 (σ : ez_H) (x2 : Int32) : Option (Int32 × ez_H) :=
  ez_nr .boolean x2 <|
  some (x2, σ)
set_option maxRecDepth 100000 in
noncomputable def z_X4_readEither_k2_8 (k_8 : ez_H → Nat → Int32 → Int32 → Option (Int32 × ez_H)) (σ : ez_H) (h0 : Nat) (x2 : Int32) (x3 : Int32) : Option (Int32 × ez_H) :=
  if (1600 : Int32) ≤ x3 then (
  z_X4_readEither_k2_63  σ x2
  ) else (
  if x2 = (0 : Int32) then (
  z_X4_readEither_k2_63  σ x2
  ) else (
  ez_bd (ez_gr σ 4 h0 3) fun t_20 =>
  ez_bd (ez_gi σ 9 t_20 4) fun t_23 =>
  if t_23 = (16 : Int32) then (
  ez_bd (ez_gr σ 4 h0 3) fun t_32 =>
  ez_b2 (z_X9_advance σ t_32) fun _ σ =>
  ez_b2 (z_X4_readBoth_k2 σ h0) fun t_40 σ =>
  ez_bd (ez_gr σ 4 h0 0) fun t_45 =>
  ez_bd (ez_gr σ 3 t_45 1) fun t_48 =>
  ez_b2 (z_X0_append σ t_48 (6 : Int32) (0 : Int32)) fun _ σ =>
  ez_let (x3 + 1) fun t_57 =>
  k_8 σ h0 t_40 t_57
  ) else (
  z_X4_readEither_k2_63  σ x2
  )
  )
  )
set_option maxRecDepth 100000 in
noncomputable def z_X4_readEither_k2 (σ : ez_H) (h0 : Nat) : Option (Int32 × ez_H) :=
  ez_bd (ez_ob σ 4 h0) fun _ =>
  ez_b2 (z_X4_readBoth_k2 σ h0) fun t_2 σ =>
  ez_fix (fun _ _ _ _ => none) (z_X4_readEither_k2_8 ) ez_N σ h0 t_2 (0 : Int32)
set_option maxRecDepth 100000 in
noncomputable def z_X4_readUnit_k1_140 (σ : ez_H) (y0 : Int32) : Option (Int32 × ez_H) :=
  ez_nr .boolean y0 <|
  some (y0, σ)
set_option maxRecDepth 100000 in
noncomputable def z_X4_readUnit_k1_135 (σ : ez_H) : Option (Int32 × ez_H) :=
  z_X4_readUnit_k1_140  σ (1 : Int32)
set_option maxRecDepth 100000 in
noncomputable def z_X4_readUnit_k1_139 (σ : ez_H) : Option (Int32 × ez_H) :=
  z_X4_readUnit_k1_140  σ (0 : Int32)
set_option maxRecDepth 100000 in
noncomputable def z_X4_readUnit_k1_105 (σ : ez_H) (h0 : Nat) (x2 : Int32) : Option (Int32 × ez_H) :=
  ez_bd (ez_gr σ 4 h0 3) fun t_106 =>
  ez_b2 (z_X9_advance σ t_106) fun _ σ =>
  if x2 = (0 : Int32) then (
  z_X4_readUnit_k1_135  σ
  ) else (
  ez_b2 (z_X4_readEither_k2 σ h0) fun t_120 σ =>
  if t_120 = (0 : Int32) then (
  z_X4_readUnit_k1_139  σ
  ) else (
  ez_b2 (z_X4_expect σ h0 (41 : Int32)) fun t_129 σ =>
  if t_129 = (0 : Int32) then (
  z_X4_readUnit_k1_139  σ
  ) else (
  z_X4_readUnit_k1_135  σ
  )
  )
  )
set_option maxRecDepth 100000 in
noncomputable def z_X4_readUnit_k1_67 (σ : ez_H) (h0 : Nat) (x2 : Int32) (x3 : Int32) : Option (Int32 × ez_H) :=
  ez_bd (ez_gr σ 4 h0 0) fun t_68 =>
  ez_bd (ez_gr σ 3 t_68 1) fun t_71 =>
  ez_bd (ez_gi σ 0 t_71 0) fun t_75 =>
  ez_let (t_75 + (1 : Int32)) fun t_79 =>
  ez_bd (ez_pf σ 0 t_71 0 (.inl t_79)) fun σ =>
  if x2 = (0 : Int32) then (
  ez_bd (ez_gr σ 4 h0 0) fun t_88 =>
  ez_bd (ez_gr σ 3 t_88 1) fun t_91 =>
  ez_bd (ez_gr σ 4 h0 3) fun t_96 =>
  ez_bd (ez_gi σ 9 t_96 6) fun t_99 =>
  ez_b2 (z_X0_append σ t_91 x3 t_99) fun _ σ =>
  z_X4_readUnit_k1_105  σ h0 x2
  ) else (
  z_X4_readUnit_k1_105  σ h0 x2
  )
set_option maxRecDepth 100000 in
noncomputable def z_X4_readUnit_k1_47 (σ : ez_H) (h0 : Nat) : Option (Int32 × ez_H) :=
  ez_b2 (z_X4_refuse σ h0) fun t_48 σ =>
  ez_nr .boolean t_48 <|
  some (t_48, σ)
set_option maxRecDepth 100000 in
noncomputable def z_X4_readUnit_k1_32 (σ : ez_H) (h0 : Nat) (x2 : Int32) (x3 : Int32) : Option (Int32 × ez_H) :=
  ez_bd (ez_gr σ 4 h0 0) fun t_33 =>
  ez_bd (ez_gr σ 3 t_33 1) fun t_36 =>
  ez_bd (ez_gi σ 0 t_36 0) fun t_39 =>
  if t_39 < (30 : Int32) then (
  if x2 = (0 : Int32) then (
  z_X4_readUnit_k1_67  σ h0 x2 x3
  ) else (
  z_X4_readUnit_k1_67  σ h0 x2 x3
  )
  ) else (
  z_X4_readUnit_k1_47  σ h0
  )
set_option maxRecDepth 100000 in
noncomputable def z_X4_readUnit_k1_17 (σ : ez_H) (h0 : Nat) (y0 : Int32) : Option (Int32 × ez_H) :=
  ez_bd (z_X4_unitHere σ h0) fun t_19 =>
  if y0 = (0 : Int32) then (
  if t_19 = (-1 : Int32) then (
  z_X4_readUnit_k1_47  σ h0
  ) else (
  z_X4_readUnit_k1_32  σ h0 y0 t_19
  )
  ) else (
  z_X4_readUnit_k1_32  σ h0 y0 t_19
  )
set_option maxRecDepth 100000 in
noncomputable def z_X4_readUnit_k1 (σ : ez_H) (h0 : Nat) : Option (Int32 × ez_H) :=
  ez_bd (ez_ob σ 4 h0) fun _ =>
  ez_bd (ez_gr σ 4 h0 3) fun t_1 =>
  ez_bd (ez_gi σ 9 t_1 4) fun t_4 =>
  if t_4 = (40 : Int32) then (
  z_X4_readUnit_k1_17  σ h0 (1 : Int32)
  ) else (
  z_X4_readUnit_k1_17  σ h0 (0 : Int32)
  )
set_option maxRecDepth 100000 in
noncomputable def z_X4_readTerm_k1_65 (σ : ez_H) (x2 : Int32) : Option (Int32 × ez_H) :=
  ez_nr .boolean x2 <|
  some (x2, σ)
set_option maxRecDepth 100000 in
noncomputable def z_X4_readTerm_k1_8 (k_8 : ez_H → Nat → Int32 → Int32 → Option (Int32 × ez_H)) (σ : ez_H) (h0 : Nat) (x2 : Int32) (x3 : Int32) : Option (Int32 × ez_H) :=
  if (1600 : Int32) ≤ x3 then (
  z_X4_readTerm_k1_65  σ x2
  ) else (
  if x2 = (0 : Int32) then (
  z_X4_readTerm_k1_65  σ x2
  ) else (
  ez_bd (z_X4_productHere σ h0) fun t_20 =>
  if t_20 = (-1 : Int32) then (
  z_X4_readTerm_k1_65  σ x2
  ) else (
  ez_bd (z_X4_productHere σ h0) fun t_28 =>
  ez_bd (ez_gr σ 4 h0 3) fun t_34 =>
  ez_b2 (z_X9_advance σ t_34) fun _ σ =>
  ez_b2 (z_X4_readUnit_k1 σ h0) fun t_42 σ =>
  ez_bd (ez_gr σ 4 h0 0) fun t_47 =>
  ez_bd (ez_gr σ 3 t_47 1) fun t_50 =>
  ez_b2 (z_X0_append σ t_50 t_28 (0 : Int32)) fun _ σ =>
  ez_let (x3 + 1) fun t_59 =>
  k_8 σ h0 t_42 t_59
  )
  )
  )
set_option maxRecDepth 100000 in
noncomputable def z_X4_readTerm_k1 (σ : ez_H) (h0 : Nat) : Option (Int32 × ez_H) :=
  ez_bd (ez_ob σ 4 h0) fun _ =>
  ez_b2 (z_X4_readUnit_k1 σ h0) fun t_2 σ =>
  ez_fix (fun _ _ _ _ => none) (z_X4_readTerm_k1_8 ) ez_N σ h0 t_2 (0 : Int32)
set_option maxRecDepth 100000 in
noncomputable def z_X4_readSum_k1_96 (σ : ez_H) (x2 : Int32) : Option (Int32 × ez_H) :=
  ez_nr .boolean x2 <|
  some (x2, σ)
set_option maxRecDepth 100000 in
noncomputable def z_X4_readSum_k1_62 (k_8 : ez_H → Nat → Int32 → Int32 → Option (Int32 × ez_H)) (σ : ez_H) (h0 : Nat) (x3 : Int32) (y0 : Int32) : Option (Int32 × ez_H) :=
  ez_bd (ez_gr σ 4 h0 3) fun t_65 =>
  ez_b2 (z_X9_advance σ t_65) fun _ σ =>
  ez_b2 (z_X4_readTerm_k1 σ h0) fun t_73 σ =>
  ez_bd (ez_gr σ 4 h0 0) fun t_78 =>
  ez_bd (ez_gr σ 3 t_78 1) fun t_81 =>
  ez_b2 (z_X0_append σ t_81 y0 (0 : Int32)) fun _ σ =>
  ez_let (x3 + 1) fun t_90 =>
  k_8 σ h0 t_73 t_90
set_option maxRecDepth 100000 in
noncomputable def z_X4_readSum_k1_43 (k_8 : ez_H → Nat → Int32 → Int32 → Option (Int32 × ez_H)) (σ : ez_H) (h0 : Nat) (x3 : Int32) : Option (Int32 × ez_H) :=
  ez_bd (ez_gr σ 4 h0 3) fun t_44 =>
  ez_bd (ez_gi σ 9 t_44 4) fun t_47 =>
  if t_47 = (43 : Int32) then (
  z_X4_readSum_k1_62 k_8 σ h0 x3 (11 : Int32)
  ) else (
  z_X4_readSum_k1_62 k_8 σ h0 x3 (12 : Int32)
  )
set_option maxRecDepth 100000 in
noncomputable def z_X4_readSum_k1_8 (k_8 : ez_H → Nat → Int32 → Int32 → Option (Int32 × ez_H)) (σ : ez_H) (h0 : Nat) (x2 : Int32) (x3 : Int32) : Option (Int32 × ez_H) :=
  if (1600 : Int32) ≤ x3 then (
  z_X4_readSum_k1_96  σ x2
  ) else (
  if x2 = (0 : Int32) then (
  z_X4_readSum_k1_96  σ x2
  ) else (
  ez_bd (ez_gr σ 4 h0 3) fun t_20 =>
  ez_bd (ez_gi σ 9 t_20 4) fun t_23 =>
  if t_23 = (43 : Int32) then (
  z_X4_readSum_k1_43 k_8 σ h0 x3
  ) else (
  ez_bd (ez_gr σ 4 h0 3) fun t_32 =>
  ez_bd (ez_gi σ 9 t_32 4) fun t_35 =>
  if t_35 = (45 : Int32) then (
  z_X4_readSum_k1_43 k_8 σ h0 x3
  ) else (
  z_X4_readSum_k1_96  σ x2
  )
  )
  )
  )
set_option maxRecDepth 100000 in
noncomputable def z_X4_readSum_k1 (σ : ez_H) (h0 : Nat) : Option (Int32 × ez_H) :=
  ez_bd (ez_ob σ 4 h0) fun _ =>
  ez_b2 (z_X4_readTerm_k1 σ h0) fun t_2 σ =>
  ez_fix (fun _ _ _ _ => none) (z_X4_readSum_k1_8 ) ez_N σ h0 t_2 (0 : Int32)
set_option maxRecDepth 100000 in
noncomputable def z_X4_readOne_k1_97 (σ : ez_H) (x2 : Int32) : Option (Int32 × ez_H) :=
  ez_nr .boolean x2 <|
  some (x2, σ)
set_option maxRecDepth 100000 in
noncomputable def z_X4_readOne_k1 (σ : ez_H) (h0 : Nat) : Option (Int32 × ez_H) :=
  ez_bd (ez_ob σ 4 h0) fun _ =>
  ez_bd (ez_gr σ 4 h0 3) fun t_1 =>
  ez_bd (ez_gi σ 9 t_1 4) fun t_4 =>
  if t_4 = (18 : Int32) then (
  ez_bd (ez_gr σ 4 h0 3) fun t_24 =>
  ez_b2 (z_X9_advance σ t_24) fun _ σ =>
  ez_b2 (z_X4_readOne_k2 σ h0) fun t_34 σ =>
  ez_bd (ez_gr σ 4 h0 0) fun t_39 =>
  ez_bd (ez_gr σ 3 t_39 1) fun t_42 =>
  ez_b2 (z_X0_append σ t_42 (5 : Int32) (0 : Int32)) fun _ σ =>
  ez_nr .boolean t_34 <|
  some (t_34, σ)
  ) else (
  ez_b2 (z_X4_readSum_k1 σ h0) fun t_54 σ =>
  ez_bd (z_X4_relationHere σ h0) fun t_59 =>
  if t_54 = (0 : Int32) then (
  z_X4_readOne_k1_97  σ t_54
  ) else (
  if t_59 = (-1 : Int32) then (
  z_X4_readOne_k1_97  σ t_54
  ) else (
  ez_bd (ez_gr σ 4 h0 3) fun t_73 =>
  ez_b2 (z_X9_advance σ t_73) fun _ σ =>
  ez_b2 (z_X4_readSum_k1 σ h0) fun t_81 σ =>
  ez_bd (ez_gr σ 4 h0 0) fun t_86 =>
  ez_bd (ez_gr σ 3 t_86 1) fun t_89 =>
  ez_b2 (z_X0_append σ t_89 t_59 (0 : Int32)) fun _ σ =>
  z_X4_readOne_k1_97  σ t_81
  )
  )
  )
set_option maxRecDepth 100000 in
noncomputable def z_X4_readBoth_k1_63 (σ : ez_H) (x2 : Int32) : Option (Int32 × ez_H) :=
  ez_nr .boolean x2 <|
  some (x2, σ)
set_option maxRecDepth 100000 in
noncomputable def z_X4_readBoth_k1_8 (k_8 : ez_H → Nat → Int32 → Int32 → Option (Int32 × ez_H)) (σ : ez_H) (h0 : Nat) (x2 : Int32) (x3 : Int32) : Option (Int32 × ez_H) :=
  if (1600 : Int32) ≤ x3 then (
  z_X4_readBoth_k1_63  σ x2
  ) else (
  if x2 = (0 : Int32) then (
  z_X4_readBoth_k1_63  σ x2
  ) else (
  ez_bd (ez_gr σ 4 h0 3) fun t_20 =>
  ez_bd (ez_gi σ 9 t_20 4) fun t_23 =>
  if t_23 = (17 : Int32) then (
  ez_bd (ez_gr σ 4 h0 3) fun t_32 =>
  ez_b2 (z_X9_advance σ t_32) fun _ σ =>
  ez_b2 (z_X4_readOne_k1 σ h0) fun t_40 σ =>
  ez_bd (ez_gr σ 4 h0 0) fun t_45 =>
  ez_bd (ez_gr σ 3 t_45 1) fun t_48 =>
  ez_b2 (z_X0_append σ t_48 (7 : Int32) (0 : Int32)) fun _ σ =>
  ez_let (x3 + 1) fun t_57 =>
  k_8 σ h0 t_40 t_57
  ) else (
  z_X4_readBoth_k1_63  σ x2
  )
  )
  )
set_option maxRecDepth 100000 in
noncomputable def z_X4_readBoth_k1 (σ : ez_H) (h0 : Nat) : Option (Int32 × ez_H) :=
  ez_bd (ez_ob σ 4 h0) fun _ =>
  ez_b2 (z_X4_readOne_k1 σ h0) fun t_2 σ =>
  ez_fix (fun _ _ _ _ => none) (z_X4_readBoth_k1_8 ) ez_N σ h0 t_2 (0 : Int32)
set_option maxRecDepth 100000 in
noncomputable def z_X4_readEither_k1_63 (σ : ez_H) (x2 : Int32) : Option (Int32 × ez_H) :=
  ez_nr .boolean x2 <|
  some (x2, σ)
set_option maxRecDepth 100000 in
noncomputable def z_X4_readEither_k1_8 (k_8 : ez_H → Nat → Int32 → Int32 → Option (Int32 × ez_H)) (σ : ez_H) (h0 : Nat) (x2 : Int32) (x3 : Int32) : Option (Int32 × ez_H) :=
  if (1600 : Int32) ≤ x3 then (
  z_X4_readEither_k1_63  σ x2
  ) else (
  if x2 = (0 : Int32) then (
  z_X4_readEither_k1_63  σ x2
  ) else (
  ez_bd (ez_gr σ 4 h0 3) fun t_20 =>
  ez_bd (ez_gi σ 9 t_20 4) fun t_23 =>
  if t_23 = (16 : Int32) then (
  ez_bd (ez_gr σ 4 h0 3) fun t_32 =>
  ez_b2 (z_X9_advance σ t_32) fun _ σ =>
  ez_b2 (z_X4_readBoth_k1 σ h0) fun t_40 σ =>
  ez_bd (ez_gr σ 4 h0 0) fun t_45 =>
  ez_bd (ez_gr σ 3 t_45 1) fun t_48 =>
  ez_b2 (z_X0_append σ t_48 (6 : Int32) (0 : Int32)) fun _ σ =>
  ez_let (x3 + 1) fun t_57 =>
  k_8 σ h0 t_40 t_57
  ) else (
  z_X4_readEither_k1_63  σ x2
  )
  )
  )
set_option maxRecDepth 100000 in
noncomputable def z_X4_readEither_k1 (σ : ez_H) (h0 : Nat) : Option (Int32 × ez_H) :=
  ez_bd (ez_ob σ 4 h0) fun _ =>
  ez_b2 (z_X4_readBoth_k1 σ h0) fun t_2 σ =>
  ez_fix (fun _ _ _ _ => none) (z_X4_readEither_k1_8 ) ez_N σ h0 t_2 (0 : Int32)
set_option maxRecDepth 100000 in
noncomputable def z_X4_readUnit_k0_140 (σ : ez_H) (y0 : Int32) : Option (Int32 × ez_H) :=
  ez_nr .boolean y0 <|
  some (y0, σ)
set_option maxRecDepth 100000 in
noncomputable def z_X4_readUnit_k0_135 (σ : ez_H) : Option (Int32 × ez_H) :=
  z_X4_readUnit_k0_140  σ (1 : Int32)
set_option maxRecDepth 100000 in
noncomputable def z_X4_readUnit_k0_139 (σ : ez_H) : Option (Int32 × ez_H) :=
  z_X4_readUnit_k0_140  σ (0 : Int32)
set_option maxRecDepth 100000 in
noncomputable def z_X4_readUnit_k0_105 (σ : ez_H) (h0 : Nat) (x2 : Int32) : Option (Int32 × ez_H) :=
  ez_bd (ez_gr σ 4 h0 3) fun t_106 =>
  ez_b2 (z_X9_advance σ t_106) fun _ σ =>
  if x2 = (0 : Int32) then (
  z_X4_readUnit_k0_135  σ
  ) else (
  ez_b2 (z_X4_readEither_k1 σ h0) fun t_120 σ =>
  if t_120 = (0 : Int32) then (
  z_X4_readUnit_k0_139  σ
  ) else (
  ez_b2 (z_X4_expect σ h0 (41 : Int32)) fun t_129 σ =>
  if t_129 = (0 : Int32) then (
  z_X4_readUnit_k0_139  σ
  ) else (
  z_X4_readUnit_k0_135  σ
  )
  )
  )
set_option maxRecDepth 100000 in
noncomputable def z_X4_readUnit_k0_67 (σ : ez_H) (h0 : Nat) (x2 : Int32) (x3 : Int32) : Option (Int32 × ez_H) :=
  ez_bd (ez_gr σ 4 h0 0) fun t_68 =>
  ez_bd (ez_gr σ 3 t_68 1) fun t_71 =>
  ez_bd (ez_gi σ 0 t_71 0) fun t_75 =>
  ez_let (t_75 + (1 : Int32)) fun t_79 =>
  ez_bd (ez_pf σ 0 t_71 0 (.inl t_79)) fun σ =>
  if x2 = (0 : Int32) then (
  ez_bd (ez_gr σ 4 h0 0) fun t_88 =>
  ez_bd (ez_gr σ 3 t_88 1) fun t_91 =>
  ez_bd (ez_gr σ 4 h0 3) fun t_96 =>
  ez_bd (ez_gi σ 9 t_96 6) fun t_99 =>
  ez_b2 (z_X0_append σ t_91 x3 t_99) fun _ σ =>
  z_X4_readUnit_k0_105  σ h0 x2
  ) else (
  z_X4_readUnit_k0_105  σ h0 x2
  )
set_option maxRecDepth 100000 in
noncomputable def z_X4_readUnit_k0_47 (σ : ez_H) (h0 : Nat) : Option (Int32 × ez_H) :=
  ez_b2 (z_X4_refuse σ h0) fun t_48 σ =>
  ez_nr .boolean t_48 <|
  some (t_48, σ)
set_option maxRecDepth 100000 in
noncomputable def z_X4_readUnit_k0_32 (σ : ez_H) (h0 : Nat) (x2 : Int32) (x3 : Int32) : Option (Int32 × ez_H) :=
  ez_bd (ez_gr σ 4 h0 0) fun t_33 =>
  ez_bd (ez_gr σ 3 t_33 1) fun t_36 =>
  ez_bd (ez_gi σ 0 t_36 0) fun t_39 =>
  if t_39 < (30 : Int32) then (
  if x2 = (0 : Int32) then (
  z_X4_readUnit_k0_67  σ h0 x2 x3
  ) else (
  z_X4_readUnit_k0_67  σ h0 x2 x3
  )
  ) else (
  z_X4_readUnit_k0_47  σ h0
  )
set_option maxRecDepth 100000 in
noncomputable def z_X4_readUnit_k0_17 (σ : ez_H) (h0 : Nat) (y0 : Int32) : Option (Int32 × ez_H) :=
  ez_bd (z_X4_unitHere σ h0) fun t_19 =>
  if y0 = (0 : Int32) then (
  if t_19 = (-1 : Int32) then (
  z_X4_readUnit_k0_47  σ h0
  ) else (
  z_X4_readUnit_k0_32  σ h0 y0 t_19
  )
  ) else (
  z_X4_readUnit_k0_32  σ h0 y0 t_19
  )
set_option maxRecDepth 100000 in
noncomputable def z_X4_readUnit_k0 (σ : ez_H) (h0 : Nat) : Option (Int32 × ez_H) :=
  ez_bd (ez_ob σ 4 h0) fun _ =>
  ez_bd (ez_gr σ 4 h0 3) fun t_1 =>
  ez_bd (ez_gi σ 9 t_1 4) fun t_4 =>
  if t_4 = (40 : Int32) then (
  z_X4_readUnit_k0_17  σ h0 (1 : Int32)
  ) else (
  z_X4_readUnit_k0_17  σ h0 (0 : Int32)
  )
set_option maxRecDepth 100000 in
noncomputable def z_X4_readTerm_k0_65 (σ : ez_H) (x2 : Int32) : Option (Int32 × ez_H) :=
  ez_nr .boolean x2 <|
  some (x2, σ)
set_option maxRecDepth 100000 in
noncomputable def z_X4_readTerm_k0_8 (k_8 : ez_H → Nat → Int32 → Int32 → Option (Int32 × ez_H)) (σ : ez_H) (h0 : Nat) (x2 : Int32) (x3 : Int32) : Option (Int32 × ez_H) :=
  if (1600 : Int32) ≤ x3 then (
  z_X4_readTerm_k0_65  σ x2
  ) else (
  if x2 = (0 : Int32) then (
  z_X4_readTerm_k0_65  σ x2
  ) else (
  ez_bd (z_X4_productHere σ h0) fun t_20 =>
  if t_20 = (-1 : Int32) then (
  z_X4_readTerm_k0_65  σ x2
  ) else (
  ez_bd (z_X4_productHere σ h0) fun t_28 =>
  ez_bd (ez_gr σ 4 h0 3) fun t_34 =>
  ez_b2 (z_X9_advance σ t_34) fun _ σ =>
  ez_b2 (z_X4_readUnit_k0 σ h0) fun t_42 σ =>
  ez_bd (ez_gr σ 4 h0 0) fun t_47 =>
  ez_bd (ez_gr σ 3 t_47 1) fun t_50 =>
  ez_b2 (z_X0_append σ t_50 t_28 (0 : Int32)) fun _ σ =>
  ez_let (x3 + 1) fun t_59 =>
  k_8 σ h0 t_42 t_59
  )
  )
  )
set_option maxRecDepth 100000 in
noncomputable def z_X4_readTerm_k0 (σ : ez_H) (h0 : Nat) : Option (Int32 × ez_H) :=
  ez_bd (ez_ob σ 4 h0) fun _ =>
  ez_b2 (z_X4_readUnit_k0 σ h0) fun t_2 σ =>
  ez_fix (fun _ _ _ _ => none) (z_X4_readTerm_k0_8 ) ez_N σ h0 t_2 (0 : Int32)
set_option maxRecDepth 100000 in
noncomputable def z_X4_readSum_k0_96 (σ : ez_H) (x2 : Int32) : Option (Int32 × ez_H) :=
  ez_nr .boolean x2 <|
  some (x2, σ)
set_option maxRecDepth 100000 in
noncomputable def z_X4_readSum_k0_62 (k_8 : ez_H → Nat → Int32 → Int32 → Option (Int32 × ez_H)) (σ : ez_H) (h0 : Nat) (x3 : Int32) (y0 : Int32) : Option (Int32 × ez_H) :=
  ez_bd (ez_gr σ 4 h0 3) fun t_65 =>
  ez_b2 (z_X9_advance σ t_65) fun _ σ =>
  ez_b2 (z_X4_readTerm_k0 σ h0) fun t_73 σ =>
  ez_bd (ez_gr σ 4 h0 0) fun t_78 =>
  ez_bd (ez_gr σ 3 t_78 1) fun t_81 =>
  ez_b2 (z_X0_append σ t_81 y0 (0 : Int32)) fun _ σ =>
  ez_let (x3 + 1) fun t_90 =>
  k_8 σ h0 t_73 t_90
set_option maxRecDepth 100000 in
noncomputable def z_X4_readSum_k0_43 (k_8 : ez_H → Nat → Int32 → Int32 → Option (Int32 × ez_H)) (σ : ez_H) (h0 : Nat) (x3 : Int32) : Option (Int32 × ez_H) :=
  ez_bd (ez_gr σ 4 h0 3) fun t_44 =>
  ez_bd (ez_gi σ 9 t_44 4) fun t_47 =>
  if t_47 = (43 : Int32) then (
  z_X4_readSum_k0_62 k_8 σ h0 x3 (11 : Int32)
  ) else (
  z_X4_readSum_k0_62 k_8 σ h0 x3 (12 : Int32)
  )
set_option maxRecDepth 100000 in
noncomputable def z_X4_readSum_k0_8 (k_8 : ez_H → Nat → Int32 → Int32 → Option (Int32 × ez_H)) (σ : ez_H) (h0 : Nat) (x2 : Int32) (x3 : Int32) : Option (Int32 × ez_H) :=
  if (1600 : Int32) ≤ x3 then (
  z_X4_readSum_k0_96  σ x2
  ) else (
  if x2 = (0 : Int32) then (
  z_X4_readSum_k0_96  σ x2
  ) else (
  ez_bd (ez_gr σ 4 h0 3) fun t_20 =>
  ez_bd (ez_gi σ 9 t_20 4) fun t_23 =>
  if t_23 = (43 : Int32) then (
  z_X4_readSum_k0_43 k_8 σ h0 x3
  ) else (
  ez_bd (ez_gr σ 4 h0 3) fun t_32 =>
  ez_bd (ez_gi σ 9 t_32 4) fun t_35 =>
  if t_35 = (45 : Int32) then (
  z_X4_readSum_k0_43 k_8 σ h0 x3
  ) else (
  z_X4_readSum_k0_96  σ x2
  )
  )
  )
  )
set_option maxRecDepth 100000 in
noncomputable def z_X4_readSum_k0 (σ : ez_H) (h0 : Nat) : Option (Int32 × ez_H) :=
  ez_bd (ez_ob σ 4 h0) fun _ =>
  ez_b2 (z_X4_readTerm_k0 σ h0) fun t_2 σ =>
  ez_fix (fun _ _ _ _ => none) (z_X4_readSum_k0_8 ) ez_N σ h0 t_2 (0 : Int32)
set_option maxRecDepth 100000 in
noncomputable def z_X4_readOne_k0_97 (σ : ez_H) (x2 : Int32) : Option (Int32 × ez_H) :=
  ez_nr .boolean x2 <|
  some (x2, σ)
set_option maxRecDepth 100000 in
noncomputable def z_X4_readOne_k0 (σ : ez_H) (h0 : Nat) : Option (Int32 × ez_H) :=
  ez_bd (ez_ob σ 4 h0) fun _ =>
  ez_bd (ez_gr σ 4 h0 3) fun t_1 =>
  ez_bd (ez_gi σ 9 t_1 4) fun t_4 =>
  if t_4 = (18 : Int32) then (
  ez_bd (ez_gr σ 4 h0 3) fun t_24 =>
  ez_b2 (z_X9_advance σ t_24) fun _ σ =>
  ez_b2 (z_X4_readOne_k1 σ h0) fun t_34 σ =>
  ez_bd (ez_gr σ 4 h0 0) fun t_39 =>
  ez_bd (ez_gr σ 3 t_39 1) fun t_42 =>
  ez_b2 (z_X0_append σ t_42 (5 : Int32) (0 : Int32)) fun _ σ =>
  ez_nr .boolean t_34 <|
  some (t_34, σ)
  ) else (
  ez_b2 (z_X4_readSum_k0 σ h0) fun t_54 σ =>
  ez_bd (z_X4_relationHere σ h0) fun t_59 =>
  if t_54 = (0 : Int32) then (
  z_X4_readOne_k0_97  σ t_54
  ) else (
  if t_59 = (-1 : Int32) then (
  z_X4_readOne_k0_97  σ t_54
  ) else (
  ez_bd (ez_gr σ 4 h0 3) fun t_73 =>
  ez_b2 (z_X9_advance σ t_73) fun _ σ =>
  ez_b2 (z_X4_readSum_k0 σ h0) fun t_81 σ =>
  ez_bd (ez_gr σ 4 h0 0) fun t_86 =>
  ez_bd (ez_gr σ 3 t_86 1) fun t_89 =>
  ez_b2 (z_X0_append σ t_89 t_59 (0 : Int32)) fun _ σ =>
  z_X4_readOne_k0_97  σ t_81
  )
  )
  )
set_option maxRecDepth 100000 in
noncomputable def z_X4_readBoth_k0_63 (σ : ez_H) (x2 : Int32) : Option (Int32 × ez_H) :=
  ez_nr .boolean x2 <|
  some (x2, σ)
set_option maxRecDepth 100000 in
noncomputable def z_X4_readBoth_k0_8 (k_8 : ez_H → Nat → Int32 → Int32 → Option (Int32 × ez_H)) (σ : ez_H) (h0 : Nat) (x2 : Int32) (x3 : Int32) : Option (Int32 × ez_H) :=
  if (1600 : Int32) ≤ x3 then (
  z_X4_readBoth_k0_63  σ x2
  ) else (
  if x2 = (0 : Int32) then (
  z_X4_readBoth_k0_63  σ x2
  ) else (
  ez_bd (ez_gr σ 4 h0 3) fun t_20 =>
  ez_bd (ez_gi σ 9 t_20 4) fun t_23 =>
  if t_23 = (17 : Int32) then (
  ez_bd (ez_gr σ 4 h0 3) fun t_32 =>
  ez_b2 (z_X9_advance σ t_32) fun _ σ =>
  ez_b2 (z_X4_readOne_k0 σ h0) fun t_40 σ =>
  ez_bd (ez_gr σ 4 h0 0) fun t_45 =>
  ez_bd (ez_gr σ 3 t_45 1) fun t_48 =>
  ez_b2 (z_X0_append σ t_48 (7 : Int32) (0 : Int32)) fun _ σ =>
  ez_let (x3 + 1) fun t_57 =>
  k_8 σ h0 t_40 t_57
  ) else (
  z_X4_readBoth_k0_63  σ x2
  )
  )
  )
set_option maxRecDepth 100000 in
noncomputable def z_X4_readBoth_k0 (σ : ez_H) (h0 : Nat) : Option (Int32 × ez_H) :=
  ez_bd (ez_ob σ 4 h0) fun _ =>
  ez_b2 (z_X4_readOne_k0 σ h0) fun t_2 σ =>
  ez_fix (fun _ _ _ _ => none) (z_X4_readBoth_k0_8 ) ez_N σ h0 t_2 (0 : Int32)
set_option maxRecDepth 100000 in
noncomputable def z_X4_readEither_k0_63 (σ : ez_H) (x2 : Int32) : Option (Int32 × ez_H) :=
  ez_nr .boolean x2 <|
  some (x2, σ)
set_option maxRecDepth 100000 in
noncomputable def z_X4_readEither_k0_8 (k_8 : ez_H → Nat → Int32 → Int32 → Option (Int32 × ez_H)) (σ : ez_H) (h0 : Nat) (x2 : Int32) (x3 : Int32) : Option (Int32 × ez_H) :=
  if (1600 : Int32) ≤ x3 then (
  z_X4_readEither_k0_63  σ x2
  ) else (
  if x2 = (0 : Int32) then (
  z_X4_readEither_k0_63  σ x2
  ) else (
  ez_bd (ez_gr σ 4 h0 3) fun t_20 =>
  ez_bd (ez_gi σ 9 t_20 4) fun t_23 =>
  if t_23 = (16 : Int32) then (
  ez_bd (ez_gr σ 4 h0 3) fun t_32 =>
  ez_b2 (z_X9_advance σ t_32) fun _ σ =>
  ez_b2 (z_X4_readBoth_k0 σ h0) fun t_40 σ =>
  ez_bd (ez_gr σ 4 h0 0) fun t_45 =>
  ez_bd (ez_gr σ 3 t_45 1) fun t_48 =>
  ez_b2 (z_X0_append σ t_48 (6 : Int32) (0 : Int32)) fun _ σ =>
  ez_let (x3 + 1) fun t_57 =>
  k_8 σ h0 t_40 t_57
  ) else (
  z_X4_readEither_k0_63  σ x2
  )
  )
  )
set_option maxRecDepth 100000 in
noncomputable def z_X4_readEither_k0 (σ : ez_H) (h0 : Nat) : Option (Int32 × ez_H) :=
  ez_bd (ez_ob σ 4 h0) fun _ =>
  ez_b2 (z_X4_readBoth_k0 σ h0) fun t_2 σ =>
  ez_fix (fun _ _ _ _ => none) (z_X4_readEither_k0_8 ) ez_N σ h0 t_2 (0 : Int32)
set_option maxRecDepth 100000 in
noncomputable def z_X4_named_9 (σ : ez_H) : Option (Int32) :=
  some (-1 : Int32)
set_option maxRecDepth 100000 in
noncomputable def z_X4_named_51 (σ : ez_H) : Option (Int32) :=
  some (-1 : Int32)
set_option maxRecDepth 100000 in
noncomputable def z_X4_named_13 (σ : ez_H) (k_13 : Nat → Int32 → Int32 → Int32 → Option (Int32)) (h0 : Nat) (x1 : Int32) (x2 : Int32) (x3 : Int32) : Option (Int32) :=
  if x2 ≤ x3 then (
  z_X4_named_51 σ 
  ) else (
  if (8 : Int32) ≤ x3 then (
  z_X4_named_51 σ 
  ) else (
  ez_bd (ez_gr σ 4 h0 4) fun t_25 =>
  ez_bd (ez_ra σ 5 t_25 x1) fun t_29 =>
  ez_bd (ez_la σ t_29 x3) fun t_31 =>
  ez_bd (ez_gr σ 4 h0 3) fun t_33 =>
  ez_bd (ez_gl σ 9 t_33 7) fun t_36 =>
  ez_let (lg_cmp t_31 t_36) fun t_39 =>
  if t_39 = (0 : Int32) then (
  some x3
  ) else (
  ez_let (x3 + 1) fun t_45 =>
  k_13 h0 x1 x2 t_45
  )
  )
  )
set_option maxRecDepth 100000 in
noncomputable def z_X4_named (σ : ez_H) (h0 : Nat) (x1 : Int32) (x2 : Int32) : Option (Int32) :=
  ez_bd (ez_ob σ 4 h0) fun _ =>
  if x1 < (0 : Int32) then (
  z_X4_named_9 σ 
  ) else (
  if x1 < (5 : Int32) then (
  ez_fix (fun _ _ _ _ => none) (z_X4_named_13 σ) ez_N h0 x1 x2 (0 : Int32)
  ) else (
  z_X4_named_9 σ 
  )
  )
set_option maxRecDepth 100000 in
noncomputable def z_X4_knownName_37 (σ : ez_H) (x3 : Int32) : Option (Int32 × ez_H) :=
  some (x3, σ)
set_option maxRecDepth 100000 in
noncomputable def z_X4_knownName (σ : ez_H) (h0 : Nat) (x1 : Int32) (x2 : Int32) : Option (Int32 × ez_H) :=
  ez_bd (ez_ob σ 4 h0) fun _ =>
  ez_bd (ez_gr σ 4 h0 3) fun t_1 =>
  ez_bd (ez_gi σ 9 t_1 4) fun t_4 =>
  if t_4 = (23 : Int32) then (
  ez_bd (z_X4_named σ h0 x1 x2) fun t_22 =>
  if t_22 = (-1 : Int32) then (
  ez_b2 (z_X4_blame σ h0 (5 : Int32)) fun t_33 σ =>
  z_X4_knownName_37  σ t_22
  ) else (
  z_X4_knownName_37  σ t_22
  )
  ) else (
  ez_b2 (z_X4_refuse σ h0) fun t_13 σ =>
  some ((-1 : Int32), σ)
  )
set_option maxRecDepth 100000 in
noncomputable def z_X3_addMust_22 (σ : ez_H) : Option (Unit × ez_H) :=
  some ((), σ)
set_option maxRecDepth 100000 in
noncomputable def z_X3_addMust (σ : ez_H) (h0 : Nat) (x1 : Int32) (x2 : Int32) : Option (Unit × ez_H) :=
  ez_bd (ez_ob σ 3 h0) fun _ =>
  if x2 < (0 : Int32) then (
  z_X3_addMust_22  σ
  ) else (
  if (6 : Int32) ≤ x2 then (
  z_X3_addMust_22  σ
  ) else (
  ez_bd (ez_gr σ 3 h0 11) fun t_11 =>
  ez_bd (ez_ia σ 1 t_11 x2) fun t_16 =>
  ez_let ((1 : Int32) <<< (x1 &&& 31)) fun t_19 =>
  ez_let (t_16 ||| t_19) fun t_20 =>
  ez_bd (ez_is σ 1 t_11 x2 t_20) fun σ =>
  z_X3_addMust_22  σ
  )
  )
set_option maxRecDepth 100000 in
noncomputable def z_X3_addNever_22 (σ : ez_H) : Option (Unit × ez_H) :=
  some ((), σ)
set_option maxRecDepth 100000 in
noncomputable def z_X3_addNever (σ : ez_H) (h0 : Nat) (x1 : Int32) (x2 : Int32) : Option (Unit × ez_H) :=
  ez_bd (ez_ob σ 3 h0) fun _ =>
  if x2 < (0 : Int32) then (
  z_X3_addNever_22  σ
  ) else (
  if (6 : Int32) ≤ x2 then (
  z_X3_addNever_22  σ
  ) else (
  ez_bd (ez_gr σ 3 h0 12) fun t_11 =>
  ez_bd (ez_ia σ 1 t_11 x2) fun t_16 =>
  ez_let ((1 : Int32) <<< (x1 &&& 31)) fun t_19 =>
  ez_let (t_16 ||| t_19) fun t_20 =>
  ez_bd (ez_is σ 1 t_11 x2 t_20) fun σ =>
  z_X3_addNever_22  σ
  )
  )
set_option maxRecDepth 100000 in
noncomputable def z_X4_readRule_127 (σ : ez_H) (h0 : Nat) : Option (Int32 × ez_H) :=
  ez_bd (ez_gr σ 4 h0 3) fun t_128 =>
  ez_b2 (z_X9_advance σ t_128) fun _ σ =>
  ez_b2 (z_X4_expect σ h0 (59 : Int32)) fun t_137 σ =>
  ez_nr .boolean t_137 <|
  some (t_137, σ)
set_option maxRecDepth 100000 in
noncomputable def z_X4_readRule_17 (σ : ez_H) (h0 : Nat) (y0 : Int32) : Option (Int32 × ez_H) :=
  ez_bd (ez_gr σ 4 h0 3) fun t_19 =>
  ez_b2 (z_X9_advance σ t_19) fun _ σ =>
  ez_bd (ez_gr σ 4 h0 0) fun t_28 =>
  ez_bd (ez_gi σ 3 t_28 3) fun t_31 =>
  ez_b2 (z_X4_knownName σ h0 (0 : Int32) t_31) fun t_34 σ =>
  if t_34 = (-1 : Int32) then (
  some ((0 : Int32), σ)
  ) else (
  ez_bd (ez_gr σ 4 h0 3) fun t_46 =>
  ez_b2 (z_X9_advance σ t_46) fun _ σ =>
  ez_bd (ez_gr σ 4 h0 0) fun t_55 =>
  ez_bd (ez_gi σ 3 t_55 4) fun t_58 =>
  ez_b2 (z_X4_knownName σ h0 (1 : Int32) t_58) fun t_61 σ =>
  if t_61 = (-1 : Int32) then (
  some ((0 : Int32), σ)
  ) else (
  ez_bd (ez_gr σ 4 h0 0) fun t_73 =>
  ez_bd (z_X3_mustOf σ t_73 t_61) fun t_77 =>
  ez_bd (ez_gr σ 4 h0 0) fun t_81 =>
  ez_bd (z_X3_neverOf σ t_81 t_61) fun t_85 =>
  ez_let (t_77 ||| t_85) fun t_88 =>
  ez_let (t_88 >>> (t_34 &&& 31)) fun t_90 =>
  ez_let (t_90 &&& (1 : Int32)) fun t_92 =>
  if t_92 = (0 : Int32) then (
  if y0 = (0 : Int32) then (
  ez_bd (ez_gr σ 4 h0 0) fun t_119 =>
  ez_b2 (z_X3_addNever σ t_119 t_34 t_61) fun _ σ =>
  z_X4_readRule_127  σ h0
  ) else (
  ez_bd (ez_gr σ 4 h0 0) fun t_107 =>
  ez_b2 (z_X3_addMust σ t_107 t_34 t_61) fun _ σ =>
  z_X4_readRule_127  σ h0
  )
  ) else (
  ez_b2 (z_X4_blame σ h0 (3 : Int32)) fun t_98 σ =>
  ez_nr .boolean t_98 <|
  some (t_98, σ)
  )
  )
  )
set_option maxRecDepth 100000 in
noncomputable def z_X4_readRule (σ : ez_H) (h0 : Nat) : Option (Int32 × ez_H) :=
  ez_bd (ez_ob σ 4 h0) fun _ =>
  ez_bd (ez_gr σ 4 h0 3) fun t_1 =>
  ez_bd (ez_gi σ 9 t_1 4) fun t_4 =>
  if t_4 = (8 : Int32) then (
  z_X4_readRule_17  σ h0 (1 : Int32)
  ) else (
  z_X4_readRule_17  σ h0 (0 : Int32)
  )
set_option maxRecDepth 100000 in
noncomputable def z_X4_readNewName_84 (σ : ez_H) (h0 : Nat) : Option (Int32 × ez_H) :=
  ez_bd (ez_gr σ 4 h0 3) fun t_85 =>
  ez_b2 (z_X9_advance σ t_85) fun _ σ =>
  some ((1 : Int32), σ)
set_option maxRecDepth 100000 in
noncomputable def z_X4_readNewName (σ : ez_H) (h0 : Nat) (x1 : Int32) (x2 : Int32) (x3 : Int32) : Option (Int32 × ez_H) :=
  ez_bd (ez_ob σ 4 h0) fun _ =>
  if x2 < x3 then (
  ez_bd (ez_gr σ 4 h0 3) fun t_11 =>
  ez_b2 (z_X9_advance σ t_11) fun _ σ =>
  ez_bd (ez_gr σ 4 h0 3) fun t_18 =>
  ez_bd (ez_gi σ 9 t_18 4) fun t_21 =>
  if t_21 = (23 : Int32) then (
  ez_bd (z_X4_named σ h0 x1 x2) fun t_37 =>
  if t_37 = (-1 : Int32) then (
  if x1 < (0 : Int32) then (
  z_X4_readNewName_84  σ h0
  ) else (
  if (5 : Int32) ≤ x1 then (
  z_X4_readNewName_84  σ h0
  ) else (
  if x2 < (0 : Int32) then (
  z_X4_readNewName_84  σ h0
  ) else (
  if (8 : Int32) ≤ x2 then (
  z_X4_readNewName_84  σ h0
  ) else (
  ez_bd (ez_gr σ 4 h0 4) fun t_70 =>
  ez_bd (ez_ra σ 5 t_70 x1) fun t_74 =>
  ez_bd (ez_gr σ 4 h0 3) fun t_77 =>
  ez_bd (ez_gl σ 9 t_77 7) fun t_80 =>
  ez_bd (ez_lst σ t_74 x2 t_80) fun σ =>
  z_X4_readNewName_84  σ h0
  )
  )
  )
  )
  ) else (
  ez_b2 (z_X4_blame σ h0 (3 : Int32)) fun t_46 σ =>
  ez_nr .boolean t_46 <|
  some (t_46, σ)
  )
  ) else (
  ez_b2 (z_X4_refuse σ h0) fun t_30 σ =>
  ez_nr .boolean t_30 <|
  some (t_30, σ)
  )
  ) else (
  ez_b2 (z_X4_refuse σ h0) fun t_6 σ =>
  ez_nr .boolean t_6 <|
  some (t_6, σ)
  )
