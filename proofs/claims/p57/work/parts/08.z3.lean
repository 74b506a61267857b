set_option maxRecDepth 100000 in
noncomputable def z_X12_readLine_239 (σ : ez_H) (h0 : Nat) : Option (Unit × ez_H) :=
  ez_bd (z_X12_isSignHere σ h0 (59 : Int32)) fun t_243 =>
  ez_b2 (z_X12_must σ h0 t_243) fun _ σ =>
  some ((), σ)
set_option maxRecDepth 100000 in
noncomputable def z_X12_readLine_213 (σ : ez_H) (h0 : Nat) (x1 : Int64) : Option (Unit × ez_H) :=
  ez_let (lg_cmp x1 (1685217655 : Int64)) fun t_217 =>
  if t_217 = (0 : Int32) then (
  ez_bd (ez_gr σ 12 h0 20) fun t_222 =>
  ez_bd (ez_gi σ 12 h0 44) fun t_226 =>
  ez_b2 (z_X12_once σ h0 (4 : Int32) (0 : Int32) (999 : Int32)) fun t_235 σ =>
  ez_bd (ez_is σ 1 t_222 t_226 t_235) fun σ =>
  z_X12_readLine_239  σ h0
  ) else (
  z_X12_readLine_239  σ h0
  )
set_option maxRecDepth 100000 in
noncomputable def z_X12_readLine_201 (σ : ez_H) (h0 : Nat) (x1 : Int64) : Option (Unit × ez_H) :=
  ez_let (lg_cmp x1 (2003132786 : Int64)) fun t_205 =>
  if t_205 = (0 : Int32) then (
  ez_b2 (z_X12_readRule σ h0) fun _ σ =>
  z_X12_readLine_213  σ h0 x1
  ) else (
  z_X12_readLine_213  σ h0 x1
  )
set_option maxRecDepth 100000 in
noncomputable def z_X12_readLine_185 (σ : ez_H) (h0 : Nat) (x1 : Int64) : Option (Unit × ez_H) :=
  ez_let (lg_cmp x1 (474148660594 : Int64)) fun t_189 =>
  if t_189 = (0 : Int32) then (
  ez_bd (ez_gr σ 12 h0 30) fun t_195 =>
  ez_b2 (z_X12_readRight σ h0 t_195) fun _ σ =>
  z_X12_readLine_201  σ h0 x1
  ) else (
  z_X12_readLine_201  σ h0 x1
  )
set_option maxRecDepth 100000 in
noncomputable def z_X12_readLine_169 (σ : ez_H) (h0 : Nat) (x1 : Int64) : Option (Unit × ez_H) :=
  ez_let (lg_cmp x1 (1836413812 : Int64)) fun t_173 =>
  if t_173 = (0 : Int32) then (
  ez_bd (ez_gr σ 12 h0 29) fun t_179 =>
  ez_b2 (z_X12_readRight σ h0 t_179) fun _ σ =>
  z_X12_readLine_185  σ h0 x1
  ) else (
  z_X12_readLine_185  σ h0 x1
  )
set_option maxRecDepth 100000 in
noncomputable def z_X12_readLine_157 (σ : ez_H) (h0 : Nat) (x1 : Int64) : Option (Unit × ez_H) :=
  ez_let (lg_cmp x1 (123581014175598 : Int64)) fun t_161 =>
  if t_161 = (0 : Int32) then (
  ez_b2 (z_X12_readPerson σ h0) fun _ σ =>
  z_X12_readLine_169  σ h0 x1
  ) else (
  z_X12_readLine_169  σ h0 x1
  )
set_option maxRecDepth 100000 in
noncomputable def z_X12_readLine_145 (σ : ez_H) (h0 : Nat) (x1 : Int64) : Option (Unit × ez_H) :=
  ez_let (lg_cmp x1 (1685024626 : Int64)) fun t_149 =>
  if t_149 = (0 : Int32) then (
  ez_b2 (z_X12_readDoor σ h0) fun _ σ =>
  z_X12_readLine_157  σ h0 x1
  ) else (
  z_X12_readLine_157  σ h0 x1
  )
set_option maxRecDepth 100000 in
noncomputable def z_X12_readLine_133 (σ : ez_H) (h0 : Nat) (x1 : Int64) : Option (Unit × ez_H) :=
  ez_let (lg_cmp x1 (1919905645 : Int64)) fun t_137 =>
  if t_137 = (0 : Int32) then (
  ez_b2 (z_X12_readRoom σ h0) fun _ σ =>
  z_X12_readLine_145  σ h0 x1
  ) else (
  z_X12_readLine_145  σ h0 x1
  )
set_option maxRecDepth 100000 in
noncomputable def z_X12_readLine_121 (σ : ez_H) (h0 : Nat) (x1 : Int64) : Option (Unit × ez_H) :=
  ez_let (lg_cmp x1 (1819239275 : Int64)) fun t_125 =>
  if t_125 = (0 : Int32) then (
  ez_b2 (z_X12_readLock σ h0) fun _ σ =>
  z_X12_readLine_133  σ h0 x1
  ) else (
  z_X12_readLine_133  σ h0 x1
  )
set_option maxRecDepth 100000 in
noncomputable def z_X12_readLine_109 (σ : ez_H) (h0 : Nat) (x1 : Int64) : Option (Unit × ez_H) :=
  ez_let (lg_cmp x1 (7038329 : Int64)) fun t_113 =>
  if t_113 = (0 : Int32) then (
  ez_b2 (z_X12_readKey σ h0) fun _ σ =>
  z_X12_readLine_121  σ h0 x1
  ) else (
  z_X12_readLine_121  σ h0 x1
  )
set_option maxRecDepth 100000 in
noncomputable def z_X12_readLine_85 (σ : ez_H) (h0 : Nat) (x1 : Int64) : Option (Unit × ez_H) :=
  ez_let (lg_cmp x1 (1937007984 : Int64)) fun t_89 =>
  if t_89 = (0 : Int32) then (
  ez_bd (ez_gr σ 12 h0 13) fun t_94 =>
  ez_bd (ez_gi σ 12 h0 44) fun t_98 =>
  ez_b2 (z_X12_once σ h0 (2 : Int32) (0 : Int32) (5 : Int32)) fun t_105 σ =>
  ez_bd (ez_is σ 1 t_94 t_98 t_105) fun σ =>
  z_X12_readLine_109  σ h0 x1
  ) else (
  z_X12_readLine_109  σ h0 x1
  )
set_option maxRecDepth 100000 in
noncomputable def z_X12_readLine_60 (σ : ez_H) (h0 : Nat) (x1 : Int64) : Option (Unit × ez_H) :=
  ez_let (lg_cmp x1 (110386841151603 : Int64)) fun t_64 =>
  if t_64 = (0 : Int32) then (
  ez_bd (ez_gr σ 12 h0 12) fun t_69 =>
  ez_bd (ez_gi σ 12 h0 44) fun t_73 =>
  ez_b2 (z_X12_once σ h0 (1 : Int32) (2 : Int32) (6 : Int32)) fun t_81 σ =>
  ez_bd (ez_is σ 1 t_69 t_73 t_81) fun σ =>
  z_X12_readLine_85  σ h0 x1
  ) else (
  z_X12_readLine_85  σ h0 x1
  )
set_option maxRecDepth 100000 in
noncomputable def z_X12_readLine_24 (σ : ez_H) (h0 : Nat) (x1 : Int64) : Option (Unit × ez_H) :=
  ez_bd (z_X12_isGood σ h0) fun t_25 =>
  if t_25 = (0 : Int32) then (
  some ((), σ)
  ) else (
  ez_b2 (z_X12_goOn σ h0) fun _ σ =>
  ez_let (lg_cmp x1 (7163082329762919027 : Int64)) fun t_40 =>
  if t_40 = (0 : Int32) then (
  ez_bd (ez_gr σ 12 h0 11) fun t_45 =>
  ez_bd (ez_gi σ 12 h0 44) fun t_49 =>
  ez_b2 (z_X12_once σ h0 (0 : Int32) (2 : Int32) (5 : Int32)) fun t_56 σ =>
  ez_bd (ez_is σ 1 t_45 t_49 t_56) fun σ =>
  z_X12_readLine_60  σ h0 x1
  ) else (
  z_X12_readLine_60  σ h0 x1
  )
  )
set_option maxRecDepth 100000 in
noncomputable def z_X12_readLine_20 (σ : ez_H) (h0 : Nat) (x1 : Int64) : Option (Unit × ez_H) :=
  ez_b2 (z_X12_misplaced σ h0) fun _ σ =>
  z_X12_readLine_24  σ h0 x1
set_option maxRecDepth 100000 in
noncomputable def z_X12_readLine (σ : ez_H) (h0 : Nat) : Option (Unit × ez_H) :=
  ez_bd (ez_ob σ 12 h0) fun _ =>
  ez_bd (ez_gl σ 12 h0 10) fun t_1 =>
  ez_bd (ez_gi σ 12 h0 8) fun t_6 =>
  if t_6 = (3 : Int32) then (
  ez_bd (z_X12_isFull σ h0) fun t_14 =>
  if t_14 = (0 : Int32) then (
  z_X12_readLine_24  σ h0 t_1
  ) else (
  z_X12_readLine_20  σ h0 t_1
  )
  ) else (
  z_X12_readLine_20  σ h0 t_1
  )
set_option maxRecDepth 100000 in
noncomputable def z_X12_plan_95 (σ : ez_H) (h0 : Nat) : Option (Int32 × ez_H) :=
  ez_bd (z_X12_isGood σ h0) fun t_96 =>
  if t_96 = (0 : Int32) then (
  some ((-1 : Int32), σ)
  ) else (
  ez_bd (ez_gi σ 12 h0 44) fun t_106 =>
  ez_bd (ez_pf σ 12 h0 43 (.inl t_106)) fun σ =>
  ez_b2 (z_X12_startAnew σ h0) fun _ σ =>
  ez_bd (ez_gr σ 12 h0 14) fun t_117 =>
  ez_bd (ez_gi σ 12 h0 43) fun t_121 =>
  ez_bd (ez_ia σ 1 t_117 t_121) fun t_124 =>
  some (t_124, σ)
  )
set_option maxRecDepth 100000 in
noncomputable def z_X12_plan_74 (k_74 : ez_H → Nat → Option (Int32 × ez_H)) (σ : ez_H) (h0 : Nat) : Option (Int32 × ez_H) :=
  ez_bd (z_X12_isGood σ h0) fun t_75 =>
  if t_75 = (0 : Int32) then (
  z_X12_plan_95  σ h0
  ) else (
  ez_bd (ez_gi σ 12 h0 8) fun t_82 =>
  if t_82 = (0 : Int32) then (
  z_X12_plan_95  σ h0
  ) else (
  ez_b2 (z_X12_readLine σ h0) fun _ σ =>
  k_74 σ h0
  )
  )
set_option maxRecDepth 100000 in
noncomputable def z_X12_plan_20 (k_20 : ez_H → Nat → Int32 → Option (Int32 × ez_H)) (σ : ez_H) (h0 : Nat) (x1 : Int32) : Option (Int32 × ez_H) :=
  ez_bd (ez_gi σ 12 h0 3) fun t_22 =>
  if t_22 ≤ x1 then (
  ez_bd (ez_pf σ 12 h0 2 (.inl (0 : Int32))) fun σ =>
  ez_bd (ez_pf σ 12 h0 7 (.inl (0 : Int32))) fun σ =>
  ez_bd (ez_gi σ 12 h0 43) fun t_59 =>
  ez_let ((1 : Int32) - t_59) fun t_62 =>
  ez_bd (ez_pf σ 12 h0 44 (.inl t_62)) fun σ =>
  ez_b2 (z_X12_clearBank σ h0) fun _ σ =>
  ez_b2 (z_X12_goOn σ h0) fun _ σ =>
  ez_fix (fun _ _ => none) (z_X12_plan_74 ) ez_N σ h0
  ) else (
  ez_bd (ez_gr σ 12 h0 1) fun t_29 =>
  ez_bd (ez_gr σ 12 h0 0) fun t_34 =>
  ez_bd (ez_ia σ 0 t_34 x1) fun t_38 =>
  ez_bd (ez_is σ 0 t_29 x1 (vp_nar .byte t_38)) fun σ =>
  ez_let (x1 + 1) fun t_40 =>
  k_20 σ h0 t_40
  )
set_option maxRecDepth 100000 in
noncomputable def z_X12_plan (σ : ez_H) (h0 : Nat) : Option (Int32 × ez_H) :=
  ez_bd (ez_ob σ 12 h0) fun _ =>
  ez_bd (ez_pf σ 12 h0 4 (.inl (0 : Int32))) fun σ =>
  ez_bd (ez_pf σ 12 h0 5 (.inl (-1 : Int32))) fun σ =>
  ez_bd (ez_gi σ 12 h0 2) fun t_12 =>
  ez_bd (ez_pf σ 12 h0 3 (.inl t_12)) fun σ =>
  ez_fix (fun _ _ _ => none) (z_X12_plan_20 ) ez_N σ h0 (0 : Int32)
set_option maxRecDepth 100000 in
noncomputable def z_X12_rank_30 (σ : ez_H) (k_14 : Nat → Int32 → Int32 → Int32 → Option (Int32)) (h0 : Nat) (x1 : Int32) (x2 : Int32) (x3 : Int32) : Option (Int32) :=
  ez_let (x3 + 1) fun t_30 =>
  k_14 h0 x1 x2 t_30
set_option maxRecDepth 100000 in
noncomputable def z_X12_rank_14 (σ : ez_H) (k_14 : Nat → Int32 → Int32 → Int32 → Option (Int32)) (h0 : Nat) (x1 : Int32) (x2 : Int32) (x3 : Int32) : Option (Int32) :=
  if x1 ≤ x3 then (
  some x2
  ) else (
  ez_bd (z_X12_isLegal σ h0 x3) fun t_21 =>
  if t_21 = (0 : Int32) then (
  z_X12_rank_30 σ k_14 h0 x1 x2 x3
  ) else (
  ez_let (x2 + 1) fun t_27 =>
  z_X12_rank_30 σ k_14 h0 x1 t_27 x3
  )
  )
set_option maxRecDepth 100000 in
noncomputable def z_X12_rank (σ : ez_H) (h0 : Nat) (x1 : Int32) : Option (Int32) :=
  ez_bd (ez_ob σ 12 h0) fun _ =>
  ez_bd (z_X12_isLegal σ h0 x1) fun t_2 =>
  if t_2 = (0 : Int32) then (
  some (-1 : Int32)
  ) else (
  ez_fix (fun _ _ _ _ => none) (z_X12_rank_14 σ) ez_N h0 x1 (0 : Int32) (0 : Int32)
  )
set_option maxRecDepth 100000 in
noncomputable def z_X12_recut_16 (σ : ez_H) : Option (Int32 × ez_H) :=
  some ((-1 : Int32), σ)
set_option maxRecDepth 100000 in
noncomputable def z_X12_recut (σ : ez_H) (h0 : Nat) (x1 : Int32) (x2 : Int32) : Option (Int32 × ez_H) :=
  ez_bd (ez_ob σ 12 h0) fun _ =>
  ez_bd (z_X12_isKey σ h0 x1) fun t_2 =>
  if t_2 = (0 : Int32) then (
  z_X12_recut_16  σ
  ) else (
  ez_bd (z_X12_isLegal σ h0 x2) fun t_10 =>
  if t_10 = (0 : Int32) then (
  z_X12_recut_16  σ
  ) else (
  ez_b2 (z_X12_keepAct σ h0) fun _ σ =>
  ez_bd (z_X12_numberOf σ h0 x1) fun t_24 =>
  ez_b2 (z_X12_cutAnew σ h0 x1 x2) fun _ σ =>
  ez_bd (ez_gr σ 12 h0 53) fun t_35 =>
  ez_let ((40 : Int32) + x1) fun t_41 =>
  ez_bd (ez_is σ 1 t_35 t_41 (0 : Int32)) fun σ =>
  some (t_24, σ)
  )
  )
set_option maxRecDepth 100000 in
noncomputable def z_X12_swapAll_2 (k_2 : ez_H → Nat → Int32 → Option (Unit × ez_H)) (σ : ez_H) (h0 : Nat) (x1 : Int32) : Option (Unit × ez_H) :=
  if (91 : Int32) ≤ x1 then (
  some ((), σ)
  ) else (
  ez_bd (ez_gr σ 12 h0 59) fun t_9 =>
  ez_bd (ez_gi σ 12 h0 60) fun t_15 =>
  ez_let ((91 : Int32) * t_15) fun t_18 =>
  ez_let (t_18 + x1) fun t_20 =>
  ez_bd (ez_ia σ 1 t_9 t_20) fun t_21 =>
  ez_bd (ez_gr σ 12 h0 59) fun t_24 =>
  ez_bd (ez_gi σ 12 h0 60) fun t_30 =>
  ez_let ((91 : Int32) * t_30) fun t_33 =>
  ez_let (t_33 + x1) fun t_35 =>
  ez_bd (ez_gr σ 12 h0 53) fun t_37 =>
  ez_bd (ez_ia σ 1 t_37 x1) fun t_41 =>
  ez_bd (ez_is σ 1 t_24 t_35 t_41) fun σ =>
  ez_bd (ez_gr σ 12 h0 53) fun t_44 =>
  ez_bd (ez_is σ 1 t_44 x1 t_21) fun σ =>
  ez_let (x1 + 1) fun t_50 =>
  k_2 σ h0 t_50
  )
set_option maxRecDepth 100000 in
noncomputable def z_X12_swapAll (σ : ez_H) (h0 : Nat) : Option (Unit × ez_H) :=
  ez_bd (ez_ob σ 12 h0) fun _ =>
  ez_fix (fun _ _ _ => none) (z_X12_swapAll_2 ) ez_N σ h0 (0 : Int32)
set_option maxRecDepth 100000 in
noncomputable def z_X12_redo (σ : ez_H) (h0 : Nat) : Option (Int32 × ez_H) :=
  ez_bd (ez_ob σ 12 h0) fun _ =>
  ez_bd (ez_gi σ 12 h0 61) fun t_1 =>
  if t_1 = (0 : Int32) then (
  some ((0 : Int32), σ)
  ) else (
  ez_b2 (z_X12_swapAll σ h0) fun _ σ =>
  ez_bd (ez_gi σ 12 h0 60) fun t_15 =>
  ez_let (t_15 + (1 : Int32)) fun t_19 =>
  ez_bd (ez_pf σ 12 h0 60 (.inl t_19)) fun σ =>
  ez_bd (ez_gi σ 12 h0 61) fun t_25 =>
  ez_let (t_25 - (1 : Int32)) fun t_29 =>
  ez_bd (ez_pf σ 12 h0 61 (.inl t_29)) fun σ =>
  some ((1 : Int32), σ)
  )
set_option maxRecDepth 100000 in
noncomputable def z_X12_doorsTo_110 (σ : ez_H) (k_8 : Nat → Int32 → Int32 → Int32 → Int32 → Option (Int32)) (k_34 : Nat → Int32 → Int32 → Int32 → Int32 → Int32 → Int32 → Option (Int32)) (h0 : Nat) (x2 : Int32) (x3 : Int32) (x4 : Int32) (x5 : Int32) (x6 : Int32) (x7 : Int32) : Option (Int32) :=
  ez_let (x7 + 1) fun t_110 =>
  k_34 h0 x2 x3 x4 x5 x6 t_110
set_option maxRecDepth 100000 in
noncomputable def z_X12_doorsTo_34 (σ : ez_H) (k_8 : Nat → Int32 → Int32 → Int32 → Int32 → Option (Int32)) (k_34 : Nat → Int32 → Int32 → Int32 → Int32 → Int32 → Int32 → Option (Int32)) (h0 : Nat) (x2 : Int32) (x3 : Int32) (x4 : Int32) (x5 : Int32) (x6 : Int32) (x7 : Int32) : Option (Int32) :=
  ez_bd (ez_gr σ 12 h0 17) fun t_37 =>
  ez_bd (ez_gi σ 12 h0 43) fun t_41 =>
  ez_bd (ez_ia σ 1 t_37 t_41) fun t_44 =>
  if t_44 ≤ x7 then (
  ez_let (x5 + 1) fun t_120 =>
  k_8 h0 x2 x3 x6 t_120
  ) else (
  ez_bd (ez_gi σ 12 h0 43) fun t_51 =>
  ez_let ((8 : Int32) * t_51) fun t_54 =>
  ez_let (t_54 + x7) fun t_57 =>
  ez_bd (ez_gr σ 12 h0 24) fun t_62 =>
  ez_bd (ez_ia σ 1 t_62 t_57) fun t_67 =>
  ez_let ((1 : Int32) <<< (t_67 &&& 31)) fun t_68 =>
  ez_bd (ez_gr σ 12 h0 25) fun t_71 =>
  ez_bd (ez_ia σ 1 t_71 t_57) fun t_76 =>
  ez_let ((1 : Int32) <<< (t_76 &&& 31)) fun t_77 =>
  ez_let (t_68 ||| t_77) fun t_78 =>
  ez_bd (ez_gr σ 12 h0 26) fun t_83 =>
  ez_bd (ez_ia σ 1 t_83 t_57) fun t_88 =>
  ez_bd (z_X12_bit σ x3 t_88) fun t_89 =>
  if t_89 = (0 : Int32) then (
  z_X12_doorsTo_110 σ k_8 k_34 h0 x2 x3 x4 x5 x6 x7
  ) else (
  ez_let (x4 &&& t_78) fun t_99 =>
  if t_99 = (0 : Int32) then (
  z_X12_doorsTo_110 σ k_8 k_34 h0 x2 x3 x4 x5 x6 x7
  ) else (
  ez_let (x6 ||| t_78) fun t_107 =>
  z_X12_doorsTo_110 σ k_8 k_34 h0 x2 x3 x4 x5 t_107 x7
  )
  )
  )
set_option maxRecDepth 100000 in
noncomputable def z_X12_doorsTo_8 (σ : ez_H) (k_8 : Nat → Int32 → Int32 → Int32 → Int32 → Option (Int32)) (h0 : Nat) (x2 : Int32) (x3 : Int32) (x4 : Int32) (x5 : Int32) : Option (Int32) :=
  if (6 : Int32) < x5 then (
  some (100000 : Int32)
  ) else (
  ez_bd (z_X12_bit σ x4 x2) fun t_18 =>
  if t_18 = (0 : Int32) then (
  ez_fix (fun _ _ _ _ _ _ _ => none) (z_X12_doorsTo_34 σ k_8) ez_N h0 x2 x3 x4 x5 x4 (0 : Int32)
  ) else (
  some x5
  )
  )
set_option maxRecDepth 100000 in
noncomputable def z_X12_doorsTo (σ : ez_H) (h0 : Nat) (x1 : Int32) (x2 : Int32) (x3 : Int32) : Option (Int32) :=
  ez_bd (ez_ob σ 12 h0) fun _ =>
  ez_let ((1 : Int32) <<< (x1 &&& 31)) fun t_2 =>
  ez_fix (fun _ _ _ _ _ => none) (z_X12_doorsTo_8 σ) ez_N h0 x2 x3 t_2 (0 : Int32)
set_option maxRecDepth 100000 in
noncomputable def z_X12_otherSide_49 (σ : ez_H) (y0 : Int32) : Option (Int32) :=
  some y0
set_option maxRecDepth 100000 in
noncomputable def z_X12_otherSide (σ : ez_H) (h0 : Nat) (x1 : Int32) (x2 : Int32) : Option (Int32) :=
  ez_bd (ez_ob σ 12 h0) fun _ =>
  ez_bd (ez_gi σ 12 h0 43) fun t_3 =>
  ez_let ((8 : Int32) * t_3) fun t_6 =>
  ez_let (t_6 + x1) fun t_8 =>
  ez_bd (ez_gr σ 12 h0 24) fun t_11 =>
  ez_bd (ez_ia σ 1 t_11 t_8) fun t_15 =>
  if t_15 = x2 then (
  ez_bd (ez_gr σ 12 h0 25) fun t_21 =>
  ez_bd (ez_ia σ 1 t_21 t_8) fun t_25 =>
  z_X12_otherSide_49 σ t_25
  ) else (
  ez_bd (ez_gr σ 12 h0 25) fun t_30 =>
  ez_bd (ez_ia σ 1 t_30 t_8) fun t_34 =>
  if t_34 = x2 then (
  ez_bd (ez_gr σ 12 h0 24) fun t_40 =>
  ez_bd (ez_ia σ 1 t_40 t_8) fun t_44 =>
  z_X12_otherSide_49 σ t_44
  ) else (
  z_X12_otherSide_49 σ (-1 : Int32)
  )
  )
set_option maxRecDepth 100000 in
noncomputable def z_X12_route_21 (σ : ez_H) : Option (Int32 × ez_H) :=
  some ((-1 : Int32), σ)
set_option maxRecDepth 100000 in
noncomputable def z_X12_route_127 (k_64 : ez_H → Nat → Int32 → Int32 → Int32 → Int32 → Option (Int32 × ez_H)) (k_73 : ez_H → Nat → Int32 → Int32 → Int32 → Int32 → Int32 → Option (Int32 × ez_H)) (σ : ez_H) (h0 : Nat) (x2 : Int32) (x3 : Int32) (x4 : Int32) (x5 : Int32) (x6 : Int32) : Option (Int32 × ez_H) :=
  ez_let (x6 + 1) fun t_127 =>
  k_73 σ h0 x2 x3 x4 x5 t_127
set_option maxRecDepth 100000 in
noncomputable def z_X12_route_73 (k_64 : ez_H → Nat → Int32 → Int32 → Int32 → Int32 → Option (Int32 × ez_H)) (k_73 : ez_H → Nat → Int32 → Int32 → Int32 → Int32 → Int32 → Option (Int32 × ez_H)) (σ : ez_H) (h0 : Nat) (x2 : Int32) (x3 : Int32) (x4 : Int32) (x5 : Int32) (x6 : Int32) : Option (Int32 × ez_H) :=
  ez_bd (ez_gr σ 12 h0 26) fun t_75 =>
  ez_bd (ez_gi σ 12 h0 43) fun t_81 =>
  ez_let ((8 : Int32) * t_81) fun t_84 =>
  ez_let (t_84 + x6) fun t_87 =>
  ez_bd (ez_ia σ 1 t_75 t_87) fun t_88 =>
  ez_bd (z_X12_bit σ x3 t_88) fun t_89 =>
  if t_89 = (0 : Int32) then (
  z_X12_route_127 k_64 k_73 σ h0 x2 x3 x4 x5 x6
  ) else (
  ez_bd (z_X12_otherSide σ h0 x6 x4) fun t_100 =>
  if t_100 < (0 : Int32) then (
  z_X12_route_127 k_64 k_73 σ h0 x2 x3 x4 x5 x6
  ) else (
  ez_bd (z_X12_otherSide σ h0 x6 x4) fun t_112 =>
  ez_bd (z_X12_doorsTo σ h0 t_112 x2 x3) fun t_117 =>
  ez_let (x5 - (1 : Int32)) fun t_123 =>
  if t_117 = t_123 then (
  ez_bd (ez_gr σ 12 h0 56) fun t_134 =>
  ez_bd (ez_gi σ 12 h0 57) fun t_138 =>
  ez_bd (ez_is σ 1 t_134 t_138 x6) fun σ =>
  ez_bd (ez_gi σ 12 h0 57) fun t_146 =>
  ez_let (t_146 + (1 : Int32)) fun t_150 =>
  ez_bd (ez_pf σ 12 h0 57 (.inl t_150)) fun σ =>
  ez_let (x5 + (-1)) fun t_154 =>
  ez_bd (z_X12_otherSide σ h0 x6 x4) fun t_162 =>
  k_64 σ h0 x2 x3 t_162 t_154
  ) else (
  z_X12_route_127 k_64 k_73 σ h0 x2 x3 x4 x5 x6
  )
  )
  )
set_option maxRecDepth 100000 in
noncomputable def z_X12_route_64 (k_64 : ez_H → Nat → Int32 → Int32 → Int32 → Int32 → Option (Int32 × ez_H)) (σ : ez_H) (h0 : Nat) (x2 : Int32) (x3 : Int32) (x4 : Int32) (x5 : Int32) : Option (Int32 × ez_H) :=
  if x4 = x2 then (
  ez_bd (ez_gi σ 12 h0 57) fun t_171 =>
  some (t_171, σ)
  ) else (
  ez_fix (fun _ _ _ _ _ _ _ => none) (z_X12_route_73 k_64) ez_N σ h0 x2 x3 x4 x5 (0 : Int32)
  )
set_option maxRecDepth 100000 in
noncomputable def z_X12_route (σ : ez_H) (h0 : Nat) (x1 : Int32) (x2 : Int32) : Option (Int32 × ez_H) :=
  ez_bd (ez_ob σ 12 h0) fun _ =>
  ez_bd (ez_pf σ 12 h0 57 (.inl (0 : Int32))) fun σ =>
  ez_bd (z_X12_isPerson σ h0 x1) fun t_7 =>
  if t_7 = (0 : Int32) then (
  z_X12_route_21  σ
  ) else (
  ez_bd (z_X12_isRoom σ h0 x2) fun t_15 =>
  if t_15 = (0 : Int32) then (
  z_X12_route_21  σ
  ) else (
  ez_bd (z_X12_keysOf σ h0 x1) fun t_26 =>
  ez_bd (z_X12_locksWith σ h0 t_26) fun t_29 =>
  ez_bd (ez_gr σ 12 h0 53) fun t_34 =>
  ez_let ((86 : Int32) + x1) fun t_40 =>
  ez_bd (ez_ia σ 1 t_34 t_40) fun t_41 =>
  ez_bd (z_X12_doorsTo σ h0 t_41 x2 t_29) fun t_49 =>
  if t_49 = (100000 : Int32) then (
  some ((-1 : Int32), σ)
  ) else (
  ez_fix (fun _ _ _ _ _ _ => none) (z_X12_route_64 ) ez_N σ h0 x2 t_29 t_41 t_49
  )
  )
  )
set_option maxRecDepth 100000 in
noncomputable def z_X12_span_16 (σ : ez_H) : Option (Int32) :=
  some (-1 : Int32)
set_option maxRecDepth 100000 in
noncomputable def z_X12_span_23 (σ : ez_H) (k_23 : Nat → Int32 → Int32 → Int32 → Int32 → Option (Int32)) (h0 : Nat) (x1 : Int32) (x2 : Int32) (x3 : Int32) (x4 : Int32) : Option (Int32) :=
  ez_bd (z_X12_wide σ h0) fun t_26 =>
  if t_26 ≤ x4 then (
  some x3
  ) else (
  ez_bd (z_X12_cutOf σ h0 x1 x4) fun t_37 =>
  ez_bd (z_X12_cutOf σ h0 x2 x4) fun t_44 =>
  ez_let (t_37 - t_44) fun t_47 =>
  ez_bd (z_X12_absolute σ t_47) fun t_48 =>
  ez_let (x3 + t_48) fun t_51 =>
  ez_let (x4 + 1) fun t_53 =>
  k_23 h0 x1 x2 t_51 t_53
  )
set_option maxRecDepth 100000 in
noncomputable def z_X12_span (σ : ez_H) (h0 : Nat) (x1 : Int32) (x2 : Int32) : Option (Int32) :=
  ez_bd (ez_ob σ 12 h0) fun _ =>
  ez_bd (z_X12_isKey σ h0 x1) fun t_2 =>
  if t_2 = (0 : Int32) then (
  z_X12_span_16 σ 
  ) else (
  ez_bd (z_X12_isKey σ h0 x2) fun t_10 =>
  if t_10 = (0 : Int32) then (
  z_X12_span_16 σ 
  ) else (
  ez_fix (fun _ _ _ _ _ => none) (z_X12_span_23 σ) ez_N h0 x1 x2 (0 : Int32) (0 : Int32)
  )
  )
set_option maxRecDepth 100000 in
noncomputable def z_X12_strays (σ : ez_H) (h0 : Nat) (x1 : Int32) : Option (Int32 × ez_H) :=
  ez_bd (ez_ob σ 12 h0) fun _ =>
  ez_bd (z_X12_isIn σ x1 (0 : Int32) (2 : Int32)) fun t_3 =>
  if t_3 = (0 : Int32) then (
  some ((-1 : Int32), σ)
  ) else (
  ez_b2 (z_X12_keepNow σ h0) fun _ σ =>
  ez_b2 (z_X12_pinByPlan σ h0) fun _ σ =>
  ez_bd (z_X12_straysBy σ h0 x1) fun t_21 =>
  ez_b2 (z_X12_bringBack σ h0) fun _ σ =>
  some (t_21, σ)
  )
set_option maxRecDepth 100000 in
noncomputable def z_X12_stuck_43 (σ : ez_H) (k_11 : Nat → Int32 → Int32 → Option (Int32)) (h0 : Nat) (x1 : Int32) (x2 : Int32) : Option (Int32) :=
  ez_let (x2 + 1) fun t_43 =>
  k_11 h0 x1 t_43
set_option maxRecDepth 100000 in
noncomputable def z_X12_stuck_11 (σ : ez_H) (k_11 : Nat → Int32 → Int32 → Option (Int32)) (h0 : Nat) (x1 : Int32) (x2 : Int32) : Option (Int32) :=
  ez_bd (z_X12_many σ h0) fun t_13 =>
  if t_13 ≤ x2 then (
  some x1
  ) else (
  ez_bd (z_X12_holderOf σ h0 x2) fun t_21 =>
  if t_21 = (-2 : Int32) then (
  z_X12_stuck_43 σ k_11 h0 x1 x2
  ) else (
  ez_bd (z_X12_numberOf σ h0 x2) fun t_33 =>
  ez_bd (z_X12_openedBy σ h0 t_33) fun t_36 =>
  ez_let (t_36 ^^^ (-1 : Int32)) fun t_40 =>
  ez_let (x1 &&& t_40) fun t_41 =>
  z_X12_stuck_43 σ k_11 h0 t_41 x2
  )
  )
set_option maxRecDepth 100000 in
noncomputable def z_X12_stuck (σ : ez_H) (h0 : Nat) : Option (Int32) :=
  ez_bd (ez_ob σ 12 h0) fun _ =>
  ez_bd (z_X12_bolts σ h0) fun t_2 =>
  ez_let ((1 : Int32) <<< (t_2 &&& 31)) fun t_5 =>
  ez_let (t_5 - (1 : Int32)) fun t_7 =>
  ez_fix (fun _ _ _ => none) (z_X12_stuck_11 σ) ez_N h0 t_7 (0 : Int32)
set_option maxRecDepth 100000 in
noncomputable def z_X12_sure_63 (σ : ez_H) (k_15 : Nat → Int32 → Int32 → Int32 → Int32 → Option (Int32)) (h0 : Nat) (x1 : Int32) (x2 : Int32) (x3 : Int32) (x4 : Int32) : Option (Int32) :=
  ez_let (x4 + 1) fun t_63 =>
  k_15 h0 x1 x2 x3 t_63
set_option maxRecDepth 100000 in
noncomputable def z_X12_sure_55 (σ : ez_H) (k_15 : Nat → Int32 → Int32 → Int32 → Int32 → Option (Int32)) (h0 : Nat) (x1 : Int32) (x2 : Int32) (x4 : Int32) : Option (Int32) :=
  ez_bd (z_X12_cutIn σ h0 x4 x1) fun t_59 =>
  z_X12_sure_63 σ k_15 h0 x1 x2 t_59 x4
set_option maxRecDepth 100000 in
noncomputable def z_X12_sure_15 (σ : ez_H) (k_15 : Nat → Int32 → Int32 → Int32 → Int32 → Option (Int32)) (h0 : Nat) (x1 : Int32) (x2 : Int32) (x3 : Int32) (x4 : Int32) : Option (Int32) :=
  ez_bd (z_X12_bittings σ h0) fun t_18 =>
  if t_18 ≤ x4 then (
  some x3
  ) else (
  ez_bd (z_X12_doesFit σ h0 x4 x2) fun t_28 =>
  if t_28 = (0 : Int32) then (
  z_X12_sure_63 σ k_15 h0 x1 x2 x3 x4
  ) else (
  if x3 < (0 : Int32) then (
  z_X12_sure_55 σ k_15 h0 x1 x2 x4
  ) else (
  ez_bd (z_X12_cutIn σ h0 x4 x1) fun t_45 =>
  if t_45 = x3 then (
  z_X12_sure_55 σ k_15 h0 x1 x2 x4
  ) else (
  some (-2 : Int32)
  )
  )
  )
  )
set_option maxRecDepth 100000 in
noncomputable def z_X12_sure (σ : ez_H) (h0 : Nat) (x1 : Int32) (x2 : Int32) : Option (Int32) :=
  ez_bd (ez_ob σ 12 h0) fun _ =>
  ez_bd (z_X12_isChamber σ h0 x1) fun t_2 =>
  if t_2 = (0 : Int32) then (
  some (-1 : Int32)
  ) else (
  ez_fix (fun _ _ _ _ _ => none) (z_X12_sure_15 σ) ez_N h0 x1 x2 (-1 : Int32) (0 : Int32)
  )
set_option maxRecDepth 100000 in
noncomputable def z_X12_together_188 (k_44 : ez_H → Nat → Int32 → Int32 → Option (Int32 × ez_H)) (k_52 : ez_H → Nat → Int32 → Int32 → Int32 → Option (Int32 × ez_H)) (σ : ez_H) (h0 : Nat) (x1 : Int32) (x2 : Int32) (x3 : Int32) : Option (Int32 × ez_H) :=
  ez_let (x3 + 1) fun t_188 =>
  k_52 σ h0 x1 x2 t_188
set_option maxRecDepth 100000 in
noncomputable def z_X12_together_52 (k_44 : ez_H → Nat → Int32 → Int32 → Option (Int32 × ez_H)) (k_52 : ez_H → Nat → Int32 → Int32 → Int32 → Option (Int32 × ez_H)) (σ : ez_H) (h0 : Nat) (x1 : Int32) (x2 : Int32) (x3 : Int32) : Option (Int32 × ez_H) :=
  if (16 : Int32) ≤ x3 then (
  k_44 σ h0 x1 x2
  ) else (
  ez_nz (4 : Int32) <|
  ez_let (x3 / (4 : Int32)) fun t_60 =>
  ez_nz (4 : Int32) <|
  ez_let (x3 - x3 / (4 : Int32) * (4 : Int32)) fun t_65 =>
  ez_bd (z_X12_isPerson σ h0 t_60) fun t_71 =>
  if t_71 = (0 : Int32) then (
  z_X12_together_188 k_44 k_52 σ h0 x1 x2 x3
  ) else (
  ez_bd (z_X12_isPerson σ h0 t_65) fun t_80 =>
  if t_80 = (0 : Int32) then (
  z_X12_together_188 k_44 k_52 σ h0 x1 x2 x3
  ) else (
  ez_bd (ez_gr σ 12 h0 58) fun t_87 =>
  ez_bd (ez_ia σ 1 t_87 t_60) fun t_92 =>
  ez_bd (ez_gr σ 12 h0 58) fun t_94 =>
  ez_bd (ez_ia σ 1 t_94 t_65) fun t_99 =>
  if t_92 = t_99 then (
  z_X12_together_188 k_44 k_52 σ h0 x1 x2 x3
  ) else (
  ez_bd (ez_gr σ 12 h0 53) fun t_108 =>
  ez_let ((86 : Int32) + t_60) fun t_115 =>
  ez_bd (ez_ia σ 1 t_108 t_115) fun t_116 =>
  ez_bd (ez_gr σ 12 h0 58) fun t_118 =>
  ez_bd (ez_ia σ 1 t_118 t_60) fun t_123 =>
  ez_bd (z_X12_reachBy σ h0 t_116 t_123) fun t_124 =>
  ez_bd (ez_gr σ 12 h0 53) fun t_129 =>
  ez_let ((86 : Int32) + t_65) fun t_136 =>
  ez_bd (ez_ia σ 1 t_129 t_136) fun t_137 =>
  ez_bd (ez_gr σ 12 h0 58) fun t_139 =>
  ez_bd (ez_ia σ 1 t_139 t_65) fun t_144 =>
  ez_bd (z_X12_reachBy σ h0 t_137 t_144) fun t_145 =>
  ez_let (t_124 &&& t_145) fun t_148 =>
  if t_148 = (0 : Int32) then (
  z_X12_together_188 k_44 k_52 σ h0 x1 x2 x3
  ) else (
  ez_bd (ez_gr σ 12 h0 58) fun t_156 =>
  ez_bd (ez_ia σ 1 t_156 t_60) fun t_162 =>
  ez_bd (ez_gr σ 12 h0 58) fun t_164 =>
  ez_bd (ez_ia σ 1 t_164 t_65) fun t_169 =>
  ez_let (t_162 ||| t_169) fun t_170 =>
  ez_bd (ez_is σ 1 t_156 t_60 t_170) fun σ =>
  ez_bd (ez_gr σ 12 h0 58) fun t_173 =>
  ez_bd (ez_gr σ 12 h0 58) fun t_179 =>
  ez_bd (ez_ia σ 1 t_179 t_60) fun t_184 =>
  ez_bd (ez_is σ 1 t_173 t_65 t_184) fun σ =>
  z_X12_together_188 k_44 k_52 σ h0 x1 (1 : Int32) x3
  )
  )
  )
  )
  )
set_option maxRecDepth 100000 in
noncomputable def z_X12_together_44 (k_44 : ez_H → Nat → Int32 → Int32 → Option (Int32 × ez_H)) (σ : ez_H) (h0 : Nat) (x1 : Int32) (x2 : Int32) : Option (Int32 × ez_H) :=
  if x2 = (0 : Int32) then (
  ez_bd (ez_gr σ 12 h0 53) fun t_199 =>
  ez_let ((86 : Int32) + x1) fun t_205 =>
  ez_bd (ez_ia σ 1 t_199 t_205) fun t_206 =>
  ez_bd (ez_gr σ 12 h0 58) fun t_208 =>
  ez_bd (ez_ia σ 1 t_208 x1) fun t_212 =>
  ez_bd (z_X12_reachBy σ h0 t_206 t_212) fun t_213 =>
  some (t_213, σ)
  ) else (
  ez_fix (fun _ _ _ _ _ => none) (z_X12_together_52 k_44) ez_N σ h0 x1 (0 : Int32) (0 : Int32)
  )
set_option maxRecDepth 100000 in
noncomputable def z_X12_together_12 (k_12 : ez_H → Nat → Int32 → Int32 → Option (Int32 × ez_H)) (σ : ez_H) (h0 : Nat) (x1 : Int32) (x2 : Int32) : Option (Int32 × ez_H) :=
  ez_bd (ez_gr σ 12 h0 18) fun t_14 =>
  ez_bd (ez_gi σ 12 h0 43) fun t_18 =>
  ez_bd (ez_ia σ 1 t_14 t_18) fun t_21 =>
  if t_21 ≤ x2 then (
  ez_fix (fun _ _ _ _ => none) (z_X12_together_44 ) ez_N σ h0 x1 (1 : Int32)
  ) else (
  ez_bd (ez_gr σ 12 h0 58) fun t_26 =>
  ez_bd (z_X12_keysOf σ h0 x2) fun t_32 =>
  ez_bd (ez_is σ 1 t_26 x2 t_32) fun σ =>
  ez_let (x2 + 1) fun t_36 =>
  k_12 σ h0 x1 t_36
  )
set_option maxRecDepth 100000 in
noncomputable def z_X12_together (σ : ez_H) (h0 : Nat) (x1 : Int32) : Option (Int32 × ez_H) :=
  ez_bd (ez_ob σ 12 h0) fun _ =>
  ez_bd (z_X12_isPerson σ h0 x1) fun t_2 =>
  if t_2 = (0 : Int32) then (
  some ((-1 : Int32), σ)
  ) else (
  ez_fix (fun _ _ _ _ => none) (z_X12_together_12 ) ez_N σ h0 x1 (0 : Int32)
  )
set_option maxRecDepth 100000 in
noncomputable def z_X12_areBetter_99 (σ : ez_H) (y0 : Int32) : Option (Int32) :=
  ez_nr .boolean y0 <|
  some y0
set_option maxRecDepth 100000 in
noncomputable def z_X12_areBetter_98 (σ : ez_H) : Option (Int32) :=
  z_X12_areBetter_99 σ (0 : Int32)
set_option maxRecDepth 100000 in
noncomputable def z_X12_areBetter (σ : ez_H) (h0 : Nat) (x1 : Int32) (x2 : Int32) (x3 : Int32) (x4 : Int32) : Option (Int32) :=
  ez_bd (ez_ob σ 12 h0) fun _ =>
  ez_bd (z_X12_keysOf σ h0 x1) fun t_2 =>
  ez_let ((1 : Int32) <<< (x3 &&& 31)) fun t_7 =>
  ez_let (t_7 ^^^ (-1 : Int32)) fun t_9 =>
  ez_let (t_2 &&& t_9) fun t_10 =>
  ez_let ((1 : Int32) <<< (x4 &&& 31)) fun t_14 =>
  ez_let (t_10 ||| t_14) fun t_15 =>
  ez_bd (z_X12_keysOf σ h0 x2) fun t_20 =>
  ez_let ((1 : Int32) <<< (x4 &&& 31)) fun t_26 =>
  ez_let (t_26 ^^^ (-1 : Int32)) fun t_28 =>
  ez_let (t_20 &&& t_28) fun t_29 =>
  ez_let ((1 : Int32) <<< (x3 &&& 31)) fun t_32 =>
  ez_let (t_29 ||| t_32) fun t_33 =>
  ez_bd (ez_gr σ 12 h0 53) fun t_38 =>
  ez_let ((86 : Int32) + x1) fun t_44 =>
  ez_bd (ez_ia σ 1 t_38 t_44) fun t_45 =>
  ez_bd (z_X12_reachBy σ h0 t_45 t_15) fun t_48 =>
  ez_bd (z_X12_bitsOf σ t_48) fun t_51 =>
  ez_bd (z_X12_reachOf σ h0 x1) fun t_56 =>
  ez_bd (z_X12_bitsOf σ t_56) fun t_59 =>
  if t_51 ≤ t_59 then (
  z_X12_areBetter_98 σ 
  ) else (
  ez_bd (ez_gr σ 12 h0 53) fun t_67 =>
  ez_let ((86 : Int32) + x2) fun t_73 =>
  ez_bd (ez_ia σ 1 t_67 t_73) fun t_74 =>
  ez_bd (z_X12_reachBy σ h0 t_74 t_33) fun t_77 =>
  ez_bd (z_X12_bitsOf σ t_77) fun t_80 =>
  ez_bd (z_X12_reachOf σ h0 x2) fun t_85 =>
  ez_bd (z_X12_bitsOf σ t_85) fun t_88 =>
  if t_80 ≤ t_88 then (
  z_X12_areBetter_98 σ 
  ) else (
  z_X12_areBetter_99 σ (1 : Int32)
  )
  )
set_option maxRecDepth 100000 in
noncomputable def z_X12_trade_30 (σ : ez_H) : Option (Int32) :=
  some (-1 : Int32)
set_option maxRecDepth 100000 in
noncomputable def z_X12_trade_104 (σ : ez_H) (k_35 : Nat → Int32 → Int32 → Int32 → Int32 → Option (Int32)) (k_47 : Nat → Int32 → Int32 → Int32 → Int32 → Int32 → Option (Int32)) (h0 : Nat) (x1 : Int32) (x2 : Int32) (x3 : Int32) (x4 : Int32) (x5 : Int32) : Option (Int32) :=
  ez_let (x5 + 1) fun t_104 =>
  k_47 h0 x1 x2 x3 x4 t_104
set_option maxRecDepth 100000 in
noncomputable def z_X12_trade_103 (σ : ez_H) (y0 : Int32) : Option (Int32) :=
  some y0
set_option maxRecDepth 100000 in
noncomputable def z_X12_trade_47 (σ : ez_H) (k_35 : Nat → Int32 → Int32 → Int32 → Int32 → Option (Int32)) (k_47 : Nat → Int32 → Int32 → Int32 → Int32 → Int32 → Option (Int32)) (h0 : Nat) (x1 : Int32) (x2 : Int32) (x3 : Int32) (x4 : Int32) (x5 : Int32) : Option (Int32) :=
  ez_bd (z_X12_many σ h0) fun t_50 =>
  if t_50 ≤ x5 then (
  ez_let (x4 + 1) fun t_110 =>
  k_35 h0 x1 x2 x3 t_110
  ) else (
  ez_bd (z_X12_holderOf σ h0 x4) fun t_59 =>
  if t_59 = x1 then (
  ez_bd (z_X12_holderOf σ h0 x5) fun t_69 =>
  if t_69 = x2 then (
  ez_bd (z_X12_areBetter σ h0 x1 x2 x4 x5) fun t_86 =>
  if t_86 = (0 : Int32) then (
  z_X12_trade_104 σ k_35 k_47 h0 x1 x2 x3 x4 x5
  ) else (
  if x3 = (0 : Int32) then (
  z_X12_trade_103 σ x4
  ) else (
  z_X12_trade_103 σ x5
  )
  )
  ) else (
  z_X12_trade_104 σ k_35 k_47 h0 x1 x2 x3 x4 x5
  )
  ) else (
  z_X12_trade_104 σ k_35 k_47 h0 x1 x2 x3 x4 x5
  )
  )
set_option maxRecDepth 100000 in
noncomputable def z_X12_trade_35 (σ : ez_H) (k_35 : Nat → Int32 → Int32 → Int32 → Int32 → Option (Int32)) (h0 : Nat) (x1 : Int32) (x2 : Int32) (x3 : Int32) (x4 : Int32) : Option (Int32) :=
  ez_bd (z_X12_many σ h0) fun t_38 =>
  if t_38 ≤ x4 then (
  some (-1 : Int32)
  ) else (
  ez_fix (fun _ _ _ _ _ _ => none) (z_X12_trade_47 σ k_35) ez_N h0 x1 x2 x3 x4 (0 : Int32)
  )
set_option maxRecDepth 100000 in
noncomputable def z_X12_trade (σ : ez_H) (h0 : Nat) (x1 : Int32) (x2 : Int32) (x3 : Int32) : Option (Int32) :=
  ez_bd (ez_ob σ 12 h0) fun _ =>
  ez_bd (z_X12_isPerson σ h0 x1) fun t_2 =>
  if t_2 = (0 : Int32) then (
  z_X12_trade_30 σ 
  ) else (
  ez_bd (z_X12_isPerson σ h0 x2) fun t_10 =>
  if t_10 = (0 : Int32) then (
  z_X12_trade_30 σ 
  ) else (
  if x1 = x2 then (
  z_X12_trade_30 σ 
  ) else (
  ez_bd (z_X12_isIn σ x3 (0 : Int32) (1 : Int32)) fun t_24 =>
  if t_24 = (0 : Int32) then (
  z_X12_trade_30 σ 
  ) else (
  ez_fix (fun _ _ _ _ _ => none) (z_X12_trade_35 σ) ez_N h0 x1 x2 x3 (0 : Int32)
  )
  )
  )
  )
set_option maxRecDepth 100000 in
noncomputable def z_X12_tried_17 (σ : ez_H) : Option (Int32 × ez_H) :=
  some ((-1 : Int32), σ)
set_option maxRecDepth 100000 in
noncomputable def z_X12_tried_46 (σ : ez_H) (h0 : Nat) (y0 : Nat) (y1 : Int32) (y2 : Int32) : Option (Int32 × ez_H) :=
  ez_bd (ez_is σ 1 y0 y1 y2) fun σ =>
  ez_bd (ez_gr σ 12 h0 64) fun t_48 =>
  ez_bd (ez_gi σ 12 h0 66) fun t_52 =>
  ez_bd (ez_gi σ 12 h0 67) fun t_56 =>
  ez_bd (ez_is σ 1 t_48 t_52 t_56) fun σ =>
  ez_bd (ez_gr σ 12 h0 65) fun t_61 =>
  ez_bd (ez_gi σ 12 h0 66) fun t_65 =>
  ez_bd (ez_is σ 1 t_61 t_65 (-1 : Int32)) fun σ =>
  ez_bd (ez_gi σ 12 h0 66) fun t_72 =>
  ez_let (t_72 + (1 : Int32)) fun t_76 =>
  ez_bd (ez_pf σ 12 h0 66 (.inl t_76)) fun σ =>
  ez_bd (ez_gi σ 12 h0 66) fun t_81 =>
  ez_let (t_81 - (1 : Int32)) fun t_85 =>
  some (t_85, σ)
set_option maxRecDepth 100000 in
noncomputable def z_X12_tried (σ : ez_H) (h0 : Nat) (x1 : Int32) (x2 : Int32) : Option (Int32 × ez_H) :=
  ez_bd (ez_ob σ 12 h0) fun _ =>
  ez_bd (z_X12_isLock σ h0 x1) fun t_2 =>
  if t_2 = (0 : Int32) then (
  z_X12_tried_17  σ
  ) else (
  ez_bd (ez_gi σ 12 h0 66) fun t_9 =>
  if t_9 = (30 : Int32) then (
  z_X12_tried_17  σ
  ) else (
  ez_bd (ez_gr σ 12 h0 62) fun t_20 =>
  ez_bd (ez_gi σ 12 h0 66) fun t_24 =>
  ez_bd (ez_is σ 1 t_20 t_24 x1) fun σ =>
  ez_bd (ez_gr σ 12 h0 63) fun t_30 =>
  ez_bd (ez_gi σ 12 h0 66) fun t_34 =>
  if x2 = (0 : Int32) then (
  z_X12_tried_46  σ h0 t_30 t_34 (0 : Int32)
  ) else (
  z_X12_tried_46  σ h0 t_30 t_34 (1 : Int32)
  )
  )
  )
set_option maxRecDepth 100000 in
noncomputable def z_X12_twin_48 (σ : ez_H) (k_14 : Nat → Int32 → Int32 → Int32 → Option (Int32)) (h0 : Nat) (x1 : Int32) (x2 : Int32) (x3 : Int32) : Option (Int32) :=
  ez_let (x3 + 1) fun t_48 =>
  k_14 h0 x1 x2 t_48
set_option maxRecDepth 100000 in
noncomputable def z_X12_twin_46 (σ : ez_H) (k_14 : Nat → Int32 → Int32 → Int32 → Option (Int32)) (h0 : Nat) (x1 : Int32) (x3 : Int32) : Option (Int32) :=
  z_X12_twin_48 σ k_14 h0 x1 x3 x3
set_option maxRecDepth 100000 in
noncomputable def z_X12_twin_14 (σ : ez_H) (k_14 : Nat → Int32 → Int32 → Int32 → Option (Int32)) (h0 : Nat) (x1 : Int32) (x2 : Int32) (x3 : Int32) : Option (Int32) :=
  ez_bd (z_X12_many σ h0) fun t_16 =>
  if t_16 ≤ x3 then (
  some x2
  ) else (
  if x3 = x1 then (
  z_X12_twin_48 σ k_14 h0 x1 x2 x3
  ) else (
  if x2 < (0 : Int32) then (
  z_X12_twin_46 σ k_14 h0 x1 x3
  ) else (
  ez_bd (z_X12_span σ h0 x1 x3) fun t_34 =>
  ez_bd (z_X12_span σ h0 x1 x2) fun t_40 =>
  if t_40 ≤ t_34 then (
  z_X12_twin_48 σ k_14 h0 x1 x2 x3
  ) else (
  z_X12_twin_46 σ k_14 h0 x1 x3
  )
  )
  )
  )
set_option maxRecDepth 100000 in
noncomputable def z_X12_twin (σ : ez_H) (h0 : Nat) (x1 : Int32) : Option (Int32) :=
  ez_bd (ez_ob σ 12 h0) fun _ =>
  ez_bd (z_X12_isKey σ h0 x1) fun t_2 =>
  if t_2 = (0 : Int32) then (
  some (-1 : Int32)
  ) else (
  ez_fix (fun _ _ _ _ => none) (z_X12_twin_14 σ) ez_N h0 x1 (-1 : Int32) (0 : Int32)
  )
set_option maxRecDepth 100000 in
noncomputable def z_X12_undo (σ : ez_H) (h0 : Nat) : Option (Int32 × ez_H) :=
  ez_bd (ez_ob σ 12 h0) fun _ =>
  ez_bd (ez_gi σ 12 h0 60) fun t_1 =>
  if t_1 = (0 : Int32) then (
  some ((0 : Int32), σ)
  ) else (
  ez_bd (ez_gi σ 12 h0 60) fun t_11 =>
  ez_let (t_11 - (1 : Int32)) fun t_15 =>
  ez_bd (ez_pf σ 12 h0 60 (.inl t_15)) fun σ =>
  ez_bd (ez_gi σ 12 h0 61) fun t_21 =>
  ez_let (t_21 + (1 : Int32)) fun t_25 =>
  ez_bd (ez_pf σ 12 h0 61 (.inl t_25)) fun σ =>
  ez_b2 (z_X12_swapAll σ h0) fun _ σ =>
  some ((1 : Int32), σ)
  )
set_option maxRecDepth 100000 in
noncomputable def z_X12_untell_23 (σ : ez_H) : Option (Int32 × ez_H) :=
  some ((0 : Int32), σ)
set_option maxRecDepth 100000 in
noncomputable def z_X12_untell (σ : ez_H) (h0 : Nat) (x1 : Int32) : Option (Int32 × ez_H) :=
  ez_bd (ez_ob σ 12 h0) fun _ =>
  ez_bd (ez_gi σ 12 h0 66) fun t_3 =>
  ez_let (t_3 - (1 : Int32)) fun t_7 =>
  ez_bd (z_X12_isIn σ x1 (0 : Int32) t_7) fun t_8 =>
  if t_8 = (0 : Int32) then (
  z_X12_untell_23  σ
  ) else (
  ez_bd (ez_gr σ 12 h0 65) fun t_15 =>
  ez_bd (ez_ia σ 1 t_15 x1) fun t_19 =>
  if t_19 < (0 : Int32) then (
  ez_bd (ez_gr σ 12 h0 65) fun t_26 =>
  ez_bd (ez_gi σ 12 h0 67) fun t_31 =>
  ez_bd (ez_is σ 1 t_26 x1 t_31) fun σ =>
  some ((1 : Int32), σ)
  ) else (
  z_X12_untell_23  σ
  )
  )
set_option maxRecDepth 100000 in
noncomputable def z_X12_walk_16 (σ : ez_H) : Option (Int32 × ez_H) :=
  some ((-1 : Int32), σ)
set_option maxRecDepth 100000 in
noncomputable def z_X12_walk_101 (σ : ez_H) : Option (Int32 × ez_H) :=
  some ((-1 : Int32), σ)
set_option maxRecDepth 100000 in
noncomputable def z_X12_walk_88 (σ : ez_H) (h0 : Nat) (x1 : Int32) (x3 : Int32) (x5 : Int32) : Option (Int32 × ez_H) :=
  if x3 < (0 : Int32) then (
  z_X12_walk_101  σ
  ) else (
  ez_bd (z_X12_many σ h0) fun t_95 =>
  if x5 = t_95 then (
  z_X12_walk_101  σ
  ) else (
  ez_b2 (z_X12_keepAct σ h0) fun _ σ =>
  ez_b2 (z_X12_use σ h0 x5) fun _ σ =>
  ez_bd (ez_gr σ 12 h0 53) fun t_114 =>
  ez_let ((86 : Int32) + x1) fun t_120 =>
  ez_bd (ez_is σ 1 t_114 t_120 x3) fun σ =>
  some (x3, σ)
  )
  )
set_option maxRecDepth 100000 in
noncomputable def z_X12_walk_82 (k_52 : ez_H → Nat → Int32 → Int32 → Int32 → Int32 → Option (Int32 × ez_H)) (σ : ez_H) (h0 : Nat) (x1 : Int32) (x3 : Int32) (x4 : Int32) (x5 : Int32) : Option (Int32 × ez_H) :=
  ez_let (x5 + 1) fun t_82 =>
  k_52 σ h0 x1 x3 x4 t_82
set_option maxRecDepth 100000 in
noncomputable def z_X12_walk_52 (k_52 : ez_H → Nat → Int32 → Int32 → Int32 → Int32 → Option (Int32 × ez_H)) (σ : ez_H) (h0 : Nat) (x1 : Int32) (x3 : Int32) (x4 : Int32) (x5 : Int32) : Option (Int32 × ez_H) :=
  ez_bd (z_X12_many σ h0) fun t_55 =>
  if t_55 ≤ x5 then (
  z_X12_walk_88  σ h0 x1 x3 x5
  ) else (
  ez_bd (z_X12_holderOf σ h0 x5) fun t_64 =>
  if t_64 = x1 then (
  ez_bd (z_X12_opensBy σ h0 x5 x4) fun t_76 =>
  if t_76 = (0 : Int32) then (
  z_X12_walk_82 k_52 σ h0 x1 x3 x4 x5
  ) else (
  z_X12_walk_88  σ h0 x1 x3 x5
  )
  ) else (
  z_X12_walk_82 k_52 σ h0 x1 x3 x4 x5
  )
  )
set_option maxRecDepth 100000 in
noncomputable def z_X12_walk (σ : ez_H) (h0 : Nat) (x1 : Int32) (x2 : Int32) : Option (Int32 × ez_H) :=
  ez_bd (ez_ob σ 12 h0) fun _ =>
  ez_bd (z_X12_isPerson σ h0 x1) fun t_2 =>
  if t_2 = (0 : Int32) then (
  z_X12_walk_16  σ
  ) else (
  ez_bd (z_X12_isDoor σ h0 x2) fun t_10 =>
  if t_10 = (0 : Int32) then (
  z_X12_walk_16  σ
  ) else (
  ez_bd (ez_gr σ 12 h0 53) fun t_21 =>
  ez_let ((86 : Int32) + x1) fun t_27 =>
  ez_bd (ez_ia σ 1 t_21 t_27) fun t_28 =>
  ez_bd (z_X12_otherSide σ h0 x2 t_28) fun t_29 =>
  ez_bd (ez_gr σ 12 h0 26) fun t_34 =>
  ez_bd (ez_gi σ 12 h0 43) fun t_40 =>
  ez_let ((8 : Int32) * t_40) fun t_43 =>
  ez_let (t_43 + x2) fun t_45 =>
  ez_bd (ez_ia σ 1 t_34 t_45) fun t_46 =>
  ez_fix (fun _ _ _ _ _ _ => none) (z_X12_walk_52 ) ez_N σ h0 x1 t_29 t_46 (0 : Int32)
  )
  )
