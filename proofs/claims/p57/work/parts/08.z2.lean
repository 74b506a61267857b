set_option maxRecDepth 100000 in
noncomputable def z_X4_readHeld_9 (k_9 : ez_H → Nat → Int32 → Option (Int32 × ez_H)) (σ : ez_H) (h0 : Nat) (x1 : Int32) : Option (Int32 × ez_H) :=
  if (8 : Int32) < x1 then (
  ez_b2 (z_X4_refuse σ h0) fun t_102 σ =>
  ez_nr .boolean t_102 <|
  some (t_102, σ)
  ) else (
  ez_bd (ez_gr σ 4 h0 0) fun t_18 =>
  ez_bd (ez_gi σ 3 t_18 3) fun t_21 =>
  ez_b2 (z_X4_knownName σ h0 (0 : Int32) t_21) fun t_24 σ =>
  if t_24 = (-1 : Int32) then (
  some ((0 : Int32), σ)
  ) else (
  ez_bd (ez_gr σ 4 h0 0) fun t_36 =>
  ez_bd (ez_gr σ 3 t_36 2) fun t_39 =>
  ez_bd (z_X7_holder σ t_39 t_24) fun t_43 =>
  if t_43 = (-1 : Int32) then (
  ez_bd (ez_gr σ 4 h0 0) fun t_57 =>
  ez_bd (ez_gr σ 3 t_57 2) fun t_60 =>
  ez_bd (ez_gr σ 4 h0 0) fun t_65 =>
  ez_bd (ez_gi σ 3 t_65 7) fun t_68 =>
  ez_b2 (z_X7_putHolder σ t_60 t_24 t_68) fun _ σ =>
  ez_bd (ez_gr σ 4 h0 3) fun t_75 =>
  ez_b2 (z_X9_advance σ t_75) fun _ σ =>
  ez_bd (ez_gr σ 4 h0 3) fun t_82 =>
  ez_bd (ez_gi σ 9 t_82 4) fun t_85 =>
  if t_85 = (23 : Int32) then (
  ez_let (x1 + 1) fun t_95 =>
  k_9 σ h0 t_95
  ) else (
  some ((1 : Int32), σ)
  )
  ) else (
  ez_b2 (z_X4_blame σ h0 (3 : Int32)) fun t_52 σ =>
  ez_nr .boolean t_52 <|
  some (t_52, σ)
  )
  )
  )
set_option maxRecDepth 100000 in
noncomputable def z_X4_readHeld (σ : ez_H) (h0 : Nat) : Option (Int32 × ez_H) :=
  ez_bd (ez_ob σ 4 h0) fun _ =>
  ez_bd (ez_gr σ 4 h0 3) fun t_1 =>
  ez_b2 (z_X9_advance σ t_1) fun _ σ =>
  ez_fix (fun _ _ _ => none) (z_X4_readHeld_9 ) ez_N σ h0 (0 : Int32)
set_option maxRecDepth 100000 in
noncomputable def z_X7_putRoom (σ : ez_H) (h0 : Nat) (x1 : Int32) (x2 : Int32) : Option (Unit × ez_H) :=
  ez_bd (ez_ob σ 7 h0) fun _ =>
  ez_let ((30 : Int32) + x1) fun t_4 =>
  ez_b2 (z_X7_put σ h0 t_4 x2) fun _ σ =>
  some ((), σ)
set_option maxRecDepth 100000 in
noncomputable def z_X4_readPerson_25 (σ : ez_H) : Option (Int32 × ez_H) :=
  some ((0 : Int32), σ)
set_option maxRecDepth 100000 in
noncomputable def z_X4_readPerson_75 (σ : ez_H) (h0 : Nat) (x1 : Int32) : Option (Int32 × ez_H) :=
  ez_bd (ez_gr σ 4 h0 0) fun t_76 =>
  ez_bd (ez_gr σ 3 t_76 2) fun t_79 =>
  ez_bd (ez_gr σ 4 h0 0) fun t_83 =>
  ez_bd (ez_gi σ 3 t_83 7) fun t_86 =>
  ez_b2 (z_X7_putRoom σ t_79 t_86 x1) fun _ σ =>
  ez_bd (ez_gr σ 4 h0 0) fun t_94 =>
  ez_bd (ez_gi σ 3 t_94 7) fun t_98 =>
  ez_let (t_98 + (1 : Int32)) fun t_102 =>
  ez_bd (ez_pf σ 3 t_94 7 (.inl t_102)) fun σ =>
  ez_b2 (z_X4_expect σ h0 (59 : Int32)) fun t_109 σ =>
  ez_nr .boolean t_109 <|
  some (t_109, σ)
set_option maxRecDepth 100000 in
noncomputable def z_X4_readPerson (σ : ez_H) (h0 : Nat) : Option (Int32 × ez_H) :=
  ez_bd (ez_ob σ 4 h0) fun _ =>
  ez_bd (ez_gr σ 4 h0 0) fun t_3 =>
  ez_bd (ez_gi σ 3 t_3 7) fun t_6 =>
  ez_b2 (z_X4_readNewName σ h0 (4 : Int32) t_6 (4 : Int32)) fun t_10 σ =>
  if t_10 = (0 : Int32) then (
  z_X4_readPerson_25  σ
  ) else (
  ez_b2 (z_X4_expect σ h0 (14 : Int32)) fun t_19 σ =>
  if t_19 = (0 : Int32) then (
  z_X4_readPerson_25  σ
  ) else (
  ez_bd (ez_gr σ 4 h0 0) fun t_30 =>
  ez_bd (ez_gi σ 3 t_30 5) fun t_33 =>
  ez_b2 (z_X4_knownName σ h0 (2 : Int32) t_33) fun t_36 σ =>
  if t_36 = (-1 : Int32) then (
  some ((0 : Int32), σ)
  ) else (
  ez_bd (ez_gr σ 4 h0 3) fun t_48 =>
  ez_b2 (z_X9_advance σ t_48) fun _ σ =>
  ez_bd (ez_gr σ 4 h0 3) fun t_55 =>
  ez_bd (ez_gi σ 9 t_55 4) fun t_58 =>
  if t_58 = (15 : Int32) then (
  ez_b2 (z_X4_readHeld σ h0) fun t_67 σ =>
  if t_67 = (0 : Int32) then (
  some ((0 : Int32), σ)
  ) else (
  z_X4_readPerson_75  σ h0 t_36
  )
  ) else (
  z_X4_readPerson_75  σ h0 t_36
  )
  )
  )
  )
set_option maxRecDepth 100000 in
noncomputable def z_X3_addDoor_56 (σ : ez_H) : Option (Unit × ez_H) :=
  some ((), σ)
set_option maxRecDepth 100000 in
noncomputable def z_X3_addDoor (σ : ez_H) (h0 : Nat) (x1 : Int32) (x2 : Int32) (x3 : Int32) : Option (Unit × ez_H) :=
  ez_bd (ez_ob σ 3 h0) fun _ =>
  ez_bd (ez_gi σ 3 h0 6) fun t_1 =>
  if t_1 < (0 : Int32) then (
  z_X3_addDoor_56  σ
  ) else (
  ez_bd (ez_gi σ 3 h0 6) fun t_8 =>
  if (8 : Int32) ≤ t_8 then (
  z_X3_addDoor_56  σ
  ) else (
  ez_bd (ez_gr σ 3 h0 8) fun t_17 =>
  ez_bd (ez_gi σ 3 h0 6) fun t_21 =>
  ez_bd (ez_is σ 1 t_17 t_21 x1) fun σ =>
  ez_bd (ez_gr σ 3 h0 9) fun t_27 =>
  ez_bd (ez_gi σ 3 h0 6) fun t_31 =>
  ez_bd (ez_is σ 1 t_27 t_31 x2) fun σ =>
  ez_bd (ez_gr σ 3 h0 10) fun t_37 =>
  ez_bd (ez_gi σ 3 h0 6) fun t_41 =>
  ez_bd (ez_is σ 1 t_37 t_41 x3) fun σ =>
  ez_bd (ez_gi σ 3 h0 6) fun t_48 =>
  ez_let (t_48 + (1 : Int32)) fun t_52 =>
  ez_bd (ez_pf σ 3 h0 6 (.inl t_52)) fun σ =>
  z_X3_addDoor_56  σ
  )
  )
set_option maxRecDepth 100000 in
noncomputable def z_X4_readDoor_26 (σ : ez_H) : Option (Int32 × ez_H) :=
  some ((0 : Int32), σ)
set_option maxRecDepth 100000 in
noncomputable def z_X4_readDoor (σ : ez_H) (h0 : Nat) : Option (Int32 × ez_H) :=
  ez_bd (ez_ob σ 4 h0) fun _ =>
  ez_bd (ez_gr σ 4 h0 0) fun t_3 =>
  ez_bd (ez_gi σ 3 t_3 6) fun t_6 =>
  ez_b2 (z_X4_readNewName σ h0 (3 : Int32) t_6 (8 : Int32)) fun t_11 σ =>
  if t_11 = (0 : Int32) then (
  z_X4_readDoor_26  σ
  ) else (
  ez_b2 (z_X4_expect σ h0 (12 : Int32)) fun t_20 σ =>
  if t_20 = (0 : Int32) then (
  z_X4_readDoor_26  σ
  ) else (
  ez_bd (ez_gr σ 4 h0 0) fun t_31 =>
  ez_bd (ez_gi σ 3 t_31 5) fun t_34 =>
  ez_b2 (z_X4_knownName σ h0 (2 : Int32) t_34) fun t_37 σ =>
  if t_37 = (-1 : Int32) then (
  some ((0 : Int32), σ)
  ) else (
  ez_bd (ez_gr σ 4 h0 3) fun t_49 =>
  ez_b2 (z_X9_advance σ t_49) fun _ σ =>
  ez_b2 (z_X4_expect σ h0 (13 : Int32)) fun t_58 σ =>
  if t_58 = (0 : Int32) then (
  some ((0 : Int32), σ)
  ) else (
  ez_bd (ez_gr σ 4 h0 0) fun t_69 =>
  ez_bd (ez_gi σ 3 t_69 5) fun t_72 =>
  ez_b2 (z_X4_knownName σ h0 (2 : Int32) t_72) fun t_75 σ =>
  if t_75 = (-1 : Int32) then (
  some ((0 : Int32), σ)
  ) else (
  if t_75 = t_37 then (
  ez_b2 (z_X4_blame σ h0 (3 : Int32)) fun t_93 σ =>
  ez_nr .boolean t_93 <|
  some (t_93, σ)
  ) else (
  ez_bd (ez_gr σ 4 h0 3) fun t_98 =>
  ez_b2 (z_X9_advance σ t_98) fun _ σ =>
  ez_b2 (z_X4_expect σ h0 (4 : Int32)) fun t_106 σ =>
  if t_106 = (0 : Int32) then (
  some ((0 : Int32), σ)
  ) else (
  ez_bd (ez_gr σ 4 h0 0) fun t_117 =>
  ez_bd (ez_gi σ 3 t_117 4) fun t_120 =>
  ez_b2 (z_X4_knownName σ h0 (1 : Int32) t_120) fun t_123 σ =>
  if t_123 = (-1 : Int32) then (
  some ((0 : Int32), σ)
  ) else (
  ez_bd (ez_gr σ 4 h0 3) fun t_135 =>
  ez_b2 (z_X9_advance σ t_135) fun _ σ =>
  ez_bd (ez_gr σ 4 h0 0) fun t_142 =>
  ez_b2 (z_X3_addDoor σ t_142 t_37 t_75 t_123) fun _ σ =>
  ez_b2 (z_X4_expect σ h0 (59 : Int32)) fun t_154 σ =>
  ez_nr .boolean t_154 <|
  some (t_154, σ)
  )
  )
  )
  )
  )
  )
  )
  )
set_option maxRecDepth 100000 in
noncomputable def z_X4_readRoom (σ : ez_H) (h0 : Nat) : Option (Int32 × ez_H) :=
  ez_bd (ez_ob σ 4 h0) fun _ =>
  ez_bd (ez_gr σ 4 h0 0) fun t_3 =>
  ez_bd (ez_gi σ 3 t_3 5) fun t_6 =>
  ez_b2 (z_X4_readNewName σ h0 (2 : Int32) t_6 (6 : Int32)) fun t_11 σ =>
  if t_11 = (0 : Int32) then (
  some ((0 : Int32), σ)
  ) else (
  ez_bd (ez_gr σ 4 h0 0) fun t_20 =>
  ez_bd (ez_gi σ 3 t_20 5) fun t_24 =>
  ez_let (t_24 + (1 : Int32)) fun t_28 =>
  ez_bd (ez_pf σ 3 t_20 5 (.inl t_28)) fun σ =>
  ez_b2 (z_X4_expect σ h0 (59 : Int32)) fun t_35 σ =>
  ez_nr .boolean t_35 <|
  some (t_35, σ)
  )
set_option maxRecDepth 100000 in
noncomputable def z_X4_depthHere (σ : ez_H) (h0 : Nat) : Option (Int32 × ez_H) :=
  ez_bd (ez_ob σ 4 h0) fun _ =>
  ez_bd (ez_gr σ 4 h0 3) fun t_1 =>
  ez_bd (ez_gi σ 9 t_1 4) fun t_4 =>
  if t_4 = (24 : Int32) then (
  ez_bd (ez_gr σ 4 h0 0) fun t_20 =>
  ez_bd (ez_gr σ 3 t_20 0) fun t_23 =>
  ez_bd (ez_gr σ 4 h0 3) fun t_27 =>
  ez_bd (ez_gi σ 9 t_27 6) fun t_30 =>
  ez_bd (z_X6_hasDepth σ t_23 t_30) fun t_33 =>
  if t_33 = (0 : Int32) then (
  ez_b2 (z_X4_blame σ h0 (4 : Int32)) fun t_41 σ =>
  some ((-1 : Int32), σ)
  ) else (
  ez_bd (ez_gr σ 4 h0 3) fun t_48 =>
  ez_bd (ez_gi σ 9 t_48 6) fun t_51 =>
  some (t_51, σ)
  )
  ) else (
  ez_b2 (z_X4_refuse σ h0) fun t_13 σ =>
  some ((-1 : Int32), σ)
  )
set_option maxRecDepth 100000 in
noncomputable def z_X4_readPart_4 (k_4 : ez_H → Nat → Int32 → Int32 → Int32 → Option (Int32 × ez_H)) (σ : ez_H) (h0 : Nat) (x1 : Int32) (x2 : Int32) (x3 : Int32) : Option (Int32 × ez_H) :=
  if (6 : Int32) < x3 then (
  some ((0 : Int32), σ)
  ) else (
  ez_b2 (z_X4_depthHere σ h0) fun t_11 σ =>
  if t_11 = (-1 : Int32) then (
  some ((0 : Int32), σ)
  ) else (
  ez_bd (z_X6_notch σ x1 t_11) fun t_28 =>
  ez_let (x2 &&& t_28) fun t_31 =>
  if t_31 = (0 : Int32) then (
  ez_bd (z_X6_notch σ x1 t_11) fun t_47 =>
  ez_let (x2 ||| t_47) fun t_50 =>
  ez_bd (ez_gr σ 4 h0 3) fun t_53 =>
  ez_b2 (z_X9_advance σ t_53) fun _ σ =>
  ez_bd (ez_gr σ 4 h0 3) fun t_60 =>
  ez_bd (ez_gi σ 9 t_60 4) fun t_63 =>
  if t_63 = (47 : Int32) then (
  ez_bd (ez_gr σ 4 h0 3) fun t_74 =>
  ez_b2 (z_X9_advance σ t_74) fun _ σ =>
  ez_let (x3 + 1) fun t_80 =>
  k_4 σ h0 x1 t_50 t_80
  ) else (
  some (t_50, σ)
  )
  ) else (
  ez_b2 (z_X4_blame σ h0 (3 : Int32)) fun t_37 σ =>
  some ((0 : Int32), σ)
  )
  )
  )
set_option maxRecDepth 100000 in
noncomputable def z_X4_readPart (σ : ez_H) (h0 : Nat) (x1 : Int32) : Option (Int32 × ez_H) :=
  ez_bd (ez_ob σ 4 h0) fun _ =>
  ez_fix (fun _ _ _ _ _ => none) (z_X4_readPart_4 ) ez_N σ h0 x1 (0 : Int32) (0 : Int32)
set_option maxRecDepth 100000 in
noncomputable def z_X4_readLock_23 (k_23 : ez_H → Nat → Int32 → Int32 → Option (Int32 × ez_H)) (σ : ez_H) (h0 : Nat) (x1 : Int32) (x2 : Int32) : Option (Int32 × ez_H) :=
  ez_bd (ez_gr σ 4 h0 0) fun t_25 =>
  ez_bd (ez_gr σ 3 t_25 0) fun t_28 =>
  ez_bd (ez_gi σ 6 t_28 0) fun t_31 =>
  if t_31 ≤ x2 then (
  ez_bd (ez_gr σ 4 h0 0) fun t_60 =>
  ez_bd (ez_gr σ 3 t_60 2) fun t_63 =>
  ez_bd (ez_gr σ 4 h0 0) fun t_67 =>
  ez_bd (ez_gi σ 3 t_67 4) fun t_70 =>
  ez_b2 (z_X7_putPins σ t_63 t_70 x1) fun _ σ =>
  ez_bd (ez_gr σ 4 h0 0) fun t_78 =>
  ez_bd (ez_gi σ 3 t_78 4) fun t_82 =>
  ez_let (t_82 + (1 : Int32)) fun t_86 =>
  ez_bd (ez_pf σ 3 t_78 4 (.inl t_86)) fun σ =>
  ez_b2 (z_X4_expect σ h0 (59 : Int32)) fun t_93 σ =>
  ez_nr .boolean t_93 <|
  some (t_93, σ)
  ) else (
  ez_b2 (z_X4_readPart σ h0 x2) fun t_39 σ =>
  if t_39 = (0 : Int32) then (
  some ((0 : Int32), σ)
  ) else (
  ez_let (x1 ||| t_39) fun t_51 =>
  ez_let (x2 + 1) fun t_53 =>
  k_23 σ h0 t_51 t_53
  )
  )
set_option maxRecDepth 100000 in
noncomputable def z_X4_readLock (σ : ez_H) (h0 : Nat) : Option (Int32 × ez_H) :=
  ez_bd (ez_ob σ 4 h0) fun _ =>
  ez_bd (ez_gr σ 4 h0 0) fun t_3 =>
  ez_bd (ez_gi σ 3 t_3 4) fun t_6 =>
  ez_b2 (z_X4_readNewName σ h0 (1 : Int32) t_6 (6 : Int32)) fun t_11 σ =>
  if t_11 = (0 : Int32) then (
  some ((0 : Int32), σ)
  ) else (
  ez_fix (fun _ _ _ _ => none) (z_X4_readLock_23 ) ez_N σ h0 (0 : Int32) (0 : Int32)
  )
set_option maxRecDepth 100000 in
noncomputable def z_X4_readKey_83 (k_25 : ez_H → Nat → Int32 → Int32 → Int32 → Option (Int32 × ez_H)) (σ : ez_H) (h0 : Nat) (x1 : Int32) (x3 : Int32) (x4 : Int32) : Option (Int32 × ez_H) :=
  ez_bd (z_X6_notch σ x3 x4) fun t_87 =>
  ez_let (x1 ||| t_87) fun t_90 =>
  ez_bd (ez_gr σ 4 h0 3) fun t_96 =>
  ez_b2 (z_X9_advance σ t_96) fun _ σ =>
  ez_let (x3 + 1) fun t_102 =>
  k_25 σ h0 t_90 x4 t_102
set_option maxRecDepth 100000 in
noncomputable def z_X4_readKey_25 (k_25 : ez_H → Nat → Int32 → Int32 → Int32 → Option (Int32 × ez_H)) (σ : ez_H) (h0 : Nat) (x1 : Int32) (x2 : Int32) (x3 : Int32) : Option (Int32 × ez_H) :=
  ez_bd (ez_gr σ 4 h0 0) fun t_27 =>
  ez_bd (ez_gr σ 3 t_27 0) fun t_30 =>
  ez_bd (ez_gi σ 6 t_30 0) fun t_33 =>
  if t_33 ≤ x3 then (
  ez_bd (ez_gr σ 4 h0 0) fun t_109 =>
  ez_bd (ez_gr σ 3 t_109 2) fun t_112 =>
  ez_bd (ez_gr σ 4 h0 0) fun t_116 =>
  ez_bd (ez_gi σ 3 t_116 3) fun t_119 =>
  ez_b2 (z_X7_putBits σ t_112 t_119 x1) fun _ σ =>
  ez_bd (ez_gr σ 4 h0 0) fun t_127 =>
  ez_bd (ez_gr σ 3 t_127 2) fun t_130 =>
  ez_bd (ez_gr σ 4 h0 0) fun t_134 =>
  ez_bd (ez_gi σ 3 t_134 3) fun t_137 =>
  ez_b2 (z_X7_putHolder σ t_130 t_137 (-1 : Int32)) fun _ σ =>
  ez_bd (ez_gr σ 4 h0 0) fun t_145 =>
  ez_bd (ez_gi σ 3 t_145 3) fun t_149 =>
  ez_let (t_149 + (1 : Int32)) fun t_153 =>
  ez_bd (ez_pf σ 3 t_145 3 (.inl t_153)) fun σ =>
  ez_b2 (z_X4_expect σ h0 (59 : Int32)) fun t_160 σ =>
  ez_nr .boolean t_160 <|
  some (t_160, σ)
  ) else (
  ez_b2 (z_X4_depthHere σ h0) fun t_40 σ =>
  if t_40 = (-1 : Int32) then (
  some ((0 : Int32), σ)
  ) else (
  if x3 ≤ (0 : Int32) then (
  z_X4_readKey_83 k_25 σ h0 x1 x3 t_40
  ) else (
  ez_let (t_40 - x2) fun t_60 =>
  ez_let (if 0 ≤ t_60 then t_60 else 0 - t_60) fun t_61 =>
  ez_bd (ez_gr σ 4 h0 0) fun t_65 =>
  ez_bd (ez_gr σ 3 t_65 0) fun t_68 =>
  ez_bd (ez_gi σ 6 t_68 2) fun t_71 =>
  if t_61 ≤ t_71 then (
  z_X4_readKey_83 k_25 σ h0 x1 x3 t_40
  ) else (
  ez_b2 (z_X4_blame σ h0 (4 : Int32)) fun t_79 σ =>
  ez_nr .boolean t_79 <|
  some (t_79, σ)
  )
  )
  )
  )
set_option maxRecDepth 100000 in
noncomputable def z_X4_readKey (σ : ez_H) (h0 : Nat) : Option (Int32 × ez_H) :=
  ez_bd (ez_ob σ 4 h0) fun _ =>
  ez_bd (ez_gr σ 4 h0 0) fun t_3 =>
  ez_bd (ez_gi σ 3 t_3 3) fun t_6 =>
  ez_b2 (z_X4_readNewName σ h0 (0 : Int32) t_6 (8 : Int32)) fun t_11 σ =>
  if t_11 = (0 : Int32) then (
  some ((0 : Int32), σ)
  ) else (
  ez_fix (fun _ _ _ _ _ => none) (z_X4_readKey_25 ) ez_N σ h0 (0 : Int32) (0 : Int32) (0 : Int32)
  )
set_option maxRecDepth 100000 in
noncomputable def z_X4_readLine_115 (σ : ez_H) (h0 : Nat) : Option (Int32 × ez_H) :=
  ez_b2 (z_X4_readRule σ h0) fun t_116 σ =>
  ez_nr .boolean t_116 <|
  some (t_116, σ)
set_option maxRecDepth 100000 in
noncomputable def z_X4_readLine_149 (σ : ez_H) (y0 : Int32) : Option (Int32 × ez_H) :=
  ez_nr .boolean y0 <|
  some (y0, σ)
set_option maxRecDepth 100000 in
noncomputable def z_X4_readLine_148 (σ : ez_H) : Option (Int32 × ez_H) :=
  z_X4_readLine_149  σ (0 : Int32)
set_option maxRecDepth 100000 in
noncomputable def z_X4_readLine (σ : ez_H) (h0 : Nat) : Option (Int32 × ez_H) :=
  ez_bd (ez_ob σ 4 h0) fun _ =>
  ez_bd (ez_gr σ 4 h0 3) fun t_1 =>
  ez_bd (ez_gi σ 9 t_1 4) fun t_4 =>
  if t_4 = 0 then (
  ez_b2 (z_X4_readOnce σ h0 (2 : Int32) (5 : Int32)) fun t_71 σ =>
  ez_nr .boolean t_71 <|
  some (t_71, σ)
  ) else (
  if t_4 = 1 then (
  ez_b2 (z_X4_readOnce σ h0 (2 : Int32) (6 : Int32)) fun t_79 σ =>
  ez_nr .boolean t_79 <|
  some (t_79, σ)
  ) else (
  if t_4 = 2 then (
  ez_b2 (z_X4_readOnce σ h0 (0 : Int32) (5 : Int32)) fun t_86 σ =>
  ez_nr .boolean t_86 <|
  some (t_86, σ)
  ) else (
  if t_4 = 3 then (
  ez_b2 (z_X4_readKey σ h0) fun t_91 σ =>
  ez_nr .boolean t_91 <|
  some (t_91, σ)
  ) else (
  if t_4 = 4 then (
  ez_b2 (z_X4_readLock σ h0) fun t_96 σ =>
  ez_nr .boolean t_96 <|
  some (t_96, σ)
  ) else (
  if t_4 = 5 then (
  ez_b2 (z_X4_readRoom σ h0) fun t_101 σ =>
  ez_nr .boolean t_101 <|
  some (t_101, σ)
  ) else (
  if t_4 = 6 then (
  ez_b2 (z_X4_readDoor σ h0) fun t_106 σ =>
  ez_nr .boolean t_106 <|
  some (t_106, σ)
  ) else (
  if t_4 = 7 then (
  ez_b2 (z_X4_readPerson σ h0) fun t_111 σ =>
  ez_nr .boolean t_111 <|
  some (t_111, σ)
  ) else (
  if t_4 = 8 then (
  z_X4_readLine_115  σ h0
  ) else (
  if t_4 = 9 then (
  z_X4_readLine_115  σ h0
  ) else (
  if t_4 = 10 then (
  ez_b2 (z_X4_beginOnce σ h0) fun t_121 σ =>
  if t_121 = (0 : Int32) then (
  z_X4_readLine_148  σ
  ) else (
  ez_b2 (z_X4_readEither_k0 σ h0) fun t_129 σ =>
  if t_129 = (0 : Int32) then (
  z_X4_readLine_148  σ
  ) else (
  ez_b2 (z_X4_expect σ h0 (59 : Int32)) fun t_138 σ =>
  if t_138 = (0 : Int32) then (
  z_X4_readLine_148  σ
  ) else (
  z_X4_readLine_149  σ (1 : Int32)
  )
  )
  )
  ) else (
  if t_4 = 11 then (
  ez_b2 (z_X4_readOnce σ h0 (0 : Int32) (999 : Int32)) fun t_155 σ =>
  ez_nr .boolean t_155 <|
  some (t_155, σ)
  ) else (
  ez_b2 (z_X4_refuse σ h0) fun t_160 σ =>
  ez_nr .boolean t_160 <|
  some (t_160, σ)
  ))))))))))))
set_option maxRecDepth 100000 in
noncomputable def z_X4_readAll_68 (σ : ez_H) (x2 : Int32) : Option (Int32 × ez_H) :=
  ez_nr .boolean x2 <|
  some (x2, σ)
set_option maxRecDepth 100000 in
noncomputable def z_X4_readAll_34 (k_34 : ez_H → Nat → Int32 → Int32 → Option (Int32 × ez_H)) (σ : ez_H) (h0 : Nat) (x2 : Int32) (x3 : Int32) : Option (Int32 × ez_H) :=
  if (1600 : Int32) < x3 then (
  z_X4_readAll_68  σ x2
  ) else (
  if x2 = (0 : Int32) then (
  z_X4_readAll_68  σ x2
  ) else (
  ez_bd (ez_gr σ 4 h0 3) fun t_46 =>
  ez_bd (ez_gi σ 9 t_46 4) fun t_49 =>
  if t_49 = (26 : Int32) then (
  z_X4_readAll_68  σ x2
  ) else (
  ez_b2 (z_X4_readLine σ h0) fun t_58 σ =>
  ez_let (x3 + 1) fun t_62 =>
  k_34 σ h0 t_58 t_62
  )
  )
  )
set_option maxRecDepth 100000 in
noncomputable def z_X4_readAll (σ : ez_H) (h0 : Nat) (x1 : Int32) : Option (Int32 × ez_H) :=
  ez_bd (ez_ob σ 4 h0) fun _ =>
  ez_bd (ez_gr σ 4 h0 0) fun t_1 =>
  ez_b2 (z_X3_clear σ t_1) fun _ σ =>
  ez_bd (ez_pf σ 4 h0 1 (.inl (0 : Int32))) fun σ =>
  ez_bd (ez_pf σ 4 h0 2 (.inl (-1 : Int32))) fun σ =>
  ez_bd (ez_pf σ 4 h0 5 (.inl (0 : Int32))) fun σ =>
  ez_bd (ez_gr σ 4 h0 3) fun t_23 =>
  ez_b2 (z_X9_begin σ t_23 x1) fun _ σ =>
  ez_fix (fun _ _ _ _ => none) (z_X4_readAll_34 ) ez_N σ h0 (1 : Int32) (0 : Int32)
set_option maxRecDepth 100000 in
noncomputable def z_X6_copyFrom (σ : ez_H) (h0 : Nat) (h1 : Nat) : Option (Unit × ez_H) :=
  ez_bd (ez_ob σ 6 h0) fun _ =>
  ez_bd (ez_gi σ 6 h1 0) fun t_2 =>
  ez_bd (ez_pf σ 6 h0 0 (.inl t_2)) fun σ =>
  ez_bd (ez_gi σ 6 h1 1) fun t_10 =>
  ez_bd (ez_pf σ 6 h0 1 (.inl t_10)) fun σ =>
  ez_bd (ez_gi σ 6 h1 2) fun t_18 =>
  ez_bd (ez_pf σ 6 h0 2 (.inl t_18)) fun σ =>
  some ((), σ)
set_option maxRecDepth 100000 in
noncomputable def z_X0_copyFrom (σ : ez_H) (h0 : Nat) (h1 : Nat) : Option (Unit × ez_H) :=
  ez_bd (ez_ob σ 0 h0) fun _ =>
  ez_bd (ez_gi σ 0 h1 0) fun t_2 =>
  ez_bd (ez_pf σ 0 h0 0 (.inl t_2)) fun σ =>
  ez_bd (ez_gi σ 0 h1 1) fun t_10 =>
  ez_bd (ez_pf σ 0 h0 1 (.inl t_10)) fun σ =>
  ez_bd (ez_gr σ 0 h1 2) fun t_17 =>
  ez_bd (ez_gr σ 0 h0 2) fun t_22 =>
  ez_bd (ez_cp σ t_17 t_22 (270 : Int32)) fun σ =>
  ez_bd (ez_gr σ 0 h1 3) fun t_33 =>
  ez_bd (ez_gr σ 0 h0 3) fun t_38 =>
  ez_bd (ez_cp σ t_33 t_38 (270 : Int32)) fun σ =>
  some ((), σ)
set_option maxRecDepth 100000 in
noncomputable def z_X3_copyFrom (σ : ez_H) (h0 : Nat) (h1 : Nat) : Option (Unit × ez_H) :=
  ez_bd (ez_ob σ 3 h0) fun _ =>
  ez_bd (ez_gr σ 3 h0 0) fun t_1 =>
  ez_bd (ez_gr σ 3 h1 0) fun t_5 =>
  ez_b2 (z_X6_copyFrom σ t_1 t_5) fun _ σ =>
  ez_bd (ez_gr σ 3 h0 1) fun t_12 =>
  ez_bd (ez_gr σ 3 h1 1) fun t_16 =>
  ez_b2 (z_X0_copyFrom σ t_12 t_16) fun _ σ =>
  ez_bd (ez_gr σ 3 h0 2) fun t_23 =>
  ez_bd (ez_gr σ 3 h1 2) fun t_27 =>
  ez_b2 (z_X7_copyFrom σ t_23 t_27) fun _ σ =>
  ez_bd (ez_gi σ 3 h1 3) fun t_35 =>
  ez_bd (ez_pf σ 3 h0 3 (.inl t_35)) fun σ =>
  ez_bd (ez_gi σ 3 h1 4) fun t_43 =>
  ez_bd (ez_pf σ 3 h0 4 (.inl t_43)) fun σ =>
  ez_bd (ez_gi σ 3 h1 5) fun t_51 =>
  ez_bd (ez_pf σ 3 h0 5 (.inl t_51)) fun σ =>
  ez_bd (ez_gi σ 3 h1 6) fun t_59 =>
  ez_bd (ez_pf σ 3 h0 6 (.inl t_59)) fun σ =>
  ez_bd (ez_gi σ 3 h1 7) fun t_67 =>
  ez_bd (ez_pf σ 3 h0 7 (.inl t_67)) fun σ =>
  ez_bd (ez_gr σ 3 h1 8) fun t_74 =>
  ez_bd (ez_gr σ 3 h0 8) fun t_79 =>
  ez_bd (ez_cp σ t_74 t_79 (8 : Int32)) fun σ =>
  ez_bd (ez_gr σ 3 h1 9) fun t_89 =>
  ez_bd (ez_gr σ 3 h0 9) fun t_94 =>
  ez_bd (ez_cp σ t_89 t_94 (8 : Int32)) fun σ =>
  ez_bd (ez_gr σ 3 h1 10) fun t_104 =>
  ez_bd (ez_gr σ 3 h0 10) fun t_109 =>
  ez_bd (ez_cp σ t_104 t_109 (8 : Int32)) fun σ =>
  ez_bd (ez_gr σ 3 h1 11) fun t_119 =>
  ez_bd (ez_gr σ 3 h0 11) fun t_124 =>
  ez_bd (ez_cp σ t_119 t_124 (6 : Int32)) fun σ =>
  ez_bd (ez_gr σ 3 h1 12) fun t_134 =>
  ez_bd (ez_gr σ 3 h0 12) fun t_139 =>
  ez_bd (ez_cp σ t_134 t_139 (6 : Int32)) fun σ =>
  some ((), σ)
set_option maxRecDepth 100000 in
noncomputable def z_X10_forget (σ : ez_H) (h0 : Nat) : Option (Unit × ez_H) :=
  ez_bd (ez_ob σ 10 h0) fun _ =>
  ez_bd (ez_pf σ 10 h0 4 (.inl (0 : Int32))) fun σ =>
  some ((), σ)
set_option maxRecDepth 100000 in
noncomputable def z_X2_forgetPath (σ : ez_H) (h0 : Nat) : Option (Unit × ez_H) :=
  ez_bd (ez_ob σ 2 h0) fun _ =>
  ez_bd (ez_pf σ 2 h0 5 (.inl (0 : Int32))) fun σ =>
  some ((), σ)
set_option maxRecDepth 100000 in
noncomputable def z_X11_plan (σ : ez_H) (h0 : Nat) : Option (Int32 × ez_H) :=
  ez_bd (ez_ob σ 11 h0) fun _ =>
  ez_bd (ez_gr σ 11 h0 2) fun t_1 =>
  ez_bd (ez_gi σ 11 h0 1) fun t_5 =>
  ez_b2 (z_X4_readAll σ t_1 t_5) fun t_8 σ =>
  if t_8 = (0 : Int32) then (
  some ((-1 : Int32), σ)
  ) else (
  ez_bd (ez_gr σ 11 h0 3) fun t_17 =>
  ez_bd (ez_gr σ 11 h0 2) fun t_21 =>
  ez_bd (ez_gr σ 4 t_21 0) fun t_24 =>
  ez_b2 (z_X3_copyFrom σ t_17 t_24) fun _ σ =>
  ez_bd (ez_gr σ 11 h0 5) fun t_31 =>
  ez_bd (ez_gr σ 11 h0 3) fun t_35 =>
  ez_bd (ez_gr σ 3 t_35 2) fun t_38 =>
  ez_b2 (z_X7_copyFrom σ t_31 t_38) fun _ σ =>
  ez_bd (ez_gr σ 11 h0 7) fun t_45 =>
  ez_b2 (z_X1_forget σ t_45) fun _ σ =>
  ez_bd (ez_gr σ 11 h0 14) fun t_52 =>
  ez_b2 (z_X10_forget σ t_52) fun _ σ =>
  ez_bd (ez_gr σ 11 h0 12) fun t_59 =>
  ez_b2 (z_X2_forgetPath σ t_59) fun _ σ =>
  ez_bd (ez_pf σ 11 h0 9 (.inl (0 : Int32))) fun σ =>
  ez_bd (ez_pf σ 11 h0 1 (.inl (0 : Int32))) fun σ =>
  ez_bd (ez_gr σ 11 h0 3) fun t_76 =>
  ez_bd (ez_gi σ 3 t_76 3) fun t_79 =>
  some (t_79, σ)
  )
set_option maxRecDepth 100000 in
noncomputable def z_X6_placeOf_41 (k_20 : ez_H → Nat → Int32 → Int32 → Int32 → Int32 → Option (Int32 × ez_H)) (k_41 : ez_H → Nat → Int32 → Int32 → Int32 → Int32 → Int32 → Option (Int32 × ez_H)) (σ : ez_H) (h0 : Nat) (x1 : Int32) (x2 : Int32) (x4 : Int32) (x5 : Int32) (x6 : Int32) : Option (Int32 × ez_H) :=
  if x5 ≤ x6 then (
  ez_bd (z_X6_lowest σ h0 x5) fun t_68 =>
  ez_let (x4 + 1) fun t_72 =>
  k_20 σ h0 x1 x2 t_68 t_72
  ) else (
  ez_bd (z_X6_onwardAt σ h0 x4 x6) fun t_54 =>
  ez_let (x2 + t_54) fun t_57 =>
  ez_let (x6 + 1) fun t_59 =>
  k_41 σ h0 x1 t_57 x4 x5 t_59
  )
set_option maxRecDepth 100000 in
noncomputable def z_X6_placeOf_20 (k_20 : ez_H → Nat → Int32 → Int32 → Int32 → Int32 → Option (Int32 × ez_H)) (σ : ez_H) (h0 : Nat) (x1 : Int32) (x2 : Int32) (x3 : Int32) (x4 : Int32) : Option (Int32 × ez_H) :=
  ez_bd (ez_gi σ 6 h0 0) fun t_23 =>
  if t_23 ≤ x4 then (
  some (x2, σ)
  ) else (
  ez_bd (z_X6_depthAt σ h0 x1 x4) fun t_33 =>
  ez_fix (fun _ _ _ _ _ _ _ => none) (z_X6_placeOf_41 k_20) ez_N σ h0 x1 x2 x4 t_33 x3
  )
set_option maxRecDepth 100000 in
noncomputable def z_X6_placeOf (σ : ez_H) (h0 : Nat) (x1 : Int32) : Option (Int32 × ez_H) :=
  ez_bd (ez_ob σ 6 h0) fun _ =>
  ez_bd (z_X6_everything σ h0) fun t_2 =>
  ez_bd (ez_gi σ 6 h0 2) fun t_6 =>
  ez_b2 (z_X6_howMany σ h0 t_2 t_6) fun t_9 σ =>
  ez_fix (fun _ _ _ _ _ _ => none) (z_X6_placeOf_20 ) ez_N σ h0 x1 (0 : Int32) (0 : Int32) (0 : Int32)
set_option maxRecDepth 100000 in
noncomputable def z_X11_rank_25 (σ : ez_H) (y0 : Int32) : Option (Int32 × ez_H) :=
  some (y0, σ)
set_option maxRecDepth 100000 in
noncomputable def z_X11_rank (σ : ez_H) (h0 : Nat) (x1 : Int32) : Option (Int32 × ez_H) :=
  ez_bd (ez_ob σ 11 h0) fun _ =>
  ez_bd (ez_gr σ 11 h0 4) fun t_1 =>
  ez_bd (z_X6_bitsOf σ t_1 x1) fun t_5 =>
  if t_5 = (0 : Int32) then (
  z_X11_rank_25  σ (-1 : Int32)
  ) else (
  ez_bd (ez_gr σ 11 h0 4) fun t_18 =>
  ez_b2 (z_X6_placeOf σ t_18 t_5) fun t_22 σ =>
  z_X11_rank_25  σ t_22
  )
set_option maxRecDepth 100000 in
noncomputable def z_X11_recut_24 (σ : ez_H) : Option (Int32 × ez_H) :=
  some ((-1 : Int32), σ)
set_option maxRecDepth 100000 in
noncomputable def z_X11_recut (σ : ez_H) (h0 : Nat) (x1 : Int32) (x2 : Int32) : Option (Int32 × ez_H) :=
  ez_bd (ez_ob σ 11 h0) fun _ =>
  ez_bd (ez_gr σ 11 h0 4) fun t_1 =>
  ez_bd (z_X6_bitsOf σ t_1 x2) fun t_5 =>
  ez_bd (ez_gr σ 11 h0 3) fun t_10 =>
  ez_bd (z_X3_hasKey σ t_10 x1) fun t_14 =>
  if t_14 = (0 : Int32) then (
  z_X11_recut_24  σ
  ) else (
  if t_5 = (0 : Int32) then (
  z_X11_recut_24  σ
  ) else (
  ez_bd (ez_gr σ 11 h0 4) fun t_27 =>
  ez_bd (ez_gr σ 11 h0 5) fun t_31 =>
  ez_bd (z_X7_bits σ t_31 x1) fun t_35 =>
  ez_bd (z_X6_numberOf σ t_27 t_35) fun t_38 =>
  ez_bd (ez_gr σ 11 h0 7) fun t_44 =>
  ez_bd (ez_gr σ 11 h0 5) fun t_48 =>
  ez_b2 (z_X1_keep σ t_44 t_48) fun _ σ =>
  ez_bd (ez_gr σ 11 h0 5) fun t_55 =>
  ez_b2 (z_X7_putBits σ t_55 x1 t_5) fun _ σ =>
  ez_bd (ez_gr σ 11 h0 5) fun t_64 =>
  ez_b2 (z_X7_putUsed σ t_64 x1 (0 : Int32)) fun _ σ =>
  some (t_38, σ)
  )
  )
set_option maxRecDepth 100000 in
noncomputable def z_X1_goOn (σ : ez_H) (h0 : Nat) (h1 : Nat) : Option (Int32 × ez_H) :=
  ez_bd (ez_ob σ 1 h0) fun _ =>
  ez_bd (ez_gi σ 1 h0 2) fun t_1 =>
  ez_bd (ez_gi σ 1 h0 3) fun t_5 =>
  if t_1 < t_5 then (
  ez_bd (ez_gi σ 1 h0 2) fun t_15 =>
  ez_let (t_15 + (1 : Int32)) fun t_19 =>
  ez_bd (ez_pf σ 1 h0 2 (.inl t_19)) fun σ =>
  ez_bd (ez_gi σ 1 h0 2) fun t_26 =>
  ez_bd (z_X1_slot σ h0 t_26) fun t_29 =>
  ez_b2 (z_X7_copyFrom σ h1 t_29) fun _ σ =>
  some ((1 : Int32), σ)
  ) else (
  some ((0 : Int32), σ)
  )
set_option maxRecDepth 100000 in
noncomputable def z_X11_redo (σ : ez_H) (h0 : Nat) : Option (Int32 × ez_H) :=
  ez_bd (ez_ob σ 11 h0) fun _ =>
  ez_bd (ez_gr σ 11 h0 7) fun t_1 =>
  ez_bd (ez_gr σ 11 h0 5) fun t_5 =>
  ez_b2 (z_X1_goOn σ t_1 t_5) fun t_8 σ =>
  ez_nr .boolean t_8 <|
  some (t_8, σ)
set_option maxRecDepth 100000 in
noncomputable def z_X2_putDistance_27 (σ : ez_H) : Option (Unit × ez_H) :=
  some ((), σ)
set_option maxRecDepth 100000 in
noncomputable def z_X2_putDistance (σ : ez_H) (h0 : Nat) (x1 : Int32) (x2 : Int32) : Option (Unit × ez_H) :=
  ez_bd (ez_ob σ 2 h0) fun _ =>
  if x1 < (0 : Int32) then (
  z_X2_putDistance_27  σ
  ) else (
  if (6 : Int32) ≤ x1 then (
  z_X2_putDistance_27  σ
  ) else (
  ez_bd (ez_gr σ 2 h0 2) fun t_11 =>
  ez_bd (ez_ia σ 1 t_11 x1) fun t_15 =>
  if t_15 = (-1 : Int32) then (
  ez_bd (ez_gr σ 2 h0 2) fun t_21 =>
  ez_bd (ez_is σ 1 t_21 x1 x2) fun σ =>
  z_X2_putDistance_27  σ
  ) else (
  z_X2_putDistance_27  σ
  )
  )
  )
set_option maxRecDepth 100000 in
noncomputable def z_X2_distanceOf_20 (σ : ez_H) (y0 : Int32) : Option (Int32) :=
  some y0
set_option maxRecDepth 100000 in
noncomputable def z_X2_distanceOf_19 (σ : ez_H) : Option (Int32) :=
  z_X2_distanceOf_20 σ (-1 : Int32)
set_option maxRecDepth 100000 in
noncomputable def z_X2_distanceOf (σ : ez_H) (h0 : Nat) (x1 : Int32) : Option (Int32) :=
  ez_bd (ez_ob σ 2 h0) fun _ =>
  if x1 < (0 : Int32) then (
  z_X2_distanceOf_19 σ 
  ) else (
  if (6 : Int32) ≤ x1 then (
  z_X2_distanceOf_19 σ 
  ) else (
  ez_bd (ez_gr σ 2 h0 2) fun t_11 =>
  ez_bd (ez_ia σ 1 t_11 x1) fun t_15 =>
  z_X2_distanceOf_20 σ t_15
  )
  )
set_option maxRecDepth 100000 in
noncomputable def z_X2_spread_17 (σ : ez_H) : Option (Unit × ez_H) :=
  some ((), σ)
set_option maxRecDepth 100000 in
noncomputable def z_X2_spread (σ : ez_H) (h0 : Nat) (x1 : Int32) (x2 : Int32) (x3 : Int32) : Option (Unit × ez_H) :=
  ez_bd (ez_ob σ 2 h0) fun _ =>
  ez_bd (z_X2_distanceOf σ h0 x1) fun t_2 =>
  if t_2 = x3 then (
  ez_let (x3 + (1 : Int32)) fun t_13 =>
  ez_b2 (z_X2_putDistance σ h0 x2 t_13) fun _ σ =>
  z_X2_spread_17  σ
  ) else (
  z_X2_spread_17  σ
  )
set_option maxRecDepth 100000 in
noncomputable def z_X2_measure_99 (k_16 : ez_H → Nat → Int32 → Int32 → Option (Unit × ez_H)) (k_25 : ez_H → Nat → Int32 → Int32 → Int32 → Option (Unit × ez_H)) (σ : ez_H) (h0 : Nat) (x2 : Int32) (x3 : Int32) (x4 : Int32) : Option (Unit × ez_H) :=
  ez_let (x4 + 1) fun t_99 =>
  k_25 σ h0 x2 x3 t_99
set_option maxRecDepth 100000 in
noncomputable def z_X2_measure_25 (k_16 : ez_H → Nat → Int32 → Int32 → Option (Unit × ez_H)) (k_25 : ez_H → Nat → Int32 → Int32 → Int32 → Option (Unit × ez_H)) (σ : ez_H) (h0 : Nat) (x2 : Int32) (x3 : Int32) (x4 : Int32) : Option (Unit × ez_H) :=
  ez_bd (ez_gr σ 2 h0 0) fun t_28 =>
  ez_bd (ez_gi σ 3 t_28 6) fun t_31 =>
  if t_31 ≤ x4 then (
  ez_let (x3 + 1) fun t_105 =>
  k_16 σ h0 x2 t_105
  ) else (
  ez_bd (ez_gr σ 2 h0 0) fun t_39 =>
  ez_bd (z_X3_doorLock σ t_39 x4) fun t_44 =>
  ez_let (x2 >>> (t_44 &&& 31)) fun t_47 =>
  ez_let (t_47 &&& (1 : Int32)) fun t_49 =>
  if t_49 = (0 : Int32) then (
  z_X2_measure_99 k_16 k_25 σ h0 x2 x3 x4
  ) else (
  ez_bd (ez_gr σ 2 h0 0) fun t_55 =>
  ez_bd (z_X3_doorFrom σ t_55 x4) fun t_60 =>
  ez_bd (ez_gr σ 2 h0 0) fun t_64 =>
  ez_bd (z_X3_doorTo σ t_64 x4) fun t_69 =>
  ez_b2 (z_X2_spread σ h0 t_60 t_69 x3) fun _ σ =>
  ez_bd (ez_gr σ 2 h0 0) fun t_78 =>
  ez_bd (z_X3_doorTo σ t_78 x4) fun t_83 =>
  ez_bd (ez_gr σ 2 h0 0) fun t_87 =>
  ez_bd (z_X3_doorFrom σ t_87 x4) fun t_92 =>
  ez_b2 (z_X2_spread σ h0 t_83 t_92 x3) fun _ σ =>
  z_X2_measure_99 k_16 k_25 σ h0 x2 x3 x4
  )
  )
set_option maxRecDepth 100000 in
noncomputable def z_X2_measure_16 (k_16 : ez_H → Nat → Int32 → Int32 → Option (Unit × ez_H)) (σ : ez_H) (h0 : Nat) (x2 : Int32) (x3 : Int32) : Option (Unit × ez_H) :=
  if (6 : Int32) ≤ x3 then (
  some ((), σ)
  ) else (
  ez_fix (fun _ _ _ _ _ => none) (z_X2_measure_25 k_16) ez_N σ h0 x2 x3 (0 : Int32)
  )
set_option maxRecDepth 100000 in
noncomputable def z_X2_measure (σ : ez_H) (h0 : Nat) (x1 : Int32) (x2 : Int32) : Option (Unit × ez_H) :=
  ez_bd (ez_ob σ 2 h0) fun _ =>
  ez_bd (ez_gr σ 2 h0 2) fun t_1 =>
  ez_b2 (z_J7_fill_53178 σ t_1 (-1 : Int32)) fun _ σ =>
  ez_b2 (z_X2_putDistance σ h0 x1 (0 : Int32)) fun _ σ =>
  ez_fix (fun _ _ _ _ => none) (z_X2_measure_16 ) ez_N σ h0 x2 (0 : Int32)
set_option maxRecDepth 100000 in
noncomputable def z_X3_otherSide_33 (σ : ez_H) (y0 : Int32) : Option (Int32) :=
  some y0
set_option maxRecDepth 100000 in
noncomputable def z_X3_otherSide (σ : ez_H) (h0 : Nat) (x1 : Int32) (x2 : Int32) : Option (Int32) :=
  ez_bd (ez_ob σ 3 h0) fun _ =>
  ez_bd (z_X3_doorFrom σ h0 x1) fun t_2 =>
  if t_2 = x2 then (
  ez_bd (z_X3_doorTo σ h0 x1) fun t_11 =>
  some t_11
  ) else (
  ez_bd (z_X3_doorTo σ h0 x1) fun t_17 =>
  if t_17 = x2 then (
  ez_bd (z_X3_doorFrom σ h0 x1) fun t_26 =>
  z_X3_otherSide_33 σ t_26
  ) else (
  z_X3_otherSide_33 σ (-1 : Int32)
  )
  )
set_option maxRecDepth 100000 in
noncomputable def z_X2_doorTowards_62 (σ : ez_H) (k_3 : Nat → Int32 → Int32 → Int32 → Int32 → Option (Int32)) (h0 : Nat) (x1 : Int32) (x2 : Int32) (x3 : Int32) (x4 : Int32) : Option (Int32) :=
  ez_let (x4 + 1) fun t_62 =>
  k_3 h0 x1 x2 x3 t_62
set_option maxRecDepth 100000 in
noncomputable def z_X2_doorTowards_3 (σ : ez_H) (k_3 : Nat → Int32 → Int32 → Int32 → Int32 → Option (Int32)) (h0 : Nat) (x1 : Int32) (x2 : Int32) (x3 : Int32) (x4 : Int32) : Option (Int32) :=
  ez_bd (ez_gr σ 2 h0 0) fun t_6 =>
  ez_bd (ez_gi σ 3 t_6 6) fun t_9 =>
  if t_9 ≤ x4 then (
  some (-1 : Int32)
  ) else (
  ez_bd (ez_gr σ 2 h0 0) fun t_16 =>
  ez_bd (z_X3_otherSide σ t_16 x4 x1) fun t_22 =>
  ez_bd (ez_gr σ 2 h0 0) fun t_29 =>
  ez_bd (z_X3_doorLock σ t_29 x4) fun t_34 =>
  ez_let (x3 >>> (t_34 &&& 31)) fun t_37 =>
  ez_let (t_37 &&& (1 : Int32)) fun t_39 =>
  if t_39 = (0 : Int32) then (
  z_X2_doorTowards_62 σ k_3 h0 x1 x2 x3 x4
  ) else (
  if t_22 = (-1 : Int32) then (
  z_X2_doorTowards_62 σ k_3 h0 x1 x2 x3 x4
  ) else (
  ez_bd (z_X2_distanceOf σ h0 t_22) fun t_52 =>
  if t_52 = x2 then (
  some x4
  ) else (
  z_X2_doorTowards_62 σ k_3 h0 x1 x2 x3 x4
  )
  )
  )
  )
set_option maxRecDepth 100000 in
noncomputable def z_X2_doorTowards (σ : ez_H) (h0 : Nat) (x1 : Int32) (x2 : Int32) (x3 : Int32) : Option (Int32) :=
  ez_bd (ez_ob σ 2 h0) fun _ =>
  ez_fix (fun _ _ _ _ _ => none) (z_X2_doorTowards_3 σ) ez_N h0 x1 x2 x3 (0 : Int32)
set_option maxRecDepth 100000 in
noncomputable def z_X2_findPath_125 (σ : ez_H) (h0 : Nat) : Option (Int32 × ez_H) :=
  ez_bd (ez_gi σ 2 h0 5) fun t_126 =>
  some (t_126, σ)
set_option maxRecDepth 100000 in
noncomputable def z_X2_findPath_57 (k_57 : ez_H → Nat → Int32 → Int32 → Int32 → Option (Int32 × ez_H)) (σ : ez_H) (h0 : Nat) (x3 : Int32) (x4 : Int32) (x5 : Int32) : Option (Int32 × ez_H) :=
  if x5 ≤ (0 : Int32) then (
  z_X2_findPath_125  σ h0
  ) else (
  ez_bd (ez_gi σ 2 h0 5) fun t_63 =>
  ez_bd (ez_gr σ 2 h0 4) fun t_67 =>
  ez_bd (ez_ln σ 1 t_67) fun t_70 =>
  if t_70 ≤ t_63 then (
  z_X2_findPath_125  σ h0
  ) else (
  ez_let (x5 + (-1)) fun t_74 =>
  ez_bd (z_X2_doorTowards σ h0 x4 t_74 x3) fun t_83 =>
  ez_bd (ez_gr σ 2 h0 4) fun t_89 =>
  ez_bd (ez_gi σ 2 h0 5) fun t_93 =>
  ez_bd (ez_is σ 1 t_89 t_93 t_83) fun σ =>
  ez_bd (ez_gi σ 2 h0 5) fun t_101 =>
  ez_let (t_101 + (1 : Int32)) fun t_105 =>
  ez_bd (ez_pf σ 2 h0 5 (.inl t_105)) fun σ =>
  ez_bd (ez_gr σ 2 h0 0) fun t_110 =>
  ez_bd (z_X3_otherSide σ t_110 t_83 x4) fun t_117 =>
  k_57 σ h0 x3 t_117 t_74
  )
  )
set_option maxRecDepth 100000 in
noncomputable def z_X2_findPath (σ : ez_H) (h0 : Nat) (x1 : Int32) (x2 : Int32) : Option (Int32 × ez_H) :=
  ez_bd (ez_ob σ 2 h0) fun _ =>
  ez_bd (ez_gr σ 2 h0 1) fun t_2 =>
  ez_bd (ez_gr σ 2 h0 0) fun t_7 =>
  ez_bd (ez_gi σ 3 t_7 3) fun t_10 =>
  ez_bd (z_X7_heldBy σ t_2 x1 t_10) fun t_13 =>
  ez_bd (z_X2_locksFor σ h0 t_13) fun t_16 =>
  ez_bd (ez_gr σ 2 h0 1) fun t_21 =>
  ez_bd (z_X7_room σ t_21 x1) fun t_25 =>
  ez_b2 (z_X2_measure σ h0 x2 t_16) fun _ σ =>
  ez_bd (ez_pf σ 2 h0 5 (.inl (0 : Int32))) fun σ =>
  ez_bd (z_X2_distanceOf σ h0 t_25) fun t_44 =>
  if t_44 = (-1 : Int32) then (
  some ((-1 : Int32), σ)
  ) else (
  ez_fix (fun _ _ _ _ _ => none) (z_X2_findPath_57 ) ez_N σ h0 t_16 t_25 t_44
  )
set_option maxRecDepth 100000 in
noncomputable def z_X11_route_29 (σ : ez_H) : Option (Int32 × ez_H) :=
  some ((-1 : Int32), σ)
set_option maxRecDepth 100000 in
noncomputable def z_X11_route (σ : ez_H) (h0 : Nat) (x1 : Int32) (x2 : Int32) : Option (Int32 × ez_H) :=
  ez_bd (ez_ob σ 11 h0) fun _ =>
  ez_bd (ez_gr σ 11 h0 12) fun t_1 =>
  ez_b2 (z_X2_forgetPath σ t_1) fun _ σ =>
  ez_bd (ez_gr σ 11 h0 3) fun t_8 =>
  ez_bd (z_X3_hasPerson σ t_8 x1) fun t_12 =>
  if t_12 = (0 : Int32) then (
  z_X11_route_29  σ
  ) else (
  ez_bd (ez_gr σ 11 h0 3) fun t_19 =>
  ez_bd (z_X3_hasRoom σ t_19 x2) fun t_23 =>
  if t_23 = (0 : Int32) then (
  z_X11_route_29  σ
  ) else (
  ez_bd (ez_gr σ 11 h0 12) fun t_32 =>
  ez_b2 (z_X2_findPath σ t_32 x1 x2) fun t_37 σ =>
  some (t_37, σ)
  )
  )
set_option maxRecDepth 100000 in
noncomputable def z_X11_span_22 (σ : ez_H) : Option (Int32) :=
  some (-1 : Int32)
set_option maxRecDepth 100000 in
noncomputable def z_X11_span (σ : ez_H) (h0 : Nat) (x1 : Int32) (x2 : Int32) : Option (Int32) :=
  ez_bd (ez_ob σ 11 h0) fun _ =>
  ez_bd (ez_gr σ 11 h0 3) fun t_1 =>
  ez_bd (z_X3_hasKey σ t_1 x1) fun t_5 =>
  if t_5 = (0 : Int32) then (
  z_X11_span_22 σ 
  ) else (
  ez_bd (ez_gr σ 11 h0 3) fun t_12 =>
  ez_bd (z_X3_hasKey σ t_12 x2) fun t_16 =>
  if t_16 = (0 : Int32) then (
  z_X11_span_22 σ 
  ) else (
  ez_bd (ez_gr σ 11 h0 4) fun t_25 =>
  ez_bd (ez_gr σ 11 h0 5) fun t_29 =>
  ez_bd (z_X7_bits σ t_29 x1) fun t_33 =>
  ez_bd (ez_gr σ 11 h0 5) fun t_37 =>
  ez_bd (z_X7_bits σ t_37 x2) fun t_41 =>
  ez_bd (z_X6_apart σ t_25 t_33 t_41) fun t_44 =>
  some t_44
  )
  )
set_option maxRecDepth 100000 in
noncomputable def z_X11_strays (σ : ez_H) (h0 : Nat) (x1 : Int32) : Option (Int32) :=
  ez_bd (ez_ob σ 11 h0) fun _ =>
  ez_bd (ez_gr σ 11 h0 13) fun t_1 =>
  ez_bd (z_X5_tellPairs σ t_1 x1 (1 : Int32)) fun t_6 =>
  some t_6
set_option maxRecDepth 100000 in
noncomputable def z_X11_stuck (σ : ez_H) (h0 : Nat) : Option (Int32) :=
  ez_bd (ez_ob σ 11 h0) fun _ =>
  ez_bd (ez_gr σ 11 h0 3) fun t_1 =>
  ez_bd (z_X3_allKeys σ t_1) fun t_4 =>
  ez_bd (ez_gr σ 11 h0 5) fun t_8 =>
  ez_bd (ez_gr σ 11 h0 3) fun t_14 =>
  ez_bd (ez_gi σ 3 t_14 3) fun t_17 =>
  ez_bd (z_X7_heldBy σ t_8 (-2 : Int32) t_17) fun t_20 =>
  ez_let (t_20 ^^^ (-1 : Int32)) fun t_24 =>
  ez_let (t_4 &&& t_24) fun t_25 =>
  ez_bd (ez_gr σ 11 h0 3) fun t_28 =>
  ez_bd (z_X3_allLocks σ t_28) fun t_31 =>
  ez_bd (ez_gr σ 11 h0 12) fun t_35 =>
  ez_bd (z_X2_locksFor σ t_35 t_25) fun t_39 =>
  ez_let (t_39 ^^^ (-1 : Int32)) fun t_43 =>
  ez_let (t_31 &&& t_43) fun t_44 =>
  some t_44
set_option maxRecDepth 100000 in
noncomputable def z_X8_depthsMet_33 (σ : ez_H) (k_5 : Nat → Int32 → Int32 → Int32 → Int32 → Option (Int32)) (h0 : Nat) (x1 : Int32) (x2 : Int32) (x3 : Int32) (x4 : Int32) : Option (Int32) :=
  ez_let (x4 + 1) fun t_33 =>
  k_5 h0 x1 x2 x3 t_33
set_option maxRecDepth 100000 in
noncomputable def z_X8_depthsMet_5 (σ : ez_H) (k_5 : Nat → Int32 → Int32 → Int32 → Int32 → Option (Int32)) (h0 : Nat) (x1 : Int32) (x2 : Int32) (x3 : Int32) (x4 : Int32) : Option (Int32) :=
  if (64 : Int32) ≤ x4 then (
  some x3
  ) else (
  ez_bd (z_X8_isSuch σ h0 x4 x1 x2) fun t_17 =>
  if t_17 = (0 : Int32) then (
  z_X8_depthsMet_33 σ k_5 h0 x1 x2 x3 x4
  ) else (
  ez_bd (ez_gr σ 8 h0 12) fun t_25 =>
  ez_bd (ez_ia σ 1 t_25 x4) fun t_30 =>
  ez_let (x3 ||| t_30) fun t_31 =>
  z_X8_depthsMet_33 σ k_5 h0 x1 x2 t_31 x4
  )
  )
set_option maxRecDepth 100000 in
noncomputable def z_X8_depthsMet (σ : ez_H) (h0 : Nat) (x1 : Int32) (x2 : Int32) : Option (Int32) :=
  ez_bd (ez_ob σ 8 h0) fun _ =>
  ez_fix (fun _ _ _ _ _ => none) (z_X8_depthsMet_5 σ) ez_N h0 x1 x2 (0 : Int32) (0 : Int32)
set_option maxRecDepth 100000 in
noncomputable def z_X11_sure_19 (σ : ez_H) : Option (Int32 × ez_H) :=
  some ((-1 : Int32), σ)
set_option maxRecDepth 100000 in
noncomputable def z_X11_sure_68 (σ : ez_H) (y0 : Int32) : Option (Int32 × ez_H) :=
  some (y0, σ)
set_option maxRecDepth 100000 in
noncomputable def z_X11_sure (σ : ez_H) (h0 : Nat) (x1 : Int32) (x2 : Int32) : Option (Int32 × ez_H) :=
  ez_bd (ez_ob σ 11 h0) fun _ =>
  ez_bd (ez_gr σ 11 h0 4) fun t_1 =>
  ez_bd (z_X6_hasChamber σ t_1 x1) fun t_5 =>
  if t_5 = (0 : Int32) then (
  z_X11_sure_19  σ
  ) else (
  ez_b2 (z_X11_fits σ h0 x2) fun t_13 σ =>
  if t_13 = (0 : Int32) then (
  z_X11_sure_19  σ
  ) else (
  ez_bd (ez_gr σ 11 h0 11) fun t_22 =>
  ez_bd (ez_gr σ 11 h0 14) fun t_26 =>
  ez_bd (z_X10_knownAt σ t_26 x2 (1 : Int32)) fun t_31 =>
  ez_bd (ez_gr σ 11 h0 14) fun t_35 =>
  ez_bd (z_X10_knownAt σ t_35 x2 (0 : Int32)) fun t_40 =>
  ez_bd (z_X8_depthsMet σ t_22 t_31 t_40) fun t_43 =>
  ez_bd (z_X6_depthsAt σ t_43 x1) fun t_47 =>
  ez_bd (z_J6_bitCount_0f7a4 σ t_47) fun t_52 =>
  if t_52 = (1 : Int32) then (
  ez_bd (z_J6_numberOfTrailingZeros_0f7a4 σ t_47) fun t_60 =>
  z_X11_sure_68  σ t_60
  ) else (
  z_X11_sure_68  σ (-2 : Int32)
  )
  )
  )
set_option maxRecDepth 100000 in
noncomputable def z_X2_bunchOf_19 (σ : ez_H) (y0 : Int32) : Option (Int32) :=
  some y0
set_option maxRecDepth 100000 in
noncomputable def z_X2_bunchOf_18 (σ : ez_H) : Option (Int32) :=
  z_X2_bunchOf_19 σ (0 : Int32)
set_option maxRecDepth 100000 in
noncomputable def z_X2_bunchOf (σ : ez_H) (h0 : Nat) (x1 : Int32) : Option (Int32) :=
  ez_bd (ez_ob σ 2 h0) fun _ =>
  if x1 < (0 : Int32) then (
  z_X2_bunchOf_18 σ 
  ) else (
  if (4 : Int32) ≤ x1 then (
  z_X2_bunchOf_18 σ 
  ) else (
  ez_bd (ez_gr σ 2 h0 3) fun t_10 =>
  ez_bd (ez_ia σ 1 t_10 x1) fun t_14 =>
  z_X2_bunchOf_19 σ t_14
  )
  )
set_option maxRecDepth 100000 in
noncomputable def z_X2_handOn_55 (σ : ez_H) : Option (Int32 × ez_H) :=
  some ((0 : Int32), σ)
set_option maxRecDepth 100000 in
noncomputable def z_X2_handOn_30 (σ : ez_H) (h0 : Nat) (x1 : Int32) (x2 : Int32) (x3 : Int32) (y0 : Int32) : Option (Int32 × ez_H) :=
  if y0 = (0 : Int32) then (
  if x1 < (0 : Int32) then (
  z_X2_handOn_55  σ
  ) else (
  if x2 < (0 : Int32) then (
  z_X2_handOn_55  σ
  ) else (
  if (4 : Int32) ≤ x1 then (
  z_X2_handOn_55  σ
  ) else (
  if x2 < (4 : Int32) then (
  ez_bd (z_X2_bunchOf σ h0 x1) fun t_61 =>
  ez_bd (z_X2_reachWith σ h0 x1 t_61) fun t_64 =>
  ez_bd (z_X2_bunchOf σ h0 x2) fun t_71 =>
  ez_bd (z_X2_reachWith σ h0 x2 t_71) fun t_74 =>
  ez_let (t_64 &&& t_74) fun t_77 =>
  if t_77 = (0 : Int32) then (
  some ((0 : Int32), σ)
  ) else (
  ez_bd (ez_gr σ 2 h0 3) fun t_84 =>
  ez_bd (ez_is σ 1 t_84 x1 x3) fun σ =>
  ez_bd (ez_gr σ 2 h0 3) fun t_91 =>
  ez_bd (ez_is σ 1 t_91 x2 x3) fun σ =>
  some ((1 : Int32), σ)
  )
  ) else (
  z_X2_handOn_55  σ
  )
  )
  )
  )
  ) else (
  z_X2_handOn_55  σ
  )
set_option maxRecDepth 100000 in
noncomputable def z_X2_handOn (σ : ez_H) (h0 : Nat) (x1 : Int32) (x2 : Int32) : Option (Int32 × ez_H) :=
  ez_bd (ez_ob σ 2 h0) fun _ =>
  ez_bd (z_X2_bunchOf σ h0 x1) fun t_2 =>
  ez_bd (z_X2_bunchOf σ h0 x2) fun t_7 =>
  ez_let (t_2 ||| t_7) fun t_10 =>
  ez_bd (z_X2_bunchOf σ h0 x1) fun t_14 =>
  ez_bd (z_X2_bunchOf σ h0 x2) fun t_19 =>
  if t_14 = t_19 then (
  z_X2_handOn_30  σ h0 x1 x2 t_10 (1 : Int32)
  ) else (
  z_X2_handOn_30  σ h0 x1 x2 t_10 (0 : Int32)
  )
set_option maxRecDepth 100000 in
noncomputable def z_X2_sharedReach_115 (σ : ez_H) (h0 : Nat) (x1 : Int32) : Option (Int32 × ez_H) :=
  ez_bd (z_X2_bunchOf σ h0 x1) fun t_119 =>
  ez_bd (z_X2_reachWith σ h0 x1 t_119) fun t_122 =>
  some (t_122, σ)
set_option maxRecDepth 100000 in
noncomputable def z_X2_sharedReach_79 (k_49 : ez_H → Nat → Int32 → Int32 → Int32 → Option (Int32 × ez_H)) (k_64 : ez_H → Nat → Int32 → Int32 → Int32 → Int32 → Option (Int32 × ez_H)) (k_79 : ez_H → Nat → Int32 → Int32 → Int32 → Int32 → Int32 → Option (Int32 × ez_H)) (σ : ez_H) (h0 : Nat) (x1 : Int32) (x2 : Int32) (x3 : Int32) (x4 : Int32) (x5 : Int32) : Option (Int32 × ez_H) :=
  if x4 ≤ x5 then (
  ez_let (x4 + 1) fun t_103 =>
  k_64 σ h0 x1 x2 x3 t_103
  ) else (
  ez_b2 (z_X2_handOn σ h0 x4 x5) fun t_92 σ =>
  ez_let (x2 ||| t_92) fun t_95 =>
  ez_let (x5 + 1) fun t_97 =>
  k_79 σ h0 x1 t_95 x3 x4 t_97
  )
set_option maxRecDepth 100000 in
noncomputable def z_X2_sharedReach_64 (k_49 : ez_H → Nat → Int32 → Int32 → Int32 → Option (Int32 × ez_H)) (k_64 : ez_H → Nat → Int32 → Int32 → Int32 → Int32 → Option (Int32 × ez_H)) (σ : ez_H) (h0 : Nat) (x1 : Int32) (x2 : Int32) (x3 : Int32) (x4 : Int32) : Option (Int32 × ez_H) :=
  ez_bd (ez_gr σ 2 h0 0) fun t_67 =>
  ez_bd (ez_gi σ 3 t_67 7) fun t_70 =>
  if t_70 ≤ x4 then (
  ez_let (x3 + 1) fun t_109 =>
  k_49 σ h0 x1 x2 t_109
  ) else (
  ez_fix (fun _ _ _ _ _ _ _ => none) (z_X2_sharedReach_79 k_49 k_64) ez_N σ h0 x1 x2 x3 x4 (0 : Int32)
  )
set_option maxRecDepth 100000 in
noncomputable def z_X2_sharedReach_49 (k_49 : ez_H → Nat → Int32 → Int32 → Int32 → Option (Int32 × ez_H)) (σ : ez_H) (h0 : Nat) (x1 : Int32) (x2 : Int32) (x3 : Int32) : Option (Int32 × ez_H) :=
  if (32 : Int32) < x3 then (
  z_X2_sharedReach_115  σ h0 x1
  ) else (
  if x2 = (0 : Int32) then (
  z_X2_sharedReach_115  σ h0 x1
  ) else (
  ez_fix (fun _ _ _ _ _ _ => none) (z_X2_sharedReach_64 k_49) ez_N σ h0 x1 (0 : Int32) x3 (0 : Int32)
  )
  )
set_option maxRecDepth 100000 in
noncomputable def z_X2_sharedReach_45 (σ : ez_H) (h0 : Nat) (x1 : Int32) : Option (Int32 × ez_H) :=
  ez_fix (fun _ _ _ _ _ => none) (z_X2_sharedReach_49 ) ez_N σ h0 x1 (1 : Int32) (0 : Int32)
set_option maxRecDepth 100000 in
noncomputable def z_X2_sharedReach_2 (k_2 : ez_H → Nat → Int32 → Int32 → Option (Int32 × ez_H)) (σ : ez_H) (h0 : Nat) (x1 : Int32) (x2 : Int32) : Option (Int32 × ez_H) :=
  ez_bd (ez_gr σ 2 h0 0) fun t_4 =>
  ez_bd (ez_gi σ 3 t_4 7) fun t_7 =>
  if t_7 ≤ x2 then (
  z_X2_sharedReach_45  σ h0 x1
  ) else (
  if (4 : Int32) ≤ x2 then (
  z_X2_sharedReach_45  σ h0 x1
  ) else (
  ez_bd (ez_gr σ 2 h0 3) fun t_19 =>
  ez_bd (ez_gr σ 2 h0 1) fun t_24 =>
  ez_bd (ez_gr σ 2 h0 0) fun t_29 =>
  ez_bd (ez_gi σ 3 t_29 3) fun t_32 =>
  ez_bd (z_X7_heldBy σ t_24 x2 t_32) fun t_35 =>
  ez_bd (ez_is σ 1 t_19 x2 t_35) fun σ =>
  ez_let (x2 + 1) fun t_39 =>
  k_2 σ h0 x1 t_39
  )
  )
set_option maxRecDepth 100000 in
noncomputable def z_X2_sharedReach (σ : ez_H) (h0 : Nat) (x1 : Int32) : Option (Int32 × ez_H) :=
  ez_bd (ez_ob σ 2 h0) fun _ =>
  ez_fix (fun _ _ _ _ => none) (z_X2_sharedReach_2 ) ez_N σ h0 x1 (0 : Int32)
set_option maxRecDepth 100000 in
noncomputable def z_X11_together_23 (σ : ez_H) (y0 : Int32) : Option (Int32 × ez_H) :=
  some (y0, σ)
set_option maxRecDepth 100000 in
noncomputable def z_X11_together (σ : ez_H) (h0 : Nat) (x1 : Int32) : Option (Int32 × ez_H) :=
  ez_bd (ez_ob σ 11 h0) fun _ =>
  ez_bd (ez_gr σ 11 h0 3) fun t_1 =>
  ez_bd (z_X3_hasPerson σ t_1 x1) fun t_5 =>
  if t_5 = (0 : Int32) then (
  z_X11_together_23  σ (-1 : Int32)
  ) else (
  ez_bd (ez_gr σ 11 h0 12) fun t_12 =>
  ez_b2 (z_X2_sharedReach σ t_12 x1) fun t_16 σ =>
  z_X11_together_23  σ t_16
  )
set_option maxRecDepth 100000 in
noncomputable def z_X2_exchange_172 (σ : ez_H) (k_59 : Nat → Int32 → Int32 → Int32 → Int32 → Int32 → Int32 → Int32 → Option (Int32)) (k_74 : Nat → Int32 → Int32 → Int32 → Int32 → Int32 → Int32 → Int32 → Int32 → Option (Int32)) (h0 : Nat) (x1 : Int32) (x2 : Int32) (x3 : Int32) (x4 : Int32) (x5 : Int32) (x6 : Int32) (x7 : Int32) (x8 : Int32) : Option (Int32) :=
  ez_let (x8 + 1) fun t_172 =>
  k_74 h0 x1 x2 x3 x4 x5 x6 x7 t_172
set_option maxRecDepth 100000 in
noncomputable def z_X2_exchange_121 (σ : ez_H) (k_59 : Nat → Int32 → Int32 → Int32 → Int32 → Int32 → Int32 → Int32 → Option (Int32)) (k_74 : Nat → Int32 → Int32 → Int32 → Int32 → Int32 → Int32 → Int32 → Int32 → Option (Int32)) (h0 : Nat) (x1 : Int32) (x2 : Int32) (x3 : Int32) (x4 : Int32) (x5 : Int32) (x6 : Int32) (x7 : Int32) (x8 : Int32) (x9 : Int32) (y0 : Int32) : Option (Int32) :=
  if y0 = (0 : Int32) then (
  z_X2_exchange_172 σ k_59 k_74 h0 x1 x2 x3 x4 x5 x6 x7 x8
  ) else (
  ez_let (x3 ^^^ x9) fun t_133 =>
  ez_bd (z_X2_reachWith σ h0 x1 t_133) fun t_134 =>
  ez_bd (z_J6_bitCount_0f7a4 σ t_134) fun t_137 =>
  if t_137 ≤ x5 then (
  z_X2_exchange_172 σ k_59 k_74 h0 x1 x2 x3 x4 x5 x6 x7 x8
  ) else (
  ez_let (x4 ^^^ x9) fun t_151 =>
  ez_bd (z_X2_reachWith σ h0 x2 t_151) fun t_152 =>
  ez_bd (z_J6_bitCount_0f7a4 σ t_152) fun t_155 =>
  if t_155 ≤ x6 then (
  z_X2_exchange_172 σ k_59 k_74 h0 x1 x2 x3 x4 x5 x6 x7 x8
  ) else (
  ez_let (x7 * (8 : Int32)) fun t_167 =>
  ez_let (t_167 + x8) fun t_170 =>
  some t_170
  )
  )
  )
set_option maxRecDepth 100000 in
noncomputable def z_X2_exchange_120 (σ : ez_H) (k_59 : Nat → Int32 → Int32 → Int32 → Int32 → Int32 → Int32 → Int32 → Option (Int32)) (k_74 : Nat → Int32 → Int32 → Int32 → Int32 → Int32 → Int32 → Int32 → Int32 → Option (Int32)) (h0 : Nat) (x1 : Int32) (x2 : Int32) (x3 : Int32) (x4 : Int32) (x5 : Int32) (x6 : Int32) (x7 : Int32) (x8 : Int32) (x9 : Int32) : Option (Int32) :=
  z_X2_exchange_121 σ k_59 k_74 h0 x1 x2 x3 x4 x5 x6 x7 x8 x9 (0 : Int32)
set_option maxRecDepth 100000 in
noncomputable def z_X2_exchange_74 (σ : ez_H) (k_59 : Nat → Int32 → Int32 → Int32 → Int32 → Int32 → Int32 → Int32 → Option (Int32)) (k_74 : Nat → Int32 → Int32 → Int32 → Int32 → Int32 → Int32 → Int32 → Int32 → Option (Int32)) (h0 : Nat) (x1 : Int32) (x2 : Int32) (x3 : Int32) (x4 : Int32) (x5 : Int32) (x6 : Int32) (x7 : Int32) (x8 : Int32) : Option (Int32) :=
  ez_bd (ez_gr σ 2 h0 0) fun t_77 =>
  ez_bd (ez_gi σ 3 t_77 3) fun t_80 =>
  if t_80 ≤ x8 then (
  ez_let (x7 + 1) fun t_178 =>
  k_59 h0 x1 x2 x3 x4 x5 x6 t_178
  ) else (
  ez_let ((1 : Int32) <<< (x7 &&& 31)) fun t_89 =>
  ez_let ((1 : Int32) <<< (x8 &&& 31)) fun t_93 =>
  ez_let (t_89 ||| t_93) fun t_94 =>
  ez_let (x3 >>> (x7 &&& 31)) fun t_100 =>
  ez_let (t_100 &&& (1 : Int32)) fun t_102 =>
  if t_102 = (0 : Int32) then (
  z_X2_exchange_120 σ k_59 k_74 h0 x1 x2 x3 x4 x5 x6 x7 x8 t_94
  ) else (
  ez_let (x4 >>> (x8 &&& 31)) fun t_110 =>
  ez_let (t_110 &&& (1 : Int32)) fun t_112 =>
  if t_112 = (0 : Int32) then (
  z_X2_exchange_120 σ k_59 k_74 h0 x1 x2 x3 x4 x5 x6 x7 x8 t_94
  ) else (
  z_X2_exchange_121 σ k_59 k_74 h0 x1 x2 x3 x4 x5 x6 x7 x8 t_94 (1 : Int32)
  )
  )
  )
set_option maxRecDepth 100000 in
noncomputable def z_X2_exchange_59 (σ : ez_H) (k_59 : Nat → Int32 → Int32 → Int32 → Int32 → Int32 → Int32 → Int32 → Option (Int32)) (h0 : Nat) (x1 : Int32) (x2 : Int32) (x3 : Int32) (x4 : Int32) (x5 : Int32) (x6 : Int32) (x7 : Int32) : Option (Int32) :=
  ez_bd (ez_gr σ 2 h0 0) fun t_62 =>
  ez_bd (ez_gi σ 3 t_62 3) fun t_65 =>
  if t_65 ≤ x7 then (
  some (-1 : Int32)
  ) else (
  ez_fix (fun _ _ _ _ _ _ _ _ _ => none) (z_X2_exchange_74 σ k_59) ez_N h0 x1 x2 x3 x4 x5 x6 x7 (0 : Int32)
  )
set_option maxRecDepth 100000 in
noncomputable def z_X2_exchange (σ : ez_H) (h0 : Nat) (x1 : Int32) (x2 : Int32) : Option (Int32) :=
  ez_bd (ez_ob σ 2 h0) fun _ =>
  ez_bd (ez_gr σ 2 h0 1) fun t_1 =>
  ez_bd (ez_gr σ 2 h0 0) fun t_6 =>
  ez_bd (ez_gi σ 3 t_6 3) fun t_9 =>
  ez_bd (z_X7_heldBy σ t_1 x1 t_9) fun t_12 =>
  ez_bd (ez_gr σ 2 h0 1) fun t_17 =>
  ez_bd (ez_gr σ 2 h0 0) fun t_22 =>
  ez_bd (ez_gi σ 3 t_22 3) fun t_25 =>
  ez_bd (z_X7_heldBy σ t_17 x2 t_25) fun t_28 =>
  ez_bd (z_X2_reachWith σ h0 x1 t_12) fun t_36 =>
  ez_bd (z_J6_bitCount_0f7a4 σ t_36) fun t_39 =>
  ez_bd (z_X2_reachWith σ h0 x2 t_28) fun t_48 =>
  ez_bd (z_J6_bitCount_0f7a4 σ t_48) fun t_51 =>
  ez_fix (fun _ _ _ _ _ _ _ _ => none) (z_X2_exchange_59 σ) ez_N h0 x1 x2 t_12 t_28 t_39 t_51 (0 : Int32)
set_option maxRecDepth 100000 in
noncomputable def z_X11_trade_36 (σ : ez_H) : Option (Int32) :=
  some (-1 : Int32)
set_option maxRecDepth 100000 in
noncomputable def z_X11_trade_74 (σ : ez_H) (y0 : Int32) : Option (Int32) :=
  some y0
set_option maxRecDepth 100000 in
noncomputable def z_X11_trade (σ : ez_H) (h0 : Nat) (x1 : Int32) (x2 : Int32) (x3 : Int32) : Option (Int32) :=
  ez_bd (ez_ob σ 11 h0) fun _ =>
  ez_bd (ez_gr σ 11 h0 3) fun t_1 =>
  ez_bd (z_X3_hasPerson σ t_1 x1) fun t_5 =>
  if t_5 = (0 : Int32) then (
  z_X11_trade_36 σ 
  ) else (
  ez_bd (ez_gr σ 11 h0 3) fun t_12 =>
  ez_bd (z_X3_hasPerson σ t_12 x2) fun t_16 =>
  if t_16 = (0 : Int32) then (
  z_X11_trade_36 σ 
  ) else (
  if x1 = x2 then (
  z_X11_trade_36 σ 
  ) else (
  if x3 < (0 : Int32) then (
  z_X11_trade_36 σ 
  ) else (
  if x3 ≤ (1 : Int32) then (
  ez_bd (ez_gr σ 11 h0 12) fun t_39 =>
  ez_bd (z_X2_exchange σ t_39 x1 x2) fun t_44 =>
  if t_44 = (-1 : Int32) then (
  some (-1 : Int32)
  ) else (
  if x3 = (0 : Int32) then (
  ez_nz (8 : Int32) <|
  ez_let (t_44 / (8 : Int32)) fun t_65 =>
  z_X11_trade_74 σ t_65
  ) else (
  ez_nz (8 : Int32) <|
  ez_let (t_44 - t_44 / (8 : Int32) * (8 : Int32)) fun t_73 =>
  z_X11_trade_74 σ t_73
  )
  )
  ) else (
  z_X11_trade_36 σ 
  )
  )
  )
  )
  )
set_option maxRecDepth 100000 in
noncomputable def z_X10_tell_16 (σ : ez_H) : Option (Int32 × ez_H) :=
  some ((-1 : Int32), σ)
set_option maxRecDepth 100000 in
noncomputable def z_X10_tell (σ : ez_H) (h0 : Nat) (x1 : Int32) (x2 : Int32) : Option (Int32 × ez_H) :=
  ez_bd (ez_ob σ 10 h0) fun _ =>
  ez_bd (ez_gi σ 10 h0 4) fun t_1 =>
  if t_1 < (0 : Int32) then (
  z_X10_tell_16  σ
  ) else (
  ez_bd (ez_gi σ 10 h0 4) fun t_8 =>
  if t_8 < (30 : Int32) then (
  ez_bd (ez_gr σ 10 h0 0) fun t_19 =>
  ez_bd (ez_gi σ 10 h0 4) fun t_23 =>
  ez_bd (ez_is σ 1 t_19 t_23 x1) fun σ =>
  ez_bd (ez_gr σ 10 h0 1) fun t_29 =>
  ez_bd (ez_gi σ 10 h0 4) fun t_33 =>
  ez_bd (ez_is σ 3 t_29 t_33 (vp_nar .boolean x2)) fun σ =>
  ez_bd (ez_gr σ 10 h0 2) fun t_39 =>
  ez_bd (ez_gi σ 10 h0 4) fun t_43 =>
  ez_bd (ez_gi σ 10 h0 5) fun t_47 =>
  ez_bd (ez_is σ 1 t_39 t_43 t_47) fun σ =>
  ez_bd (ez_gr σ 10 h0 3) fun t_52 =>
  ez_bd (ez_gi σ 10 h0 4) fun t_56 =>
  ez_bd (ez_is σ 1 t_52 t_56 (-1 : Int32)) fun σ =>
  ez_bd (ez_gi σ 10 h0 4) fun t_63 =>
  ez_let (t_63 + (1 : Int32)) fun t_67 =>
  ez_bd (ez_pf σ 10 h0 4 (.inl t_67)) fun σ =>
  ez_bd (ez_gi σ 10 h0 4) fun t_72 =>
  ez_let (t_72 - (1 : Int32)) fun t_76 =>
  some (t_76, σ)
  ) else (
  z_X10_tell_16  σ
  )
  )
set_option maxRecDepth 100000 in
noncomputable def z_X11_tried_24 (σ : ez_H) (y0 : Int32) : Option (Int32 × ez_H) :=
  some (y0, σ)
set_option maxRecDepth 100000 in
noncomputable def z_X11_tried (σ : ez_H) (h0 : Nat) (x1 : Int32) (x2 : Int32) : Option (Int32 × ez_H) :=
  ez_bd (ez_ob σ 11 h0) fun _ =>
  ez_bd (ez_gr σ 11 h0 3) fun t_1 =>
  ez_bd (z_X3_hasLock σ t_1 x1) fun t_5 =>
  if t_5 = (0 : Int32) then (
  z_X11_tried_24  σ (-1 : Int32)
  ) else (
  ez_bd (ez_gr σ 11 h0 14) fun t_12 =>
  ez_b2 (z_X10_tell σ t_12 x1 x2) fun t_17 σ =>
  z_X11_tried_24  σ t_17
  )
set_option maxRecDepth 100000 in
noncomputable def z_X11_twin_81 (σ : ez_H) (k_20 : Nat → Int32 → Int32 → Int32 → Int32 → Option (Int32)) (h0 : Nat) (x1 : Int32) (x2 : Int32) (x3 : Int32) (x4 : Int32) : Option (Int32) :=
  ez_let (x4 + 1) fun t_81 =>
  k_20 h0 x1 x2 x3 t_81
set_option maxRecDepth 100000 in
noncomputable def z_X11_twin_75 (σ : ez_H) (k_20 : Nat → Int32 → Int32 → Int32 → Int32 → Option (Int32)) (h0 : Nat) (x1 : Int32) (x4 : Int32) (x5 : Int32) : Option (Int32) :=
  z_X11_twin_81 σ k_20 h0 x1 x4 x5 x4
set_option maxRecDepth 100000 in
noncomputable def z_X11_twin_20 (σ : ez_H) (k_20 : Nat → Int32 → Int32 → Int32 → Int32 → Option (Int32)) (h0 : Nat) (x1 : Int32) (x2 : Int32) (x3 : Int32) (x4 : Int32) : Option (Int32) :=
  ez_bd (ez_gr σ 11 h0 3) fun t_23 =>
  ez_bd (ez_gi σ 3 t_23 3) fun t_26 =>
  if t_26 ≤ x4 then (
  some x2
  ) else (
  ez_bd (ez_gr σ 11 h0 4) fun t_33 =>
  ez_bd (ez_gr σ 11 h0 5) fun t_37 =>
  ez_bd (z_X7_bits σ t_37 x1) fun t_41 =>
  ez_bd (ez_gr σ 11 h0 5) fun t_45 =>
  ez_bd (z_X7_bits σ t_45 x4) fun t_50 =>
  ez_bd (z_X6_apart σ t_33 t_41 t_50) fun t_53 =>
  if x4 = x1 then (
  z_X11_twin_81 σ k_20 h0 x1 x2 x3 x4
  ) else (
  if x2 = (-1 : Int32) then (
  z_X11_twin_75 σ k_20 h0 x1 x4 t_53
  ) else (
  if x3 ≤ t_53 then (
  z_X11_twin_81 σ k_20 h0 x1 x2 x3 x4
  ) else (
  z_X11_twin_75 σ k_20 h0 x1 x4 t_53
  )
  )
  )
  )
set_option maxRecDepth 100000 in
noncomputable def z_X11_twin (σ : ez_H) (h0 : Nat) (x1 : Int32) : Option (Int32) :=
  ez_bd (ez_ob σ 11 h0) fun _ =>
  ez_bd (ez_gr σ 11 h0 3) fun t_1 =>
  ez_bd (z_X3_hasKey σ t_1 x1) fun t_5 =>
  if t_5 = (0 : Int32) then (
  some (-1 : Int32)
  ) else (
  ez_fix (fun _ _ _ _ _ => none) (z_X11_twin_20 σ) ez_N h0 x1 (-1 : Int32) (0 : Int32) (0 : Int32)
  )
set_option maxRecDepth 100000 in
noncomputable def z_X1_goBack (σ : ez_H) (h0 : Nat) (h1 : Nat) : Option (Int32 × ez_H) :=
  ez_bd (ez_ob σ 1 h0) fun _ =>
  ez_bd (ez_gi σ 1 h0 2) fun t_1 =>
  if (0 : Int32) < t_1 then (
  ez_bd (ez_gi σ 1 h0 2) fun t_11 =>
  ez_bd (z_X1_slot σ h0 t_11) fun t_14 =>
  ez_b2 (z_X7_copyFrom σ t_14 h1) fun _ σ =>
  ez_bd (ez_gi σ 1 h0 2) fun t_23 =>
  ez_let (t_23 - (1 : Int32)) fun t_27 =>
  ez_bd (ez_pf σ 1 h0 2 (.inl t_27)) fun σ =>
  ez_bd (ez_gi σ 1 h0 2) fun t_34 =>
  ez_bd (z_X1_slot σ h0 t_34) fun t_37 =>
  ez_b2 (z_X7_copyFrom σ h1 t_37) fun _ σ =>
  some ((1 : Int32), σ)
  ) else (
  some ((0 : Int32), σ)
  )
set_option maxRecDepth 100000 in
noncomputable def z_X11_undo (σ : ez_H) (h0 : Nat) : Option (Int32 × ez_H) :=
  ez_bd (ez_ob σ 11 h0) fun _ =>
  ez_bd (ez_gr σ 11 h0 7) fun t_1 =>
  ez_bd (ez_gr σ 11 h0 5) fun t_5 =>
  ez_b2 (z_X1_goBack σ t_1 t_5) fun t_8 σ =>
  ez_nr .boolean t_8 <|
  some (t_8, σ)
set_option maxRecDepth 100000 in
noncomputable def z_X10_takeBack_28 (σ : ez_H) : Option (Int32 × ez_H) :=
  some ((0 : Int32), σ)
set_option maxRecDepth 100000 in
noncomputable def z_X10_takeBack (σ : ez_H) (h0 : Nat) (x1 : Int32) : Option (Int32 × ez_H) :=
  ez_bd (ez_ob σ 10 h0) fun _ =>
  if x1 < (0 : Int32) then (
  z_X10_takeBack_28  σ
  ) else (
  ez_bd (ez_gi σ 10 h0 4) fun t_6 =>
  if t_6 ≤ x1 then (
  z_X10_takeBack_28  σ
  ) else (
  if (30 : Int32) ≤ x1 then (
  z_X10_takeBack_28  σ
  ) else (
  ez_bd (ez_gr σ 10 h0 3) fun t_19 =>
  ez_bd (ez_ia σ 1 t_19 x1) fun t_23 =>
  if t_23 = (-1 : Int32) then (
  ez_bd (ez_gr σ 10 h0 3) fun t_31 =>
  ez_bd (ez_gi σ 10 h0 5) fun t_36 =>
  ez_bd (ez_is σ 1 t_31 x1 t_36) fun σ =>
  some ((1 : Int32), σ)
  ) else (
  z_X10_takeBack_28  σ
  )
  )
  )
  )
set_option maxRecDepth 100000 in
noncomputable def z_X11_untell (σ : ez_H) (h0 : Nat) (x1 : Int32) : Option (Int32 × ez_H) :=
  ez_bd (ez_ob σ 11 h0) fun _ =>
  ez_bd (ez_gr σ 11 h0 14) fun t_1 =>
  ez_b2 (z_X10_takeBack σ t_1 x1) fun t_5 σ =>
  ez_nr .boolean t_5 <|
  some (t_5, σ)
set_option maxRecDepth 100000 in
noncomputable def z_X11_walk_22 (σ : ez_H) : Option (Int32 × ez_H) :=
  some ((-1 : Int32), σ)
set_option maxRecDepth 100000 in
noncomputable def z_X11_walk_84 (σ : ez_H) : Option (Int32 × ez_H) :=
  some ((-1 : Int32), σ)
set_option maxRecDepth 100000 in
noncomputable def z_X11_walk (σ : ez_H) (h0 : Nat) (x1 : Int32) (x2 : Int32) : Option (Int32 × ez_H) :=
  ez_bd (ez_ob σ 11 h0) fun _ =>
  ez_bd (ez_gr σ 11 h0 3) fun t_1 =>
  ez_bd (z_X3_hasPerson σ t_1 x1) fun t_5 =>
  if t_5 = (0 : Int32) then (
  z_X11_walk_22  σ
  ) else (
  ez_bd (ez_gr σ 11 h0 3) fun t_12 =>
  ez_bd (z_X3_hasDoor σ t_12 x2) fun t_16 =>
  if t_16 = (0 : Int32) then (
  z_X11_walk_22  σ
  ) else (
  ez_bd (ez_gr σ 11 h0 3) fun t_25 =>
  ez_bd (ez_gr σ 11 h0 5) fun t_30 =>
  ez_bd (z_X7_room σ t_30 x1) fun t_34 =>
  ez_bd (z_X3_otherSide σ t_25 x2 t_34) fun t_37 =>
  ez_bd (ez_gr σ 11 h0 12) fun t_42 =>
  ez_bd (ez_gr σ 11 h0 3) fun t_46 =>
  ez_bd (z_X3_doorLock σ t_46 x2) fun t_50 =>
  ez_bd (z_X2_keysFor σ t_42 t_50) fun t_53 =>
  ez_bd (ez_gr σ 11 h0 5) fun t_57 =>
  ez_bd (ez_gr σ 11 h0 3) fun t_62 =>
  ez_bd (ez_gi σ 3 t_62 3) fun t_65 =>
  ez_bd (z_X7_heldBy σ t_57 x1 t_65) fun t_68 =>
  ez_let (t_53 &&& t_68) fun t_71 =>
  if t_37 = (-1 : Int32) then (
  z_X11_walk_84  σ
  ) else (
  if t_71 = (0 : Int32) then (
  z_X11_walk_84  σ
  ) else (
  ez_bd (ez_gr σ 11 h0 7) fun t_87 =>
  ez_bd (ez_gr σ 11 h0 5) fun t_91 =>
  ez_b2 (z_X1_keep σ t_87 t_91) fun _ σ =>
  ez_bd (ez_gr σ 11 h0 5) fun t_99 =>
  ez_bd (z_J6_numberOfTrailingZeros_0f7a4 σ t_71) fun t_104 =>
  ez_b2 (z_X11_useOnce σ h0 t_99 t_104) fun _ σ =>
  ez_bd (ez_gr σ 11 h0 5) fun t_111 =>
  ez_b2 (z_X7_putRoom σ t_111 x1 t_37) fun _ σ =>
  some (t_37, σ)
  )
  )
  )
  )
set_option maxRecDepth 100000 in
noncomputable def z_X12_deep (σ : ez_H) (h0 : Nat) : Option (Int32) :=
  ez_bd (ez_ob σ 12 h0) fun _ =>
  ez_bd (ez_gr σ 12 h0 12) fun t_1 =>
  ez_bd (ez_gi σ 12 h0 43) fun t_5 =>
  ez_bd (ez_ia σ 1 t_1 t_5) fun t_8 =>
  some t_8
set_option maxRecDepth 100000 in
noncomputable def z_X12_wide (σ : ez_H) (h0 : Nat) : Option (Int32) :=
  ez_bd (ez_ob σ 12 h0) fun _ =>
  ez_bd (ez_gr σ 12 h0 11) fun t_1 =>
  ez_bd (ez_gi σ 12 h0 43) fun t_5 =>
  ez_bd (ez_ia σ 1 t_1 t_5) fun t_8 =>
  some t_8
set_option maxRecDepth 100000 in
noncomputable def z_X12_about (σ : ez_H) (h0 : Nat) (x1 : Int32) : Option (Int32) :=
  ez_bd (ez_ob σ 12 h0) fun _ =>
  if x1 = 0 then (
  ez_bd (z_X12_many σ h0) fun t_81 =>
  some t_81
  ) else (
  if x1 = 1 then (
  ez_bd (z_X12_bolts σ h0) fun t_86 =>
  some t_86
  ) else (
  if x1 = 2 then (
  ez_bd (ez_gr σ 12 h0 16) fun t_91 =>
  ez_bd (ez_gi σ 12 h0 43) fun t_95 =>
  ez_bd (ez_ia σ 1 t_91 t_95) fun t_98 =>
  some t_98
  ) else (
  if x1 = 3 then (
  ez_bd (ez_gr σ 12 h0 17) fun t_101 =>
  ez_bd (ez_gi σ 12 h0 43) fun t_105 =>
  ez_bd (ez_ia σ 1 t_101 t_105) fun t_108 =>
  some t_108
  ) else (
  if x1 = 4 then (
  ez_bd (ez_gr σ 12 h0 18) fun t_111 =>
  ez_bd (ez_gi σ 12 h0 43) fun t_115 =>
  ez_bd (ez_ia σ 1 t_111 t_115) fun t_118 =>
  some t_118
  ) else (
  if x1 = 5 then (
  ez_bd (z_X12_wide σ h0) fun t_121 =>
  some t_121
  ) else (
  if x1 = 6 then (
  ez_bd (z_X12_deep σ h0) fun t_126 =>
  some t_126
  ) else (
  if x1 = 7 then (
  ez_bd (ez_gr σ 12 h0 13) fun t_131 =>
  ez_bd (ez_gi σ 12 h0 43) fun t_135 =>
  ez_bd (ez_ia σ 1 t_131 t_135) fun t_138 =>
  some t_138
  ) else (
  if x1 = 8 then (
  ez_bd (ez_gr σ 12 h0 53) fun t_141 =>
  ez_bd (ez_ia σ 1 t_141 (90 : Int32)) fun t_146 =>
  some t_146
  ) else (
  if x1 = 9 then (
  ez_bd (ez_gi σ 12 h0 60) fun t_149 =>
  some t_149
  ) else (
  if x1 = 10 then (
  ez_bd (ez_gi σ 12 h0 61) fun t_154 =>
  some t_154
  ) else (
  if x1 = 11 then (
  ez_bd (ez_gi σ 12 h0 66) fun t_159 =>
  some t_159
  ) else (
  if x1 = 12 then (
  ez_bd (ez_gi σ 12 h0 67) fun t_164 =>
  some t_164
  ) else (
  if x1 = 13 then (
  ez_bd (ez_gi σ 12 h0 2) fun t_169 =>
  some t_169
  ) else (
  if x1 = 14 then (
  ez_bd (ez_gr σ 12 h0 19) fun t_174 =>
  ez_bd (ez_gi σ 12 h0 43) fun t_178 =>
  ez_bd (ez_ia σ 1 t_174 t_178) fun t_181 =>
  some t_181
  ) else (
  if x1 = 15 then (
  ez_bd (ez_gi σ 12 h0 57) fun t_184 =>
  some t_184
  ) else (
  some (-1 : Int32)
  ))))))))))))))))
set_option maxRecDepth 100000 in
noncomputable def z_X12_isIn_15 (σ : ez_H) (y0 : Int32) : Option (Int32) :=
  ez_nr .boolean y0 <|
  some y0
set_option maxRecDepth 100000 in
noncomputable def z_X12_isIn_14 (σ : ez_H) : Option (Int32) :=
  z_X12_isIn_15 σ (0 : Int32)
set_option maxRecDepth 100000 in
noncomputable def z_X12_isIn (σ : ez_H) (x0 : Int32) (x1 : Int32) (x2 : Int32) : Option (Int32) :=
  if x0 < x1 then (
  z_X12_isIn_14 σ 
  ) else (
  if x2 < x0 then (
  z_X12_isIn_14 σ 
  ) else (
  z_X12_isIn_15 σ (1 : Int32)
  )
  )
set_option maxRecDepth 100000 in
noncomputable def z_X12_power_4 (σ : ez_H) (k_4 : Int32 → Int32 → Int32 → Int32 → Option (Int32)) (x0 : Int32) (x1 : Int32) (x2 : Int32) (x3 : Int32) : Option (Int32) :=
  if x1 ≤ x3 then (
  some x2
  ) else (
  ez_let (x2 * x0) fun t_11 =>
  ez_let (x3 + 1) fun t_13 =>
  k_4 x0 x1 t_11 t_13
  )
set_option maxRecDepth 100000 in
noncomputable def z_X12_power (σ : ez_H) (x0 : Int32) (x1 : Int32) : Option (Int32) :=
  ez_fix (fun _ _ _ _ => none) (z_X12_power_4 σ) ez_N x0 x1 (1 : Int32) (0 : Int32)
set_option maxRecDepth 100000 in
noncomputable def z_X12_bittings (σ : ez_H) (h0 : Nat) : Option (Int32) :=
  ez_bd (ez_ob σ 12 h0) fun _ =>
  ez_bd (z_X12_deep σ h0) fun t_1 =>
  ez_bd (z_X12_wide σ h0) fun t_5 =>
  ez_bd (z_X12_power σ t_1 t_5) fun t_8 =>
  some t_8
set_option maxRecDepth 100000 in
noncomputable def z_X12_absolute_10 (σ : ez_H) (y0 : Int32) : Option (Int32) :=
  some y0
set_option maxRecDepth 100000 in
noncomputable def z_X12_absolute (σ : ez_H) (x0 : Int32) : Option (Int32) :=
  if (0 : Int32) ≤ x0 then (
  z_X12_absolute_10 σ x0
  ) else (
  ez_let (-x0) fun t_5 =>
  z_X12_absolute_10 σ t_5
  )
set_option maxRecDepth 100000 in
noncomputable def z_X12_isLegalBy_13 (σ : ez_H) (k_13 : Nat → Int32 → Int32 → Int32 → Int32 → Option (Int32)) (h0 : Nat) (x2 : Int32) (x3 : Int32) (x4 : Int32) (x5 : Int32) : Option (Int32) :=
  ez_bd (z_X12_wide σ h0) fun t_16 =>
  if t_16 ≤ x5 then (
  some (1 : Int32)
  ) else (
  ez_bd (z_X12_deep σ h0) fun t_24 =>
  ez_nz t_24 <|
  ez_let (x3 / t_24) fun t_27 =>
  ez_bd (z_X12_deep σ h0) fun t_31 =>
  ez_nz t_31 <|
  ez_let (t_27 - t_27 / t_31 * t_31) fun t_34 =>
  ez_let (t_34 - x4) fun t_37 =>
  ez_bd (z_X12_absolute σ t_37) fun t_38 =>
  if t_38 ≤ x2 then (
  ez_bd (z_X12_deep σ h0) fun t_49 =>
  ez_nz t_49 <|
  ez_let (t_27 - t_27 / t_49 * t_49) fun t_52 =>
  ez_let (x5 + 1) fun t_55 =>
  k_13 h0 x2 t_27 t_52 t_55
  ) else (
  some (0 : Int32)
  )
  )
set_option maxRecDepth 100000 in
noncomputable def z_X12_isLegalBy (σ : ez_H) (h0 : Nat) (x1 : Int32) (x2 : Int32) : Option (Int32) :=
  ez_bd (ez_ob σ 12 h0) fun _ =>
  ez_bd (z_X12_deep σ h0) fun t_4 =>
  ez_nz t_4 <|
  ez_let (x1 - x1 / t_4 * t_4) fun t_7 =>
  ez_fix (fun _ _ _ _ _ => none) (z_X12_isLegalBy_13 σ) ez_N h0 x2 x1 t_7 (1 : Int32)
set_option maxRecDepth 100000 in
noncomputable def z_X12_isLegal_36 (σ : ez_H) (y0 : Int32) : Option (Int32) :=
  ez_nr .boolean y0 <|
  some y0
set_option maxRecDepth 100000 in
noncomputable def z_X12_isLegal_35 (σ : ez_H) : Option (Int32) :=
  z_X12_isLegal_36 σ (0 : Int32)
set_option maxRecDepth 100000 in
noncomputable def z_X12_isLegal (σ : ez_H) (h0 : Nat) (x1 : Int32) : Option (Int32) :=
  ez_bd (ez_ob σ 12 h0) fun _ =>
  ez_bd (z_X12_bittings σ h0) fun t_3 =>
  ez_let (t_3 - (1 : Int32)) fun t_7 =>
  ez_bd (z_X12_isIn σ x1 (0 : Int32) t_7) fun t_8 =>
  if t_8 = (0 : Int32) then (
  z_X12_isLegal_35 σ 
  ) else (
  ez_bd (ez_gr σ 12 h0 13) fun t_17 =>
  ez_bd (ez_gi σ 12 h0 43) fun t_21 =>
  ez_bd (ez_ia σ 1 t_17 t_21) fun t_24 =>
  ez_bd (z_X12_isLegalBy σ h0 x1 t_24) fun t_25 =>
  if t_25 = (0 : Int32) then (
  z_X12_isLegal_35 σ 
  ) else (
  z_X12_isLegal_36 σ (1 : Int32)
  )
  )
set_option maxRecDepth 100000 in
noncomputable def z_X12_bit_14 (σ : ez_H) (y0 : Int32) : Option (Int32) :=
  ez_nr .boolean y0 <|
  some y0
set_option maxRecDepth 100000 in
noncomputable def z_X12_bit (σ : ez_H) (x0 : Int32) (x1 : Int32) : Option (Int32) :=
  ez_let (x0 >>> (x1 &&& 31)) fun t_2 =>
  ez_let (t_2 &&& (1 : Int32)) fun t_4 =>
  if t_4 = (1 : Int32) then (
  z_X12_bit_14 σ (1 : Int32)
  ) else (
  z_X12_bit_14 σ (0 : Int32)
  )
set_option maxRecDepth 100000 in
noncomputable def z_X12_openedAsTold_10 (σ : ez_H) (k_10 : Nat → Int32 → Int32 → Int32 → Option (Int32)) (h0 : Nat) (x2 : Int32) (x3 : Int32) (x4 : Int32) : Option (Int32) :=
  if x4 < (0 : Int32) then (
  some (1 : Int32)
  ) else (
  ez_bd (ez_gr σ 12 h0 23) fun t_16 =>
  ez_bd (ez_gi σ 12 h0 43) fun t_23 =>
  ez_let ((6 : Int32) * t_23) fun t_26 =>
  ez_let (t_26 + x2) fun t_28 =>
  ez_let ((5 : Int32) * t_28) fun t_29 =>
  ez_let (t_29 + x4) fun t_32 =>
  ez_bd (ez_ia σ 1 t_16 t_32) fun t_33 =>
  ez_bd (z_X12_deep σ h0) fun t_36 =>
  ez_nz t_36 <|
  ez_let (x3 - x3 / t_36 * t_36) fun t_39 =>
  ez_bd (z_X12_bit σ t_33 t_39) fun t_40 =>
  if t_40 = (0 : Int32) then (
  some (0 : Int32)
  ) else (
  ez_bd (z_X12_deep σ h0) fun t_50 =>
  ez_nz t_50 <|
  ez_let (x3 / t_50) fun t_53 =>
  ez_let (x4 + (-1)) fun t_55 =>
  k_10 h0 x2 t_53 t_55
  )
  )
set_option maxRecDepth 100000 in
noncomputable def z_X12_openedAsTold (σ : ez_H) (h0 : Nat) (x1 : Int32) (x2 : Int32) : Option (Int32) :=
  ez_bd (ez_ob σ 12 h0) fun _ =>
  ez_bd (z_X12_wide σ h0) fun t_3 =>
  ez_let (t_3 - (1 : Int32)) fun t_7 =>
  ez_fix (fun _ _ _ _ => none) (z_X12_openedAsTold_10 σ) ez_N h0 x2 x1 t_7
set_option maxRecDepth 100000 in
noncomputable def z_X12_doesFit_74 (σ : ez_H) (k_12 : Nat → Int32 → Int32 → Int32 → Option (Int32)) (h0 : Nat) (x1 : Int32) (x2 : Int32) (x3 : Int32) : Option (Int32) :=
  ez_let (x3 + 1) fun t_74 =>
  k_12 h0 x1 x2 t_74
set_option maxRecDepth 100000 in
noncomputable def z_X12_doesFit_52 (σ : ez_H) (k_12 : Nat → Int32 → Int32 → Int32 → Option (Int32)) (h0 : Nat) (x1 : Int32) (x2 : Int32) (x3 : Int32) : Option (Int32) :=
  ez_bd (ez_gr σ 12 h0 62) fun t_55 =>
  ez_bd (ez_ia σ 1 t_55 x3) fun t_59 =>
  ez_bd (z_X12_openedAsTold σ h0 x1 t_59) fun t_60 =>
  ez_bd (ez_gr σ 12 h0 63) fun t_64 =>
  ez_bd (ez_ia σ 1 t_64 x3) fun t_68 =>
  if t_60 = t_68 then (
  z_X12_doesFit_74 σ k_12 h0 x1 x2 x3
  ) else (
  some (0 : Int32)
  )
set_option maxRecDepth 100000 in
noncomputable def z_X12_doesFit_12 (σ : ez_H) (k_12 : Nat → Int32 → Int32 → Int32 → Option (Int32)) (h0 : Nat) (x1 : Int32) (x2 : Int32) (x3 : Int32) : Option (Int32) :=
  ez_bd (ez_gi σ 12 h0 66) fun t_14 =>
  if t_14 ≤ x3 then (
  some (1 : Int32)
  ) else (
  ez_bd (ez_gr σ 12 h0 64) fun t_21 =>
  ez_bd (ez_ia σ 1 t_21 x3) fun t_25 =>
  if x2 < t_25 then (
  z_X12_doesFit_74 σ k_12 h0 x1 x2 x3
  ) else (
  ez_bd (ez_gr σ 12 h0 65) fun t_31 =>
  ez_bd (ez_ia σ 1 t_31 x3) fun t_35 =>
  if t_35 < (0 : Int32) then (
  z_X12_doesFit_52 σ k_12 h0 x1 x2 x3
  ) else (
  ez_bd (ez_gr σ 12 h0 65) fun t_40 =>
  ez_bd (ez_ia σ 1 t_40 x3) fun t_44 =>
  if x2 < t_44 then (
  z_X12_doesFit_52 σ k_12 h0 x1 x2 x3
  ) else (
  z_X12_doesFit_74 σ k_12 h0 x1 x2 x3
  )
  )
  )
  )
set_option maxRecDepth 100000 in
noncomputable def z_X12_doesFit (σ : ez_H) (h0 : Nat) (x1 : Int32) (x2 : Int32) : Option (Int32) :=
  ez_bd (ez_ob σ 12 h0) fun _ =>
  ez_bd (z_X12_isLegal σ h0 x1) fun t_2 =>
  if t_2 = (0 : Int32) then (
  some (0 : Int32)
  ) else (
  ez_fix (fun _ _ _ _ => none) (z_X12_doesFit_12 σ) ez_N h0 x1 x2 (0 : Int32)
  )
set_option maxRecDepth 100000 in
noncomputable def z_X12_fits_24 (σ : ez_H) (k_4 : Nat → Int32 → Int32 → Int32 → Option (Int32)) (h0 : Nat) (x1 : Int32) (x2 : Int32) (x3 : Int32) : Option (Int32) :=
  ez_let (x3 + 1) fun t_24 =>
  k_4 h0 x1 x2 t_24
set_option maxRecDepth 100000 in
noncomputable def z_X12_fits_4 (σ : ez_H) (k_4 : Nat → Int32 → Int32 → Int32 → Option (Int32)) (h0 : Nat) (x1 : Int32) (x2 : Int32) (x3 : Int32) : Option (Int32) :=
  ez_bd (z_X12_bittings σ h0) fun t_6 =>
  if t_6 ≤ x3 then (
  some x2
  ) else (
  ez_bd (z_X12_doesFit σ h0 x3 x1) fun t_15 =>
  if t_15 = (0 : Int32) then (
  z_X12_fits_24 σ k_4 h0 x1 x2 x3
  ) else (
  ez_let (x2 + 1) fun t_21 =>
  z_X12_fits_24 σ k_4 h0 x1 t_21 x3
  )
  )
set_option maxRecDepth 100000 in
noncomputable def z_X12_fits (σ : ez_H) (h0 : Nat) (x1 : Int32) : Option (Int32) :=
  ez_bd (ez_ob σ 12 h0) fun _ =>
  ez_fix (fun _ _ _ _ => none) (z_X12_fits_4 σ) ez_N h0 x1 (0 : Int32) (0 : Int32)
set_option maxRecDepth 100000 in
noncomputable def z_X12_mostBy_68 (σ : ez_H) (y0 : Int32) : Option (Int32) :=
  some y0
set_option maxRecDepth 100000 in
noncomputable def z_X12_mostBy_50 (σ : ez_H) (k_8 : Nat → Int32 → Int32 → Int32 → Int32 → Int32 → Option (Int32)) (h0 : Nat) (x1 : Int32) (x2 : Int32) (x3 : Int32) (x4 : Int32) (x5 : Int32) : Option (Int32) :=
  ez_let (x5 + 1) fun t_50 =>
  k_8 h0 x1 x2 x3 x4 t_50
set_option maxRecDepth 100000 in
noncomputable def z_X12_mostBy_8 (σ : ez_H) (k_8 : Nat → Int32 → Int32 → Int32 → Int32 → Int32 → Option (Int32)) (h0 : Nat) (x1 : Int32) (x2 : Int32) (x3 : Int32) (x4 : Int32) (x5 : Int32) : Option (Int32) :=
  ez_bd (z_X12_bittings σ h0) fun t_11 =>
  if t_11 ≤ x5 then (
  if x3 ≤ x4 then (
  z_X12_mostBy_68 σ x4
  ) else (
  z_X12_mostBy_68 σ x3
  )
  ) else (
  ez_bd (z_X12_doesFit σ h0 x5 x2) fun t_21 =>
  if t_21 = (0 : Int32) then (
  z_X12_mostBy_50 σ k_8 h0 x1 x2 x3 x4 x5
  ) else (
  ez_bd (z_X12_openedAsTold σ h0 x5 x1) fun t_34 =>
  if t_34 = (1 : Int32) then (
  ez_let (x3 + 1) fun t_41 =>
  z_X12_mostBy_50 σ k_8 h0 x1 x2 t_41 x4 x5
  ) else (
  ez_let (x4 + 1) fun t_47 =>
  z_X12_mostBy_50 σ k_8 h0 x1 x2 x3 t_47 x5
  )
  )
  )
set_option maxRecDepth 100000 in
noncomputable def z_X12_mostBy (σ : ez_H) (h0 : Nat) (x1 : Int32) (x2 : Int32) : Option (Int32) :=
  ez_bd (ez_ob σ 12 h0) fun _ =>
  ez_fix (fun _ _ _ _ _ _ => none) (z_X12_mostBy_8 σ) ez_N h0 x1 x2 (0 : Int32) (0 : Int32) (0 : Int32)
set_option maxRecDepth 100000 in
noncomputable def z_X12_ask_24 (σ : ez_H) : Option (Int32) :=
  some (-1 : Int32)
set_option maxRecDepth 100000 in
noncomputable def z_X12_ask_87 (σ : ez_H) (y0 : Int32) : Option (Int32) :=
  some y0
set_option maxRecDepth 100000 in
noncomputable def z_X12_ask_71 (σ : ez_H) (k_36 : Nat → Int32 → Int32 → Int32 → Int32 → Int32 → Option (Int32)) (h0 : Nat) (x1 : Int32) (x2 : Int32) (x3 : Int32) (x4 : Int32) (x5 : Int32) : Option (Int32) :=
  ez_let (x5 + 1) fun t_71 =>
  k_36 h0 x1 x2 x3 x4 t_71
set_option maxRecDepth 100000 in
noncomputable def z_X12_ask_36 (σ : ez_H) (k_36 : Nat → Int32 → Int32 → Int32 → Int32 → Int32 → Option (Int32)) (h0 : Nat) (x1 : Int32) (x2 : Int32) (x3 : Int32) (x4 : Int32) (x5 : Int32) : Option (Int32) :=
  ez_bd (z_X12_bolts σ h0) fun t_39 =>
  if t_39 ≤ x5 then (
  if x1 = (0 : Int32) then (
  z_X12_ask_87 σ x3
  ) else (
  z_X12_ask_87 σ x4
  )
  ) else (
  ez_bd (z_X12_mostBy σ h0 x5 x2) fun t_49 =>
  if t_49 < x4 then (
  z_X12_ask_71 σ k_36 h0 x1 x2 x5 t_49 x5
  ) else (
  z_X12_ask_71 σ k_36 h0 x1 x2 x3 x4 x5
  )
  )
set_option maxRecDepth 100000 in
noncomputable def z_X12_ask (σ : ez_H) (h0 : Nat) (x1 : Int32) (x2 : Int32) : Option (Int32) :=
  ez_bd (ez_ob σ 12 h0) fun _ =>
  ez_bd (z_X12_isIn σ x1 (0 : Int32) (1 : Int32)) fun t_3 =>
  if t_3 = (0 : Int32) then (
  z_X12_ask_24 σ 
  ) else (
  ez_bd (z_X12_bolts σ h0) fun t_10 =>
  if t_10 = (0 : Int32) then (
  z_X12_ask_24 σ 
  ) else (
  ez_bd (z_X12_fits σ h0 x2) fun t_18 =>
  if t_18 = (0 : Int32) then (
  z_X12_ask_24 σ 
  ) else (
  ez_fix (fun _ _ _ _ _ _ => none) (z_X12_ask_36 σ) ez_N h0 x1 x2 (-1 : Int32) (100000 : Int32) (0 : Int32)
  )
  )
  )
set_option maxRecDepth 100000 in
noncomputable def z_X12_holderOf (σ : ez_H) (h0 : Nat) (x1 : Int32) : Option (Int32) :=
  ez_bd (ez_ob σ 12 h0) fun _ =>
  ez_bd (ez_gr σ 12 h0 53) fun t_1 =>
  ez_let ((48 : Int32) + x1) fun t_7 =>
  ez_bd (ez_ia σ 1 t_1 t_7) fun t_8 =>
  some t_8
set_option maxRecDepth 100000 in
noncomputable def z_X12_keysBy_27 (σ : ez_H) (k_4 : Nat → Int32 → Int32 → Int32 → Option (Int32)) (h0 : Nat) (x1 : Int32) (x2 : Int32) (x3 : Int32) : Option (Int32) :=
  ez_let (x3 + 1) fun t_27 =>
  k_4 h0 x1 x2 t_27
set_option maxRecDepth 100000 in
noncomputable def z_X12_keysBy_4 (σ : ez_H) (k_4 : Nat → Int32 → Int32 → Int32 → Option (Int32)) (h0 : Nat) (x1 : Int32) (x2 : Int32) (x3 : Int32) : Option (Int32) :=
  ez_bd (z_X12_many σ h0) fun t_6 =>
  if t_6 ≤ x3 then (
  some x2
  ) else (
  ez_bd (z_X12_holderOf σ h0 x3) fun t_14 =>
  if t_14 = x1 then (
  ez_let ((1 : Int32) <<< (x3 &&& 31)) fun t_24 =>
  ez_let (x2 ||| t_24) fun t_25 =>
  z_X12_keysBy_27 σ k_4 h0 x1 t_25 x3
  ) else (
  z_X12_keysBy_27 σ k_4 h0 x1 x2 x3
  )
  )
set_option maxRecDepth 100000 in
noncomputable def z_X12_keysBy (σ : ez_H) (h0 : Nat) (x1 : Int32) : Option (Int32) :=
  ez_bd (ez_ob σ 12 h0) fun _ =>
  ez_fix (fun _ _ _ _ => none) (z_X12_keysBy_4 σ) ez_N h0 x1 (0 : Int32) (0 : Int32)
set_option maxRecDepth 100000 in
noncomputable def z_X12_bitsOf_4 (σ : ez_H) (k_4 : Int32 → Int32 → Option (Int32)) (x1 : Int32) (x2 : Int32) : Option (Int32) :=
  if x2 = (0 : Int32) then (
  some x1
  ) else (
  ez_let (x1 + 1) fun t_8 =>
  ez_let (x2 - (1 : Int32)) fun t_14 =>
  ez_let (x2 &&& t_14) fun t_15 =>
  k_4 t_8 t_15
  )
set_option maxRecDepth 100000 in
noncomputable def z_X12_bitsOf (σ : ez_H) (x0 : Int32) : Option (Int32) :=
  ez_fix (fun _ _ => none) (z_X12_bitsOf_4 σ) ez_N (0 : Int32) x0
set_option maxRecDepth 100000 in
noncomputable def z_X12_back_18 (σ : ez_H) : Option (Int32 × ez_H) :=
  some ((-1 : Int32), σ)
set_option maxRecDepth 100000 in
noncomputable def z_X12_back_22 (k_22 : ez_H → Nat → Int32 → Int32 → Option (Int32 × ez_H)) (σ : ez_H) (h0 : Nat) (x1 : Int32) (x2 : Int32) : Option (Int32 × ez_H) :=
  if (91 : Int32) ≤ x2 then (
  ez_bd (ez_pf σ 12 h0 60 (.inl (0 : Int32))) fun σ =>
  ez_bd (ez_pf σ 12 h0 61 (.inl (0 : Int32))) fun σ =>
  ez_bd (z_X12_keysBy σ h0 (-2 : Int32)) fun t_64 =>
  ez_bd (z_X12_bitsOf σ t_64) fun t_67 =>
  some (t_67, σ)
  ) else (
  ez_bd (ez_gr σ 12 h0 53) fun t_29 =>
  ez_bd (ez_gr σ 12 h0 68) fun t_34 =>
  ez_let ((91 : Int32) * x1) fun t_40 =>
  ez_let (t_40 + x2) fun t_42 =>
  ez_bd (ez_ia σ 1 t_34 t_42) fun t_43 =>
  ez_bd (ez_is σ 1 t_29 x2 t_43) fun σ =>
  ez_let (x2 + 1) fun t_45 =>
  k_22 σ h0 x1 t_45
  )
set_option maxRecDepth 100000 in
noncomputable def z_X12_back (σ : ez_H) (h0 : Nat) (x1 : Int32) : Option (Int32 × ez_H) :=
  ez_bd (ez_ob σ 12 h0) fun _ =>
  ez_bd (z_X12_isIn σ x1 (0 : Int32) (2 : Int32)) fun t_3 =>
  if t_3 = (0 : Int32) then (
  z_X12_back_18  σ
  ) else (
  ez_bd (ez_gr σ 12 h0 69) fun t_10 =>
  ez_bd (ez_ia σ 3 t_10 x1) fun t_14 =>
  if t_14 = (0 : Int32) then (
  z_X12_back_18  σ
  ) else (
  ez_fix (fun _ _ _ _ => none) (z_X12_back_22 ) ez_N σ h0 x1 (0 : Int32)
  )
  )
set_option maxRecDepth 100000 in
noncomputable def z_X12_keysOf (σ : ez_H) (h0 : Nat) (x1 : Int32) : Option (Int32) :=
  ez_bd (ez_ob σ 12 h0) fun _ =>
  ez_bd (z_X12_keysBy σ h0 x1) fun t_2 =>
  some t_2
set_option maxRecDepth 100000 in
noncomputable def z_X12_cutOf (σ : ez_H) (h0 : Nat) (x1 : Int32) (x2 : Int32) : Option (Int32) :=
  ez_bd (ez_ob σ 12 h0) fun _ =>
  ez_bd (ez_gr σ 12 h0 53) fun t_1 =>
  ez_let ((5 : Int32) * x1) fun t_7 =>
  ez_let ((0 : Int32) + t_7) fun t_8 =>
  ez_let (t_8 + x2) fun t_10 =>
  ez_bd (ez_ia σ 1 t_1 t_10) fun t_11 =>
  some t_11
set_option maxRecDepth 100000 in
noncomputable def z_X12_numberOf_4 (σ : ez_H) (k_4 : Nat → Int32 → Int32 → Int32 → Option (Int32)) (h0 : Nat) (x1 : Int32) (x2 : Int32) (x3 : Int32) : Option (Int32) :=
  ez_bd (z_X12_wide σ h0) fun t_6 =>
  if t_6 ≤ x3 then (
  some x2
  ) else (
  ez_bd (z_X12_deep σ h0) fun t_13 =>
  ez_let (t_13 * x2) fun t_17 =>
  ez_bd (z_X12_cutOf σ h0 x1 x3) fun t_21 =>
  ez_let (t_17 + t_21) fun t_24 =>
  ez_let (x3 + 1) fun t_26 =>
  k_4 h0 x1 t_24 t_26
  )
set_option maxRecDepth 100000 in
noncomputable def z_X12_numberOf (σ : ez_H) (h0 : Nat) (x1 : Int32) : Option (Int32) :=
  ez_bd (ez_ob σ 12 h0) fun _ =>
  ez_fix (fun _ _ _ _ => none) (z_X12_numberOf_4 σ) ez_N h0 x1 (0 : Int32) (0 : Int32)
set_option maxRecDepth 100000 in
noncomputable def z_X12_partsOf (σ : ez_H) (h0 : Nat) (x1 : Int32) (x2 : Int32) : Option (Int32) :=
  ez_bd (ez_ob σ 12 h0) fun _ =>
  ez_bd (ez_gr σ 12 h0 53) fun t_1 =>
  ez_let ((5 : Int32) * x1) fun t_8 =>
  ez_let ((56 : Int32) + t_8) fun t_9 =>
  ez_let (t_9 + x2) fun t_11 =>
  ez_bd (ez_ia σ 1 t_1 t_11) fun t_12 =>
  some t_12
set_option maxRecDepth 100000 in
noncomputable def z_X12_doesOpen_10 (σ : ez_H) (k_10 : Nat → Int32 → Int32 → Int32 → Option (Int32)) (h0 : Nat) (x2 : Int32) (x3 : Int32) (x4 : Int32) : Option (Int32) :=
  if x4 < (0 : Int32) then (
  some (1 : Int32)
  ) else (
  ez_bd (z_X12_partsOf σ h0 x2 x4) fun t_19 =>
  ez_bd (z_X12_deep σ h0) fun t_24 =>
  ez_nz t_24 <|
  ez_let (x3 - x3 / t_24 * t_24) fun t_27 =>
  ez_bd (z_X12_bit σ t_19 t_27) fun t_28 =>
  if t_28 = (0 : Int32) then (
  some (0 : Int32)
  ) else (
  ez_bd (z_X12_deep σ h0) fun t_38 =>
  ez_nz t_38 <|
  ez_let (x3 / t_38) fun t_41 =>
  ez_let (x4 + (-1)) fun t_43 =>
  k_10 h0 x2 t_41 t_43
  )
  )
set_option maxRecDepth 100000 in
noncomputable def z_X12_doesOpen (σ : ez_H) (h0 : Nat) (x1 : Int32) (x2 : Int32) : Option (Int32) :=
  ez_bd (ez_ob σ 12 h0) fun _ =>
  ez_bd (z_X12_wide σ h0) fun t_3 =>
  ez_let (t_3 - (1 : Int32)) fun t_7 =>
  ez_fix (fun _ _ _ _ => none) (z_X12_doesOpen_10 σ) ez_N h0 x2 x1 t_7
set_option maxRecDepth 100000 in
noncomputable def z_X12_opensBy (σ : ez_H) (h0 : Nat) (x1 : Int32) (x2 : Int32) : Option (Int32) :=
  ez_bd (ez_ob σ 12 h0) fun _ =>
  ez_bd (z_X12_numberOf σ h0 x1) fun t_3 =>
  ez_bd (z_X12_doesOpen σ h0 t_3 x2) fun t_7 =>
  ez_nr .boolean t_7 <|
  some t_7
set_option maxRecDepth 100000 in
noncomputable def z_X12_openedWith_29 (σ : ez_H) (k_2 : Nat → Int32 → Int32 → Int32 → Option (Int32)) (h0 : Nat) (x1 : Int32) (x2 : Int32) (x3 : Int32) : Option (Int32) :=
  ez_let (x3 + 1) fun t_29 =>
  k_2 h0 x1 x2 t_29
set_option maxRecDepth 100000 in
noncomputable def z_X12_openedWith_2 (σ : ez_H) (k_2 : Nat → Int32 → Int32 → Int32 → Option (Int32)) (h0 : Nat) (x1 : Int32) (x2 : Int32) (x3 : Int32) : Option (Int32) :=
  ez_bd (z_X12_many σ h0) fun t_4 =>
  if t_4 ≤ x3 then (
  some (0 : Int32)
  ) else (
  ez_bd (z_X12_bit σ x2 x3) fun t_12 =>
  if t_12 = (0 : Int32) then (
  z_X12_openedWith_29 σ k_2 h0 x1 x2 x3
  ) else (
  ez_bd (z_X12_opensBy σ h0 x3 x1) fun t_21 =>
  if t_21 = (0 : Int32) then (
  z_X12_openedWith_29 σ k_2 h0 x1 x2 x3
  ) else (
  some (1 : Int32)
  )
  )
  )
set_option maxRecDepth 100000 in
noncomputable def z_X12_openedWith (σ : ez_H) (h0 : Nat) (x1 : Int32) (x2 : Int32) : Option (Int32) :=
  ez_bd (ez_ob σ 12 h0) fun _ =>
  ez_fix (fun _ _ _ _ => none) (z_X12_openedWith_2 σ) ez_N h0 x1 x2 (0 : Int32)
set_option maxRecDepth 100000 in
noncomputable def z_X12_locksWith_27 (σ : ez_H) (k_4 : Nat → Int32 → Int32 → Int32 → Option (Int32)) (h0 : Nat) (x1 : Int32) (x2 : Int32) (x3 : Int32) : Option (Int32) :=
  ez_let (x3 + 1) fun t_27 =>
  k_4 h0 x1 x2 t_27
set_option maxRecDepth 100000 in
noncomputable def z_X12_locksWith_4 (σ : ez_H) (k_4 : Nat → Int32 → Int32 → Int32 → Option (Int32)) (h0 : Nat) (x1 : Int32) (x2 : Int32) (x3 : Int32) : Option (Int32) :=
  ez_bd (z_X12_bolts σ h0) fun t_6 =>
  if t_6 ≤ x3 then (
  some x2
  ) else (
  ez_bd (z_X12_openedWith σ h0 x3 x1) fun t_15 =>
  if t_15 = (0 : Int32) then (
  z_X12_locksWith_27 σ k_4 h0 x1 x2 x3
  ) else (
  ez_let ((1 : Int32) <<< (x3 &&& 31)) fun t_24 =>
  ez_let (x2 ||| t_24) fun t_25 =>
  z_X12_locksWith_27 σ k_4 h0 x1 t_25 x3
  )
  )
set_option maxRecDepth 100000 in
noncomputable def z_X12_locksWith (σ : ez_H) (h0 : Nat) (x1 : Int32) : Option (Int32) :=
  ez_bd (ez_ob σ 12 h0) fun _ =>
  ez_fix (fun _ _ _ _ => none) (z_X12_locksWith_4 σ) ez_N h0 x1 (0 : Int32) (0 : Int32)
set_option maxRecDepth 100000 in
noncomputable def z_X12_reachBy_102 (σ : ez_H) (k_14 : Nat → Int32 → Int32 → Int32 → Option (Int32)) (k_30 : Nat → Int32 → Int32 → Int32 → Int32 → Option (Int32)) (h0 : Nat) (x3 : Int32) (x4 : Int32) (x5 : Int32) (x6 : Int32) : Option (Int32) :=
  ez_let (x6 + 1) fun t_102 =>
  k_30 h0 x3 x4 x5 t_102
set_option maxRecDepth 100000 in
noncomputable def z_X12_reachBy_30 (σ : ez_H) (k_14 : Nat → Int32 → Int32 → Int32 → Option (Int32)) (k_30 : Nat → Int32 → Int32 → Int32 → Int32 → Option (Int32)) (h0 : Nat) (x3 : Int32) (x4 : Int32) (x5 : Int32) (x6 : Int32) : Option (Int32) :=
  ez_bd (ez_gi σ 12 h0 43) fun t_35 =>
  ez_let ((8 : Int32) * t_35) fun t_38 =>
  ez_bd (ez_gr σ 12 h0 17) fun t_40 =>
  ez_bd (ez_gi σ 12 h0 43) fun t_44 =>
  ez_bd (ez_ia σ 1 t_40 t_44) fun t_47 =>
  ez_let (t_38 + t_47) fun t_48 =>
  if t_48 ≤ x6 then (
  ez_let (x5 + 1) fun t_108 =>
  k_14 h0 x3 x4 t_108
  ) else (
  ez_bd (ez_gr σ 12 h0 24) fun t_54 =>
  ez_bd (ez_ia σ 1 t_54 x6) fun t_59 =>
  ez_let ((1 : Int32) <<< (t_59 &&& 31)) fun t_60 =>
  ez_bd (ez_gr σ 12 h0 25) fun t_63 =>
  ez_bd (ez_ia σ 1 t_63 x6) fun t_68 =>
  ez_let ((1 : Int32) <<< (t_68 &&& 31)) fun t_69 =>
  ez_let (t_60 ||| t_69) fun t_70 =>
  ez_bd (ez_gr σ 12 h0 26) fun t_75 =>
  ez_bd (ez_ia σ 1 t_75 x6) fun t_80 =>
  ez_bd (z_X12_bit σ x3 t_80) fun t_81 =>
  if t_81 = (0 : Int32) then (
  z_X12_reachBy_102 σ k_14 k_30 h0 x3 x4 x5 x6
  ) else (
  ez_let (x4 &&& t_70) fun t_91 =>
  if t_91 = (0 : Int32) then (
  z_X12_reachBy_102 σ k_14 k_30 h0 x3 x4 x5 x6
  ) else (
  ez_let (x4 ||| t_70) fun t_99 =>
  z_X12_reachBy_102 σ k_14 k_30 h0 x3 t_99 x5 x6
  )
  )
  )
set_option maxRecDepth 100000 in
noncomputable def z_X12_reachBy_14 (σ : ez_H) (k_14 : Nat → Int32 → Int32 → Int32 → Option (Int32)) (h0 : Nat) (x3 : Int32) (x4 : Int32) (x5 : Int32) : Option (Int32) :=
  if (6 : Int32) ≤ x5 then (
  some x4
  ) else (
  ez_bd (ez_gi σ 12 h0 43) fun t_24 =>
  ez_let ((8 : Int32) * t_24) fun t_27 =>
  ez_fix (fun _ _ _ _ _ => none) (z_X12_reachBy_30 σ k_14) ez_N h0 x3 x4 x5 t_27
  )
set_option maxRecDepth 100000 in
noncomputable def z_X12_reachBy (σ : ez_H) (h0 : Nat) (x1 : Int32) (x2 : Int32) : Option (Int32) :=
  ez_bd (ez_ob σ 12 h0) fun _ =>
  ez_bd (z_X12_locksWith σ h0 x2) fun t_2 =>
  ez_let ((1 : Int32) <<< (x1 &&& 31)) fun t_8 =>
  ez_fix (fun _ _ _ _ => none) (z_X12_reachBy_14 σ) ez_N h0 t_2 t_8 (0 : Int32)
set_option maxRecDepth 100000 in
noncomputable def z_X12_reachOf (σ : ez_H) (h0 : Nat) (x1 : Int32) : Option (Int32) :=
  ez_bd (ez_ob σ 12 h0) fun _ =>
  ez_bd (ez_gr σ 12 h0 53) fun t_2 =>
  ez_let ((86 : Int32) + x1) fun t_8 =>
  ez_bd (ez_ia σ 1 t_2 t_8) fun t_9 =>
  ez_bd (z_X12_keysOf σ h0 x1) fun t_12 =>
  ez_bd (z_X12_reachBy σ h0 t_9 t_12) fun t_15 =>
  some t_15
set_option maxRecDepth 100000 in
noncomputable def z_X12_barred_16 (σ : ez_H) (k_16 : Nat → Int32 → Int32 → Option (Int32)) (h0 : Nat) (x1 : Int32) (x2 : Int32) : Option (Int32) :=
  ez_bd (ez_gr σ 12 h0 18) fun t_18 =>
  ez_bd (ez_gi σ 12 h0 43) fun t_22 =>
  ez_bd (ez_ia σ 1 t_18 t_22) fun t_25 =>
  if t_25 ≤ x2 then (
  some x1
  ) else (
  ez_bd (z_X12_reachOf σ h0 x2) fun t_32 =>
  ez_let (t_32 ^^^ (-1 : Int32)) fun t_36 =>
  ez_let (x1 &&& t_36) fun t_37 =>
  ez_let (x2 + 1) fun t_39 =>
  k_16 h0 t_37 t_39
  )
set_option maxRecDepth 100000 in
noncomputable def z_X12_barred (σ : ez_H) (h0 : Nat) : Option (Int32) :=
  ez_bd (ez_ob σ 12 h0) fun _ =>
  ez_bd (ez_gr σ 12 h0 16) fun t_2 =>
  ez_bd (ez_gi σ 12 h0 43) fun t_6 =>
  ez_bd (ez_ia σ 1 t_2 t_6) fun t_9 =>
  ez_let ((1 : Int32) <<< (t_9 &&& 31)) fun t_10 =>
  ez_let (t_10 - (1 : Int32)) fun t_12 =>
  ez_fix (fun _ _ _ => none) (z_X12_barred_16 σ) ez_N h0 t_12 (0 : Int32)
set_option maxRecDepth 100000 in
noncomputable def z_X12_openedBy_27 (σ : ez_H) (k_4 : Nat → Int32 → Int32 → Int32 → Option (Int32)) (h0 : Nat) (x1 : Int32) (x2 : Int32) (x3 : Int32) : Option (Int32) :=
  ez_let (x3 + 1) fun t_27 =>
  k_4 h0 x1 x2 t_27
set_option maxRecDepth 100000 in
noncomputable def z_X12_openedBy_4 (σ : ez_H) (k_4 : Nat → Int32 → Int32 → Int32 → Option (Int32)) (h0 : Nat) (x1 : Int32) (x2 : Int32) (x3 : Int32) : Option (Int32) :=
  ez_bd (z_X12_bolts σ h0) fun t_6 =>
  if t_6 ≤ x3 then (
  some x2
  ) else (
  ez_bd (z_X12_doesOpen σ h0 x1 x3) fun t_15 =>
  if t_15 = (0 : Int32) then (
  z_X12_openedBy_27 σ k_4 h0 x1 x2 x3
  ) else (
  ez_let ((1 : Int32) <<< (x3 &&& 31)) fun t_24 =>
  ez_let (x2 ||| t_24) fun t_25 =>
  z_X12_openedBy_27 σ k_4 h0 x1 t_25 x3
  )
  )
set_option maxRecDepth 100000 in
noncomputable def z_X12_openedBy (σ : ez_H) (h0 : Nat) (x1 : Int32) : Option (Int32) :=
  ez_bd (ez_ob σ 12 h0) fun _ =>
  ez_fix (fun _ _ _ _ => none) (z_X12_openedBy_4 σ) ez_N h0 x1 (0 : Int32) (0 : Int32)
set_option maxRecDepth 100000 in
noncomputable def z_X12_best_45 (σ : ez_H) (k_4 : Nat → Int32 → Int32 → Option (Int32)) (h0 : Nat) (x1 : Int32) (x2 : Int32) : Option (Int32) :=
  ez_let (x2 + 1) fun t_45 =>
  k_4 h0 x1 t_45
set_option maxRecDepth 100000 in
noncomputable def z_X12_best_43 (σ : ez_H) (k_4 : Nat → Int32 → Int32 → Option (Int32)) (h0 : Nat) (x2 : Int32) : Option (Int32) :=
  z_X12_best_45 σ k_4 h0 x2 x2
set_option maxRecDepth 100000 in
noncomputable def z_X12_best_4 (σ : ez_H) (k_4 : Nat → Int32 → Int32 → Option (Int32)) (h0 : Nat) (x1 : Int32) (x2 : Int32) : Option (Int32) :=
  ez_bd (z_X12_many σ h0) fun t_6 =>
  if t_6 ≤ x2 then (
  some x1
  ) else (
  if x1 < (0 : Int32) then (
  z_X12_best_43 σ k_4 h0 x2
  ) else (
  ez_bd (z_X12_numberOf σ h0 x2) fun t_19 =>
  ez_bd (z_X12_openedBy σ h0 t_19) fun t_22 =>
  ez_bd (z_X12_bitsOf σ t_22) fun t_25 =>
  ez_bd (z_X12_numberOf σ h0 x1) fun t_31 =>
  ez_bd (z_X12_openedBy σ h0 t_31) fun t_34 =>
  ez_bd (z_X12_bitsOf σ t_34) fun t_37 =>
  if t_25 ≤ t_37 then (
  z_X12_best_45 σ k_4 h0 x1 x2
  ) else (
  z_X12_best_43 σ k_4 h0 x2
  )
  )
  )
set_option maxRecDepth 100000 in
noncomputable def z_X12_best (σ : ez_H) (h0 : Nat) : Option (Int32) :=
  ez_bd (ez_ob σ 12 h0) fun _ =>
  ez_fix (fun _ _ _ => none) (z_X12_best_4 σ) ez_N h0 (-1 : Int32) (0 : Int32)
set_option maxRecDepth 100000 in
noncomputable def z_X12_bitting_42 (σ : ez_H) : Option (Int32) :=
  some (-1 : Int32)
set_option maxRecDepth 100000 in
noncomputable def z_X12_bitting_36 (σ : ez_H) (k_4 : Nat → Int32 → Int32 → Int32 → Option (Int32)) (h0 : Nat) (x1 : Int32) (x2 : Int32) (x3 : Int32) : Option (Int32) :=
  ez_let (x3 + 1) fun t_36 =>
  k_4 h0 x1 x2 t_36
set_option maxRecDepth 100000 in
noncomputable def z_X12_bitting_4 (σ : ez_H) (k_4 : Nat → Int32 → Int32 → Int32 → Option (Int32)) (h0 : Nat) (x1 : Int32) (x2 : Int32) (x3 : Int32) : Option (Int32) :=
  ez_bd (z_X12_bittings σ h0) fun t_6 =>
  if t_6 ≤ x3 then (
  z_X12_bitting_42 σ 
  ) else (
  if x1 < (0 : Int32) then (
  z_X12_bitting_42 σ 
  ) else (
  ez_bd (z_X12_isLegal σ h0 x3) fun t_18 =>
  if t_18 = (0 : Int32) then (
  z_X12_bitting_36 σ k_4 h0 x1 x2 x3
  ) else (
  if x2 = (0 : Int32) then (
  some x3
  ) else (
  ez_let (x2 + (-1)) fun t_33 =>
  z_X12_bitting_36 σ k_4 h0 x1 t_33 x3
  )
  )
  )
  )
set_option maxRecDepth 100000 in
noncomputable def z_X12_bitting (σ : ez_H) (h0 : Nat) (x1 : Int32) : Option (Int32) :=
  ez_bd (ez_ob σ 12 h0) fun _ =>
  ez_fix (fun _ _ _ _ => none) (z_X12_bitting_4 σ) ez_N h0 x1 x1 (0 : Int32)
set_option maxRecDepth 100000 in
noncomputable def z_X12_blanks_31 (σ : ez_H) (k_4 : Nat → Int32 → Int32 → Option (Int32)) (h0 : Nat) (x1 : Int32) (x2 : Int32) : Option (Int32) :=
  ez_let (x2 + 1) fun t_31 =>
  k_4 h0 x1 t_31
set_option maxRecDepth 100000 in
noncomputable def z_X12_blanks_4 (σ : ez_H) (k_4 : Nat → Int32 → Int32 → Option (Int32)) (h0 : Nat) (x1 : Int32) (x2 : Int32) : Option (Int32) :=
  ez_bd (z_X12_bittings σ h0) fun t_6 =>
  if t_6 ≤ x2 then (
  some x1
  ) else (
  ez_bd (z_X12_isLegal σ h0 x2) fun t_14 =>
  if t_14 = (0 : Int32) then (
  z_X12_blanks_31 σ k_4 h0 x1 x2
  ) else (
  ez_bd (z_X12_openedBy σ h0 x2) fun t_22 =>
  if t_22 = (0 : Int32) then (
  ez_let (x1 + 1) fun t_28 =>
  z_X12_blanks_31 σ k_4 h0 t_28 x2
  ) else (
  z_X12_blanks_31 σ k_4 h0 x1 x2
  )
  )
  )
set_option maxRecDepth 100000 in
noncomputable def z_X12_blanks (σ : ez_H) (h0 : Nat) : Option (Int32) :=
  ez_bd (ez_ob σ 12 h0) fun _ =>
  ez_fix (fun _ _ _ => none) (z_X12_blanks_4 σ) ez_N h0 (0 : Int32) (0 : Int32)
set_option maxRecDepth 100000 in
noncomputable def z_X12_isApart_79 (σ : ez_H) (y0 : Int32) : Option (Int32) :=
  ez_nr .boolean y0 <|
  some y0
set_option maxRecDepth 100000 in
noncomputable def z_X12_isApart_43 (σ : ez_H) (k_11 : Nat → Int32 → Int32 → Int32 → Int32 → Option (Int32)) (h0 : Nat) (x4 : Int32) (x5 : Int32) (x6 : Int32) (y0 : Int32) (y1 : Int32) : Option (Int32) :=
  ez_let (y0 + y1) fun t_43 =>
  ez_bd (z_X12_deep σ h0) fun t_48 =>
  ez_nz t_48 <|
  ez_let (x4 / t_48) fun t_51 =>
  ez_bd (z_X12_deep σ h0) fun t_57 =>
  ez_nz t_57 <|
  ez_let (x5 / t_57) fun t_60 =>
  ez_let (x6 + 1) fun t_63 =>
  k_11 h0 t_43 t_51 t_60 t_63
set_option maxRecDepth 100000 in
noncomputable def z_X12_isApart_11 (σ : ez_H) (k_11 : Nat → Int32 → Int32 → Int32 → Int32 → Option (Int32)) (h0 : Nat) (x3 : Int32) (x4 : Int32) (x5 : Int32) (x6 : Int32) : Option (Int32) :=
  ez_bd (z_X12_wide σ h0) fun t_14 =>
  if t_14 ≤ x6 then (
  if x3 ≤ (1 : Int32) then (
  z_X12_isApart_79 σ (0 : Int32)
  ) else (
  z_X12_isApart_79 σ (1 : Int32)
  )
  ) else (
  ez_bd (z_X12_deep σ h0) fun t_24 =>
  ez_nz t_24 <|
  ez_let (x4 - x4 / t_24 * t_24) fun t_27 =>
  ez_bd (z_X12_deep σ h0) fun t_31 =>
  ez_nz t_31 <|
  ez_let (x5 - x5 / t_31 * t_31) fun t_34 =>
  if t_27 = t_34 then (
  z_X12_isApart_43 σ k_11 h0 x4 x5 x6 x3 (0 : Int32)
  ) else (
  z_X12_isApart_43 σ k_11 h0 x4 x5 x6 x3 (1 : Int32)
  )
  )
set_option maxRecDepth 100000 in
noncomputable def z_X12_isApart (σ : ez_H) (h0 : Nat) (x1 : Int32) (x2 : Int32) : Option (Int32) :=
  ez_bd (ez_ob σ 12 h0) fun _ =>
  ez_fix (fun _ _ _ _ _ => none) (z_X12_isApart_11 σ) ez_N h0 (0 : Int32) x1 x2 (0 : Int32)
set_option maxRecDepth 100000 in
noncomputable def z_X12_book_109 (σ : ez_H) (y0 : Int32) : Option (Int32 × ez_H) :=
  some (y0, σ)
set_option maxRecDepth 100000 in
noncomputable def z_X12_book_94 (σ : ez_H) (h0 : Nat) (x1 : Int32) (x2 : Int32) : Option (Int32 × ez_H) :=
  if x2 ≤ x1 then (
  z_X12_book_109  σ (-1 : Int32)
  ) else (
  ez_bd (ez_gr σ 12 h0 55) fun t_100 =>
  ez_bd (ez_ia σ 1 t_100 x1) fun t_104 =>
  z_X12_book_109  σ t_104
  )
set_option maxRecDepth 100000 in
noncomputable def z_X12_book_88 (k_16 : ez_H → Nat → Int32 → Int32 → Int32 → Option (Int32 × ez_H)) (σ : ez_H) (h0 : Nat) (x1 : Int32) (x2 : Int32) (x3 : Int32) : Option (Int32 × ez_H) :=
  ez_let (x3 + 1) fun t_88 =>
  k_16 σ h0 x1 x2 t_88
set_option maxRecDepth 100000 in
noncomputable def z_X12_book_70 (k_16 : ez_H → Nat → Int32 → Int32 → Int32 → Option (Int32 × ez_H)) (σ : ez_H) (h0 : Nat) (x1 : Int32) (x2 : Int32) (x3 : Int32) (x4 : Int32) : Option (Int32 × ez_H) :=
  if x4 = (0 : Int32) then (
  z_X12_book_88 k_16 σ h0 x1 x2 x3
  ) else (
  ez_bd (ez_gr σ 12 h0 55) fun t_79 =>
  ez_bd (ez_is σ 1 t_79 x2 x3) fun σ =>
  ez_let (x2 + 1) fun t_85 =>
  z_X12_book_88 k_16 σ h0 x1 t_85 x3
  )
set_option maxRecDepth 100000 in
noncomputable def z_X12_book_39 (k_16 : ez_H → Nat → Int32 → Int32 → Int32 → Option (Int32 × ez_H)) (k_39 : ez_H → Nat → Int32 → Int32 → Int32 → Int32 → Int32 → Option (Int32 × ez_H)) (σ : ez_H) (h0 : Nat) (x1 : Int32) (x2 : Int32) (x3 : Int32) (x4 : Int32) (x5 : Int32) : Option (Int32 × ez_H) :=
  if x2 ≤ x5 then (
  z_X12_book_70 k_16 σ h0 x1 x2 x3 x4
  ) else (
  if x4 = (0 : Int32) then (
  z_X12_book_70 k_16 σ h0 x1 x2 x3 x4
  ) else (
  ez_bd (ez_gr σ 12 h0 55) fun t_53 =>
  ez_bd (ez_ia σ 1 t_53 x5) fun t_58 =>
  ez_bd (z_X12_isApart σ h0 x3 t_58) fun t_59 =>
  ez_let (x5 + 1) fun t_64 =>
  k_39 σ h0 x1 x2 x3 t_59 t_64
  )
  )
set_option maxRecDepth 100000 in
noncomputable def z_X12_book_16 (k_16 : ez_H → Nat → Int32 → Int32 → Int32 → Option (Int32 × ez_H)) (σ : ez_H) (h0 : Nat) (x1 : Int32) (x2 : Int32) (x3 : Int32) : Option (Int32 × ez_H) :=
  ez_bd (z_X12_bittings σ h0) fun t_18 =>
  if t_18 ≤ x3 then (
  z_X12_book_94  σ h0 x1 x2
  ) else (
  if x1 < x2 then (
  z_X12_book_94  σ h0 x1 x2
  ) else (
  ez_bd (z_X12_isLegal σ h0 x3) fun t_31 =>
  ez_fix (fun _ _ _ _ _ _ _ => none) (z_X12_book_39 k_16) ez_N σ h0 x1 x2 x3 t_31 (0 : Int32)
  )
  )
set_option maxRecDepth 100000 in
noncomputable def z_X12_book (σ : ez_H) (h0 : Nat) (x1 : Int32) : Option (Int32 × ez_H) :=
  ez_bd (ez_ob σ 12 h0) fun _ =>
  ez_bd (z_X12_isIn σ x1 (0 : Int32) (59 : Int32)) fun t_4 =>
  if t_4 = (0 : Int32) then (
  some ((-1 : Int32), σ)
  ) else (
  ez_fix (fun _ _ _ _ _ => none) (z_X12_book_16 ) ez_N σ h0 x1 (0 : Int32) (0 : Int32)
  )
set_option maxRecDepth 100000 in
noncomputable def z_X12_mustOf (σ : ez_H) (h0 : Nat) (x1 : Int32) : Option (Int32) :=
  ez_bd (ez_ob σ 12 h0) fun _ =>
  ez_bd (ez_gr σ 12 h0 29) fun t_1 =>
  ez_bd (ez_gi σ 12 h0 43) fun t_7 =>
  ez_let ((6 : Int32) * t_7) fun t_10 =>
  ez_let (t_10 + x1) fun t_12 =>
  ez_bd (ez_ia σ 1 t_1 t_12) fun t_13 =>
  some t_13
set_option maxRecDepth 100000 in
noncomputable def z_X12_neverOf (σ : ez_H) (h0 : Nat) (x1 : Int32) : Option (Int32) :=
  ez_bd (ez_ob σ 12 h0) fun _ =>
  ez_bd (ez_gr σ 12 h0 30) fun t_1 =>
  ez_bd (ez_gi σ 12 h0 43) fun t_7 =>
  ez_let ((6 : Int32) * t_7) fun t_10 =>
  ez_let (t_10 + x1) fun t_12 =>
  ez_bd (ez_ia σ 1 t_1 t_12) fun t_13 =>
  some t_13
set_option maxRecDepth 100000 in
noncomputable def z_X12_isBroken_47 (σ : ez_H) (y0 : Int32) : Option (Int32) :=
  ez_nr .boolean y0 <|
  some y0
set_option maxRecDepth 100000 in
noncomputable def z_X12_isBroken_46 (σ : ez_H) : Option (Int32) :=
  z_X12_isBroken_47 σ (0 : Int32)
set_option maxRecDepth 100000 in
noncomputable def z_X12_isBroken_42 (σ : ez_H) : Option (Int32) :=
  z_X12_isBroken_47 σ (1 : Int32)
set_option maxRecDepth 100000 in
noncomputable def z_X12_isBroken_21 (σ : ez_H) (h0 : Nat) (x1 : Int32) (x2 : Int32) : Option (Int32) :=
  ez_bd (z_X12_neverOf σ h0 x2) fun t_23 =>
  ez_bd (z_X12_bit σ t_23 x1) fun t_27 =>
  if t_27 = (0 : Int32) then (
  z_X12_isBroken_46 σ 
  ) else (
  ez_bd (z_X12_opensBy σ h0 x1 x2) fun t_36 =>
  if t_36 = (0 : Int32) then (
  z_X12_isBroken_46 σ 
  ) else (
  z_X12_isBroken_42 σ 
  )
  )
set_option maxRecDepth 100000 in
noncomputable def z_X12_isBroken (σ : ez_H) (h0 : Nat) (x1 : Int32) (x2 : Int32) : Option (Int32) :=
  ez_bd (ez_ob σ 12 h0) fun _ =>
  ez_bd (z_X12_mustOf σ h0 x2) fun t_2 =>
  ez_bd (z_X12_bit σ t_2 x1) fun t_6 =>
  if t_6 = (0 : Int32) then (
  z_X12_isBroken_21 σ h0 x1 x2
  ) else (
  ez_bd (z_X12_opensBy σ h0 x1 x2) fun t_15 =>
  if t_15 = (0 : Int32) then (
  z_X12_isBroken_42 σ 
  ) else (
  z_X12_isBroken_21 σ h0 x1 x2
  )
  )
set_option maxRecDepth 100000 in
noncomputable def z_X12_broken_101 (σ : ez_H) (y0 : Int32) : Option (Int32) :=
  some y0
set_option maxRecDepth 100000 in
noncomputable def z_X12_broken_70 (σ : ez_H) (k_21 : Nat → Int32 → Int32 → Int32 → Int32 → Int32 → Option (Int32)) (k_33 : Nat → Int32 → Int32 → Int32 → Int32 → Int32 → Int32 → Option (Int32)) (h0 : Nat) (x1 : Int32) (x2 : Int32) (x3 : Int32) (x4 : Int32) (x5 : Int32) (x6 : Int32) : Option (Int32) :=
  ez_let (x6 + 1) fun t_70 =>
  k_33 h0 x1 x2 x3 x4 x5 t_70
set_option maxRecDepth 100000 in
noncomputable def z_X12_broken_67 (σ : ez_H) (k_21 : Nat → Int32 → Int32 → Int32 → Int32 → Int32 → Option (Int32)) (k_33 : Nat → Int32 → Int32 → Int32 → Int32 → Int32 → Int32 → Option (Int32)) (h0 : Nat) (x1 : Int32) (x2 : Int32) (x3 : Int32) (x4 : Int32) (x5 : Int32) (x6 : Int32) : Option (Int32) :=
  ez_let (x2 + 1) fun t_67 =>
  z_X12_broken_70 σ k_21 k_33 h0 x1 t_67 x3 x4 x5 x6
set_option maxRecDepth 100000 in
noncomputable def z_X12_broken_33 (σ : ez_H) (k_21 : Nat → Int32 → Int32 → Int32 → Int32 → Int32 → Option (Int32)) (k_33 : Nat → Int32 → Int32 → Int32 → Int32 → Int32 → Int32 → Option (Int32)) (h0 : Nat) (x1 : Int32) (x2 : Int32) (x3 : Int32) (x4 : Int32) (x5 : Int32) (x6 : Int32) : Option (Int32) :=
  ez_bd (z_X12_bolts σ h0) fun t_36 =>
  if t_36 ≤ x6 then (
  ez_let (x5 + 1) fun t_76 =>
  k_21 h0 x1 x2 x3 x4 t_76
  ) else (
  ez_bd (z_X12_isBroken σ h0 x5 x6) fun t_47 =>
  if t_47 = (0 : Int32) then (
  z_X12_broken_70 σ k_21 k_33 h0 x1 x2 x3 x4 x5 x6
  ) else (
  if x2 = (0 : Int32) then (
  z_X12_broken_67 σ k_21 k_33 h0 x1 x2 x5 x6 x5 x6
  ) else (
  z_X12_broken_67 σ k_21 k_33 h0 x1 x2 x3 x4 x5 x6
  )
  )
  )
set_option maxRecDepth 100000 in
noncomputable def z_X12_broken_21 (σ : ez_H) (k_21 : Nat → Int32 → Int32 → Int32 → Int32 → Int32 → Option (Int32)) (h0 : Nat) (x1 : Int32) (x2 : Int32) (x3 : Int32) (x4 : Int32) (x5 : Int32) : Option (Int32) :=
  ez_bd (z_X12_many σ h0) fun t_24 =>
  if t_24 ≤ x5 then (
  if x1 = (0 : Int32) then (
  z_X12_broken_101 σ x2
  ) else (
  if x1 = (1 : Int32) then (
  z_X12_broken_101 σ x3
  ) else (
  z_X12_broken_101 σ x4
  )
  )
  ) else (
  ez_fix (fun _ _ _ _ _ _ _ => none) (z_X12_broken_33 σ k_21) ez_N h0 x1 x2 x3 x4 x5 (0 : Int32)
  )
set_option maxRecDepth 100000 in
noncomputable def z_X12_broken (σ : ez_H) (h0 : Nat) (x1 : Int32) : Option (Int32) :=
  ez_bd (ez_ob σ 12 h0) fun _ =>
  ez_bd (z_X12_isIn σ x1 (0 : Int32) (2 : Int32)) fun t_3 =>
  if t_3 = (0 : Int32) then (
  some (-1 : Int32)
  ) else (
  ez_fix (fun _ _ _ _ _ _ => none) (z_X12_broken_21 σ) ez_N h0 x1 (0 : Int32) (-1 : Int32) (-1 : Int32) (0 : Int32)
  )
set_option maxRecDepth 100000 in
noncomputable def z_X12_isRoom (σ : ez_H) (h0 : Nat) (x1 : Int32) : Option (Int32) :=
  ez_bd (ez_ob σ 12 h0) fun _ =>
  ez_bd (ez_gr σ 12 h0 16) fun t_3 =>
  ez_bd (ez_gi σ 12 h0 43) fun t_7 =>
  ez_bd (ez_ia σ 1 t_3 t_7) fun t_10 =>
  ez_let (t_10 - (1 : Int32)) fun t_12 =>
  ez_bd (z_X12_isIn σ x1 (0 : Int32) t_12) fun t_13 =>
  ez_nr .boolean t_13 <|
  some t_13
set_option maxRecDepth 100000 in
noncomputable def z_X12_bunch_25 (σ : ez_H) : Option (Int32) :=
  some (-1 : Int32)
set_option maxRecDepth 100000 in
noncomputable def z_X12_bunch_137 (σ : ez_H) (y0 : Int32) : Option (Int32) :=
  some y0
set_option maxRecDepth 100000 in
noncomputable def z_X12_bunch_108 (σ : ez_H) (k_52 : Nat → Int32 → Int32 → Int32 → Int32 → Int32 → Int32 → Option (Int32)) (h0 : Nat) (x1 : Int32) (x2 : Int32) (x3 : Int32) (x4 : Int32) (x5 : Int32) (x6 : Int32) : Option (Int32) :=
  ez_let (x6 + 1) fun t_108 =>
  k_52 h0 x1 x2 x3 x4 x5 t_108
set_option maxRecDepth 100000 in
noncomputable def z_X12_bunch_90 (σ : ez_H) (k_52 : Nat → Int32 → Int32 → Int32 → Int32 → Int32 → Int32 → Option (Int32)) (h0 : Nat) (x1 : Int32) (x2 : Int32) (x3 : Int32) (x4 : Int32) (x5 : Int32) (x6 : Int32) : Option (Int32) :=
  ez_bd (z_X12_reachBy σ h0 x1 x6) fun t_94 =>
  ez_bd (z_X12_bit σ t_94 x2) fun t_98 =>
  if t_98 = (0 : Int32) then (
  z_X12_bunch_108 σ k_52 h0 x1 x2 x3 x4 x5 x6
  ) else (
  z_X12_bunch_108 σ k_52 h0 x1 x2 x3 x6 x5 x6
  )
set_option maxRecDepth 100000 in
noncomputable def z_X12_bunch_52 (σ : ez_H) (k_52 : Nat → Int32 → Int32 → Int32 → Int32 → Int32 → Int32 → Option (Int32)) (h0 : Nat) (x1 : Int32) (x2 : Int32) (x3 : Int32) (x4 : Int32) (x5 : Int32) (x6 : Int32) : Option (Int32) :=
  if x5 < x6 then (
  if (0 : Int32) ≤ x4 then (
  if x3 = (0 : Int32) then (
  ez_bd (z_X12_bitsOf σ x4) fun t_129 =>
  z_X12_bunch_137 σ t_129
  ) else (
  z_X12_bunch_137 σ x4
  )
  ) else (
  z_X12_bunch_137 σ (-1 : Int32)
  )
  ) else (
  ez_let (x5 ^^^ (-1 : Int32)) fun t_64 =>
  ez_let (x6 &&& t_64) fun t_65 =>
  if t_65 = (0 : Int32) then (
  if x4 < (0 : Int32) then (
  z_X12_bunch_90 σ k_52 h0 x1 x2 x3 x4 x5 x6
  ) else (
  ez_bd (z_X12_bitsOf σ x6) fun t_76 =>
  ez_bd (z_X12_bitsOf σ x4) fun t_81 =>
  if t_76 < t_81 then (
  z_X12_bunch_90 σ k_52 h0 x1 x2 x3 x4 x5 x6
  ) else (
  z_X12_bunch_108 σ k_52 h0 x1 x2 x3 x4 x5 x6
  )
  )
  ) else (
  z_X12_bunch_108 σ k_52 h0 x1 x2 x3 x4 x5 x6
  )
  )
set_option maxRecDepth 100000 in
noncomputable def z_X12_bunch (σ : ez_H) (h0 : Nat) (x1 : Int32) (x2 : Int32) (x3 : Int32) : Option (Int32) :=
  ez_bd (ez_ob σ 12 h0) fun _ =>
  ez_bd (z_X12_isRoom σ h0 x1) fun t_2 =>
  if t_2 = (0 : Int32) then (
  z_X12_bunch_25 σ 
  ) else (
  ez_bd (z_X12_isRoom σ h0 x2) fun t_10 =>
  if t_10 = (0 : Int32) then (
  z_X12_bunch_25 σ 
  ) else (
  ez_bd (z_X12_isIn σ x3 (0 : Int32) (1 : Int32)) fun t_19 =>
  if t_19 = (0 : Int32) then (
  z_X12_bunch_25 σ 
  ) else (
  ez_bd (z_X12_many σ h0) fun t_32 =>
  ez_let ((1 : Int32) <<< (t_32 &&& 31)) fun t_35 =>
  ez_let (t_35 - (1 : Int32)) fun t_37 =>
  ez_bd (z_X12_keysBy σ h0 (-2 : Int32)) fun t_41 =>
  ez_let (t_41 ^^^ (-1 : Int32)) fun t_45 =>
  ez_let (t_37 &&& t_45) fun t_46 =>
  ez_fix (fun _ _ _ _ _ _ _ => none) (z_X12_bunch_52 σ) ez_N h0 x1 x2 x3 (-1 : Int32) t_46 (0 : Int32)
  )
  )
  )
set_option maxRecDepth 100000 in
noncomputable def z_X12_comers_45 (σ : ez_H) (k_14 : Nat → Int32 → Int32 → Int32 → Option (Int32)) (h0 : Nat) (x1 : Int32) (x2 : Int32) (x3 : Int32) : Option (Int32) :=
  ez_let (x3 + 1) fun t_45 =>
  k_14 h0 x1 x2 t_45
set_option maxRecDepth 100000 in
noncomputable def z_X12_comers_14 (σ : ez_H) (k_14 : Nat → Int32 → Int32 → Int32 → Option (Int32)) (h0 : Nat) (x1 : Int32) (x2 : Int32) (x3 : Int32) : Option (Int32) :=
  ez_bd (ez_gr σ 12 h0 18) fun t_16 =>
  ez_bd (ez_gi σ 12 h0 43) fun t_20 =>
  ez_bd (ez_ia σ 1 t_16 t_20) fun t_23 =>
  if t_23 ≤ x3 then (
  some x2
  ) else (
  ez_bd (z_X12_reachOf σ h0 x3) fun t_29 =>
  ez_bd (z_X12_bit σ t_29 x1) fun t_33 =>
  if t_33 = (0 : Int32) then (
  z_X12_comers_45 σ k_14 h0 x1 x2 x3
  ) else (
  ez_let ((1 : Int32) <<< (x3 &&& 31)) fun t_42 =>
  ez_let (x2 ||| t_42) fun t_43 =>
  z_X12_comers_45 σ k_14 h0 x1 t_43 x3
  )
  )
set_option maxRecDepth 100000 in
noncomputable def z_X12_comers (σ : ez_H) (h0 : Nat) (x1 : Int32) : Option (Int32) :=
  ez_bd (ez_ob σ 12 h0) fun _ =>
  ez_bd (z_X12_isRoom σ h0 x1) fun t_2 =>
  if t_2 = (0 : Int32) then (
  some (-1 : Int32)
  ) else (
  ez_fix (fun _ _ _ _ => none) (z_X12_comers_14 σ) ez_N h0 x1 (0 : Int32) (0 : Int32)
  )
set_option maxRecDepth 100000 in
noncomputable def z_X12_areLocks_20 (σ : ez_H) (y0 : Int32) : Option (Int32) :=
  ez_nr .boolean y0 <|
  some y0
set_option maxRecDepth 100000 in
noncomputable def z_X12_areLocks (σ : ez_H) (h0 : Nat) (x1 : Int32) : Option (Int32) :=
  ez_bd (ez_ob σ 12 h0) fun _ =>
  ez_bd (z_X12_bolts σ h0) fun t_3 =>
  ez_let ((1 : Int32) <<< (t_3 &&& 31)) fun t_6 =>
  ez_let (t_6 - (1 : Int32)) fun t_8 =>
  ez_let (t_8 ^^^ (-1 : Int32)) fun t_10 =>
  ez_let (x1 &&& t_10) fun t_11 =>
  if t_11 = (0 : Int32) then (
  z_X12_areLocks_20 σ (1 : Int32)
  ) else (
  z_X12_areLocks_20 σ (0 : Int32)
  )
set_option maxRecDepth 100000 in
noncomputable def z_X12_openers_34 (σ : ez_H) (k_4 : Nat → Int32 → Int32 → Int32 → Option (Int32)) (h0 : Nat) (x1 : Int32) (x2 : Int32) (x3 : Int32) : Option (Int32) :=
  ez_let (x3 + 1) fun t_34 =>
  k_4 h0 x1 x2 t_34
set_option maxRecDepth 100000 in
noncomputable def z_X12_openers_4 (σ : ez_H) (k_4 : Nat → Int32 → Int32 → Int32 → Option (Int32)) (h0 : Nat) (x1 : Int32) (x2 : Int32) (x3 : Int32) : Option (Int32) :=
  ez_bd (z_X12_bittings σ h0) fun t_6 =>
  if t_6 ≤ x3 then (
  some x2
  ) else (
  ez_bd (z_X12_isLegal σ h0 x3) fun t_14 =>
  if t_14 = (0 : Int32) then (
  z_X12_openers_34 σ k_4 h0 x1 x2 x3
  ) else (
  ez_bd (z_X12_openedBy σ h0 x3) fun t_22 =>
  ez_let (t_22 &&& x1) fun t_26 =>
  if t_26 = x1 then (
  ez_let (x2 + 1) fun t_31 =>
  z_X12_openers_34 σ k_4 h0 x1 t_31 x3
  ) else (
  z_X12_openers_34 σ k_4 h0 x1 x2 x3
  )
  )
  )
set_option maxRecDepth 100000 in
noncomputable def z_X12_openers (σ : ez_H) (h0 : Nat) (x1 : Int32) : Option (Int32) :=
  ez_bd (ez_ob σ 12 h0) fun _ =>
  ez_fix (fun _ _ _ _ => none) (z_X12_openers_4 σ) ez_N h0 x1 (0 : Int32) (0 : Int32)
set_option maxRecDepth 100000 in
noncomputable def z_X12_cutFor_16 (σ : ez_H) : Option (Int32) :=
  some (-1 : Int32)
set_option maxRecDepth 100000 in
noncomputable def z_X12_cutFor_72 (σ : ez_H) (k_20 : Nat → Int32 → Int32 → Int32 → Option (Int32)) (h0 : Nat) (x1 : Int32) (x2 : Int32) (x3 : Int32) : Option (Int32) :=
  ez_let (x3 + 1) fun t_72 =>
  k_20 h0 x1 x2 t_72
set_option maxRecDepth 100000 in
noncomputable def z_X12_cutFor_45 (σ : ez_H) (k_20 : Nat → Int32 → Int32 → Int32 → Option (Int32)) (h0 : Nat) (x1 : Int32) (x2 : Int32) (x3 : Int32) (y0 : Int32) : Option (Int32) :=
  ez_bd (z_X12_isLegal σ h0 x3) fun t_49 =>
  if t_49 = (0 : Int32) then (
  z_X12_cutFor_72 σ k_20 h0 x1 x2 x3
  ) else (
  ez_let (y0 &&& x1) fun t_58 =>
  if t_58 = x1 then (
  ez_let (y0 &&& x2) fun t_66 =>
  if t_66 = (0 : Int32) then (
  some x3
  ) else (
  z_X12_cutFor_72 σ k_20 h0 x1 x2 x3
  )
  ) else (
  z_X12_cutFor_72 σ k_20 h0 x1 x2 x3
  )
  )
set_option maxRecDepth 100000 in
noncomputable def z_X12_cutFor_20 (σ : ez_H) (k_20 : Nat → Int32 → Int32 → Int32 → Option (Int32)) (h0 : Nat) (x1 : Int32) (x2 : Int32) (x3 : Int32) : Option (Int32) :=
  ez_bd (z_X12_bittings σ h0) fun t_22 =>
  if t_22 ≤ x3 then (
  some (-1 : Int32)
  ) else (
  ez_bd (z_X12_isLegal σ h0 x3) fun t_30 =>
  if t_30 = (0 : Int32) then (
  z_X12_cutFor_45 σ k_20 h0 x1 x2 x3 (0 : Int32)
  ) else (
  ez_bd (z_X12_openedBy σ h0 x3) fun t_38 =>
  z_X12_cutFor_45 σ k_20 h0 x1 x2 x3 t_38
  )
  )
set_option maxRecDepth 100000 in
noncomputable def z_X12_cutFor (σ : ez_H) (h0 : Nat) (x1 : Int32) (x2 : Int32) : Option (Int32) :=
  ez_bd (ez_ob σ 12 h0) fun _ =>
  ez_bd (z_X12_areLocks σ h0 x1) fun t_2 =>
  if t_2 = (0 : Int32) then (
  z_X12_cutFor_16 σ 
  ) else (
  ez_bd (z_X12_areLocks σ h0 x2) fun t_10 =>
  if t_10 = (0 : Int32) then (
  z_X12_cutFor_16 σ 
  ) else (
  ez_fix (fun _ _ _ _ => none) (z_X12_cutFor_20 σ) ez_N h0 x1 x2 (0 : Int32)
  )
  )
set_option maxRecDepth 100000 in
noncomputable def z_X12_common_17 (σ : ez_H) : Option (Int32) :=
  some (-1 : Int32)
set_option maxRecDepth 100000 in
noncomputable def z_X12_common_37 (σ : ez_H) (y0 : Int32) : Option (Int32) :=
  some y0
set_option maxRecDepth 100000 in
noncomputable def z_X12_common (σ : ez_H) (h0 : Nat) (x1 : Int32) (x2 : Int32) : Option (Int32) :=
  ez_bd (ez_ob σ 12 h0) fun _ =>
  ez_bd (z_X12_areLocks σ h0 x1) fun t_2 =>
  if t_2 = (0 : Int32) then (
  z_X12_common_17 σ 
  ) else (
  ez_bd (z_X12_isIn σ x2 (0 : Int32) (1 : Int32)) fun t_11 =>
  if t_11 = (0 : Int32) then (
  z_X12_common_17 σ 
  ) else (
  if x2 = (0 : Int32) then (
  ez_bd (z_X12_openers σ h0 x1) fun t_25 =>
  z_X12_common_37 σ t_25
  ) else (
  ez_bd (z_X12_cutFor σ h0 x1 (0 : Int32)) fun t_34 =>
  z_X12_common_37 σ t_34
  )
  )
  )
set_option maxRecDepth 100000 in
noncomputable def z_X12_isKey (σ : ez_H) (h0 : Nat) (x1 : Int32) : Option (Int32) :=
  ez_bd (ez_ob σ 12 h0) fun _ =>
  ez_bd (z_X12_many σ h0) fun t_3 =>
  ez_let (t_3 - (1 : Int32)) fun t_7 =>
  ez_bd (z_X12_isIn σ x1 (0 : Int32) t_7) fun t_8 =>
  ez_nr .boolean t_8 <|
  some t_8
set_option maxRecDepth 100000 in
noncomputable def z_X12_isChamber (σ : ez_H) (h0 : Nat) (x1 : Int32) : Option (Int32) :=
  ez_bd (ez_ob σ 12 h0) fun _ =>
  ez_bd (z_X12_wide σ h0) fun t_3 =>
  ez_let (t_3 - (1 : Int32)) fun t_7 =>
  ez_bd (z_X12_isIn σ x1 (0 : Int32) t_7) fun t_8 =>
  ez_nr .boolean t_8 <|
  some t_8
set_option maxRecDepth 100000 in
noncomputable def z_X12_cut_26 (σ : ez_H) (y0 : Int32) : Option (Int32) :=
  some y0
set_option maxRecDepth 100000 in
noncomputable def z_X12_cut_25 (σ : ez_H) : Option (Int32) :=
  z_X12_cut_26 σ (-1 : Int32)
set_option maxRecDepth 100000 in
noncomputable def z_X12_cut (σ : ez_H) (h0 : Nat) (x1 : Int32) (x2 : Int32) : Option (Int32) :=
  ez_bd (ez_ob σ 12 h0) fun _ =>
  ez_bd (z_X12_isKey σ h0 x1) fun t_2 =>
  if t_2 = (0 : Int32) then (
  z_X12_cut_25 σ 
  ) else (
  ez_bd (z_X12_isChamber σ h0 x2) fun t_10 =>
  if t_10 = (0 : Int32) then (
  z_X12_cut_25 σ 
  ) else (
  ez_bd (z_X12_cutOf σ h0 x1 x2) fun t_19 =>
  z_X12_cut_26 σ t_19
  )
  )
set_option maxRecDepth 100000 in
noncomputable def z_X12_isDoor (σ : ez_H) (h0 : Nat) (x1 : Int32) : Option (Int32) :=
  ez_bd (ez_ob σ 12 h0) fun _ =>
  ez_bd (ez_gr σ 12 h0 17) fun t_3 =>
  ez_bd (ez_gi σ 12 h0 43) fun t_7 =>
  ez_bd (ez_ia σ 1 t_3 t_7) fun t_10 =>
  ez_let (t_10 - (1 : Int32)) fun t_12 =>
  ez_bd (z_X12_isIn σ x1 (0 : Int32) t_12) fun t_13 =>
  ez_nr .boolean t_13 <|
  some t_13
set_option maxRecDepth 100000 in
noncomputable def z_X12_door_62 (σ : ez_H) (y0 : Int32) : Option (Int32) :=
  some y0
set_option maxRecDepth 100000 in
noncomputable def z_X12_door (σ : ez_H) (h0 : Nat) (x1 : Int32) (x2 : Int32) : Option (Int32) :=
  ez_bd (ez_ob σ 12 h0) fun _ =>
  ez_bd (z_X12_isDoor σ h0 x1) fun t_2 =>
  if t_2 = (0 : Int32) then (
  some (-1 : Int32)
  ) else (
  ez_bd (ez_gi σ 12 h0 43) fun t_13 =>
  ez_let ((8 : Int32) * t_13) fun t_16 =>
  ez_let (t_16 + x1) fun t_18 =>
  if x2 = (0 : Int32) then (
  ez_bd (ez_gr σ 12 h0 24) fun t_25 =>
  ez_bd (ez_ia σ 1 t_25 t_18) fun t_29 =>
  z_X12_door_62 σ t_29
  ) else (
  if x2 = (1 : Int32) then (
  ez_bd (ez_gr σ 12 h0 25) fun t_39 =>
  ez_bd (ez_ia σ 1 t_39 t_18) fun t_43 =>
  z_X12_door_62 σ t_43
  ) else (
  if x2 = (2 : Int32) then (
  ez_bd (ez_gr σ 12 h0 26) fun t_53 =>
  ez_bd (ez_ia σ 1 t_53 t_18) fun t_57 =>
  z_X12_door_62 σ t_57
  ) else (
  z_X12_door_62 σ (-1 : Int32)
  )
  )
  )
  )
set_option maxRecDepth 100000 in
noncomputable def z_X12_end_12 (σ : ez_H) : Option (Int32 × ez_H) :=
  some ((-1 : Int32), σ)
set_option maxRecDepth 100000 in
noncomputable def z_X12_end (σ : ez_H) (h0 : Nat) (x1 : Int32) : Option (Int32 × ez_H) :=
  ez_bd (ez_ob σ 12 h0) fun _ =>
  if x1 < (0 : Int32) then (
  z_X12_end_12  σ
  ) else (
  ez_bd (ez_gi σ 12 h0 2) fun t_6 =>
  if x1 ≤ t_6 then (
  ez_bd (ez_pf σ 12 h0 2 (.inl x1)) fun σ =>
  some (x1, σ)
  ) else (
  z_X12_end_12  σ
  )
  )
set_option maxRecDepth 100000 in
noncomputable def z_X12_fault_24 (σ : ez_H) (y0 : Int32) : Option (Int32) :=
  some y0
set_option maxRecDepth 100000 in
noncomputable def z_X12_fault (σ : ez_H) (h0 : Nat) (x1 : Int32) : Option (Int32) :=
  ez_bd (ez_ob σ 12 h0) fun _ =>
  if x1 = (0 : Int32) then (
  ez_bd (ez_gi σ 12 h0 4) fun t_5 =>
  z_X12_fault_24 σ t_5
  ) else (
  if x1 = (1 : Int32) then (
  ez_bd (ez_gi σ 12 h0 5) fun t_17 =>
  z_X12_fault_24 σ t_17
  ) else (
  z_X12_fault_24 σ (-1 : Int32)
  )
  )
set_option maxRecDepth 100000 in
noncomputable def z_X12_feed_71 (k_18 : ez_H → Nat → Int32 → Int32 → Int32 → Int32 → Int32 → Int32 → Option (Int32 × ez_H)) (σ : ez_H) (h0 : Nat) (x1 : Int32) (x2 : Int32) (x3 : Int32) (x4 : Int32) (x5 : Int32) (x6 : Int32) (y0 : Int32) : Option (Int32 × ez_H) :=
  ez_bd (ez_gr σ 12 h0 0) fun t_74 =>
  ez_bd (ez_gi σ 12 h0 2) fun t_78 =>
  ez_let (t_78 + x6) fun t_83 =>
  ez_let (x6 &&& (3 : Int32)) fun t_93 =>
  ez_let ((8 : Int32) * t_93) fun t_94 =>
  ez_let ((24 : Int32) - t_94) fun t_95 =>
  ez_let (y0 >>> (t_95 &&& 31)) fun t_96 =>
  ez_let ((Int32.toInt8 t_96).toInt32) fun t_97 =>
  ez_bd (ez_is σ 0 t_74 t_83 (vp_nar .byte t_97)) fun σ =>
  ez_let (x6 + 1) fun t_99 =>
  k_18 σ h0 x1 x2 x3 x4 x5 t_99
set_option maxRecDepth 100000 in
noncomputable def z_X12_feed_18 (k_18 : ez_H → Nat → Int32 → Int32 → Int32 → Int32 → Int32 → Int32 → Option (Int32 × ez_H)) (σ : ez_H) (h0 : Nat) (x1 : Int32) (x2 : Int32) (x3 : Int32) (x4 : Int32) (x5 : Int32) (x6 : Int32) : Option (Int32 × ez_H) :=
  if (20 : Int32) ≤ x6 then (
  ez_bd (ez_gi σ 12 h0 2) fun t_107 =>
  ez_let (t_107 + (20 : Int32)) fun t_112 =>
  ez_bd (ez_pf σ 12 h0 2 (.inl t_112)) fun σ =>
  ez_bd (ez_gi σ 12 h0 2) fun t_117 =>
  some (t_117, σ)
  ) else (
  if (4 : Int32) ≤ x6 then (
  if (8 : Int32) ≤ x6 then (
  if (12 : Int32) ≤ x6 then (
  if (16 : Int32) ≤ x6 then (
  z_X12_feed_71 k_18 σ h0 x1 x2 x3 x4 x5 x6 x5
  ) else (
  z_X12_feed_71 k_18 σ h0 x1 x2 x3 x4 x5 x6 x4
  )
  ) else (
  z_X12_feed_71 k_18 σ h0 x1 x2 x3 x4 x5 x6 x3
  )
  ) else (
  z_X12_feed_71 k_18 σ h0 x1 x2 x3 x4 x5 x6 x2
  )
  ) else (
  z_X12_feed_71 k_18 σ h0 x1 x2 x3 x4 x5 x6 x1
  )
  )
set_option maxRecDepth 100000 in
noncomputable def z_X12_feed (σ : ez_H) (h0 : Nat) (x1 : Int32) (x2 : Int32) (x3 : Int32) (x4 : Int32) (x5 : Int32) : Option (Int32 × ez_H) :=
  ez_bd (ez_ob σ 12 h0) fun _ =>
  ez_bd (ez_gi σ 12 h0 2) fun t_1 =>
  ez_let (t_1 + (20 : Int32)) fun t_6 =>
  if t_6 ≤ (1600 : Int32) then (
  ez_fix (fun _ _ _ _ _ _ _ _ => none) (z_X12_feed_18 ) ez_N σ h0 x1 x2 x3 x4 x5 (0 : Int32)
  ) else (
  some ((-1 : Int32), σ)
  )
set_option maxRecDepth 100000 in
noncomputable def z_X12_deepen (σ : ez_H) (h0 : Nat) (x1 : Int32) (x2 : Int32) : Option (Int32 × ez_H) :=
  ez_bd (ez_ob σ 12 h0) fun _ =>
  ez_bd (z_X12_cutOf σ h0 x1 x2) fun t_3 =>
  ez_bd (z_X12_deep σ h0) fun t_7 =>
  ez_let (t_7 - (1 : Int32)) fun t_11 =>
  if t_3 = t_11 then (
  some ((0 : Int32), σ)
  ) else (
  ez_bd (ez_gr σ 12 h0 53) fun t_18 =>
  ez_let ((5 : Int32) * x1) fun t_24 =>
  ez_let ((0 : Int32) + t_24) fun t_25 =>
  ez_let (t_25 + x2) fun t_27 =>
  ez_bd (ez_ia σ 1 t_18 t_27) fun t_29 =>
  ez_let (t_29 + (1 : Int32)) fun t_31 =>
  ez_bd (ez_is σ 1 t_18 t_27 t_31) fun σ =>
  ez_bd (z_X12_numberOf σ h0 x1) fun t_36 =>
  ez_bd (z_X12_isLegal σ h0 t_36) fun t_39 =>
  if t_39 = (0 : Int32) then (
  ez_bd (ez_gr σ 12 h0 53) fun t_48 =>
  ez_let ((5 : Int32) * x1) fun t_54 =>
  ez_let ((0 : Int32) + t_54) fun t_55 =>
  ez_let (t_55 + x2) fun t_57 =>
  ez_bd (ez_ia σ 1 t_48 t_57) fun t_59 =>
  ez_let (t_59 - (1 : Int32)) fun t_61 =>
  ez_bd (ez_is σ 1 t_48 t_57 t_61) fun σ =>
  some ((0 : Int32), σ)
  ) else (
  some ((1 : Int32), σ)
  )
  )
set_option maxRecDepth 100000 in
noncomputable def z_X12_keepAct_51 (k_51 : ez_H → Nat → Int32 → Option (Unit × ez_H)) (σ : ez_H) (h0 : Nat) (x1 : Int32) : Option (Unit × ez_H) :=
  if (91 : Int32) ≤ x1 then (
  ez_bd (ez_gi σ 12 h0 60) fun t_85 =>
  ez_let (t_85 + (1 : Int32)) fun t_89 =>
  ez_bd (ez_pf σ 12 h0 60 (.inl t_89)) fun σ =>
  ez_bd (ez_pf σ 12 h0 61 (.inl (0 : Int32))) fun σ =>
  some ((), σ)
  ) else (
  ez_bd (ez_gr σ 12 h0 59) fun t_58 =>
  ez_bd (ez_gi σ 12 h0 60) fun t_64 =>
  ez_let ((91 : Int32) * t_64) fun t_67 =>
  ez_let (t_67 + x1) fun t_69 =>
  ez_bd (ez_gr σ 12 h0 53) fun t_71 =>
  ez_bd (ez_ia σ 1 t_71 x1) fun t_75 =>
  ez_bd (ez_is σ 1 t_58 t_69 t_75) fun σ =>
  ez_let (x1 + 1) fun t_77 =>
  k_51 σ h0 t_77
  )
set_option maxRecDepth 100000 in
noncomputable def z_X12_keepAct_49 (σ : ez_H) (h0 : Nat) : Option (Unit × ez_H) :=
  ez_fix (fun _ _ _ => none) (z_X12_keepAct_51 ) ez_N σ h0 (0 : Int32)
set_option maxRecDepth 100000 in
noncomputable def z_X12_keepAct_11 (k_11 : ez_H → Nat → Int32 → Option (Unit × ez_H)) (σ : ez_H) (h0 : Nat) (x1 : Int32) : Option (Unit × ez_H) :=
  if (3640 : Int32) ≤ x1 then (
  ez_bd (ez_gi σ 12 h0 60) fun t_41 =>
  ez_let (t_41 - (1 : Int32)) fun t_45 =>
  ez_bd (ez_pf σ 12 h0 60 (.inl t_45)) fun σ =>
  z_X12_keepAct_49  σ h0
  ) else (
  ez_bd (ez_gr σ 12 h0 59) fun t_19 =>
  ez_bd (ez_gr σ 12 h0 59) fun t_24 =>
  ez_let (x1 + (91 : Int32)) fun t_30 =>
  ez_bd (ez_ia σ 1 t_24 t_30) fun t_31 =>
  ez_bd (ez_is σ 1 t_19 x1 t_31) fun σ =>
  ez_let (x1 + 1) fun t_33 =>
  k_11 σ h0 t_33
  )
set_option maxRecDepth 100000 in
noncomputable def z_X12_keepAct (σ : ez_H) (h0 : Nat) : Option (Unit × ez_H) :=
  ez_bd (ez_ob σ 12 h0) fun _ =>
  ez_bd (ez_gi σ 12 h0 60) fun t_1 =>
  if t_1 = (40 : Int32) then (
  ez_fix (fun _ _ _ => none) (z_X12_keepAct_11 ) ez_N σ h0 (0 : Int32)
  ) else (
  z_X12_keepAct_49  σ h0
  )
set_option maxRecDepth 100000 in
noncomputable def z_X12_file_25 (σ : ez_H) : Option (Int32 × ez_H) :=
  some ((-1 : Int32), σ)
set_option maxRecDepth 100000 in
noncomputable def z_X12_file (σ : ez_H) (h0 : Nat) (x1 : Int32) (x2 : Int32) : Option (Int32 × ez_H) :=
  ez_bd (ez_ob σ 12 h0) fun _ =>
  ez_bd (z_X12_isKey σ h0 x1) fun t_2 =>
  if t_2 = (0 : Int32) then (
  z_X12_file_25  σ
  ) else (
  ez_bd (z_X12_isChamber σ h0 x2) fun t_10 =>
  if t_10 = (0 : Int32) then (
  z_X12_file_25  σ
  ) else (
  ez_b2 (z_X12_deepen σ h0 x1 x2) fun t_19 σ =>
  if t_19 = (0 : Int32) then (
  z_X12_file_25  σ
  ) else (
  ez_bd (ez_gr σ 12 h0 53) fun t_28 =>
  ez_let ((5 : Int32) * x1) fun t_34 =>
  ez_let ((0 : Int32) + t_34) fun t_35 =>
  ez_let (t_35 + x2) fun t_37 =>
  ez_bd (ez_ia σ 1 t_28 t_37) fun t_39 =>
  ez_let (t_39 - (1 : Int32)) fun t_41 =>
  ez_bd (ez_is σ 1 t_28 t_37 t_41) fun σ =>
  ez_b2 (z_X12_keepAct σ h0) fun _ σ =>
  ez_bd (ez_gr σ 12 h0 53) fun t_48 =>
  ez_let ((5 : Int32) * x1) fun t_54 =>
  ez_let ((0 : Int32) + t_54) fun t_55 =>
  ez_let (t_55 + x2) fun t_57 =>
  ez_bd (ez_ia σ 1 t_48 t_57) fun t_59 =>
  ez_let (t_59 + (1 : Int32)) fun t_61 =>
  ez_bd (ez_is σ 1 t_48 t_57 t_61) fun σ =>
  ez_bd (z_X12_cutOf σ h0 x1 x2) fun t_66 =>
  some (t_66, σ)
  )
  )
  )
set_option maxRecDepth 100000 in
noncomputable def z_X12_isLock (σ : ez_H) (h0 : Nat) (x1 : Int32) : Option (Int32) :=
  ez_bd (ez_ob σ 12 h0) fun _ =>
  ez_bd (z_X12_bolts σ h0) fun t_3 =>
  ez_let (t_3 - (1 : Int32)) fun t_7 =>
  ez_bd (z_X12_isIn σ x1 (0 : Int32) t_7) fun t_8 =>
  ez_nr .boolean t_8 <|
  some t_8
set_option maxRecDepth 100000 in
noncomputable def z_X12_cutIn (σ : ez_H) (h0 : Nat) (x1 : Int32) (x2 : Int32) : Option (Int32) :=
  ez_bd (ez_ob σ 12 h0) fun _ =>
  ez_bd (z_X12_deep σ h0) fun t_2 =>
  ez_bd (z_X12_wide σ h0) fun t_6 =>
  ez_let (t_6 - (1 : Int32)) fun t_10 =>
  ez_let (t_10 - x2) fun t_12 =>
  ez_bd (z_X12_power σ t_2 t_12) fun t_13 =>
  ez_nz t_13 <|
  ez_let (x1 / t_13) fun t_16 =>
  ez_bd (z_X12_deep σ h0) fun t_18 =>
  ez_nz t_18 <|
  ez_let (t_16 - t_16 / t_18 * t_18) fun t_21 =>
  some t_21
set_option maxRecDepth 100000 in
noncomputable def z_X12_filedTo_5 (σ : ez_H) (k_5 : Nat → Int32 → Int32 → Int32 → Int32 → Option (Int32)) (h0 : Nat) (x1 : Int32) (x2 : Int32) (x3 : Int32) (x4 : Int32) : Option (Int32) :=
  ez_bd (z_X12_wide σ h0) fun t_8 =>
  if t_8 ≤ x4 then (
  some x3
  ) else (
  ez_bd (z_X12_cutIn σ h0 x2 x4) fun t_18 =>
  ez_bd (z_X12_cutOf σ h0 x1 x4) fun t_25 =>
  if t_25 ≤ t_18 then (
  ez_bd (z_X12_cutIn σ h0 x2 x4) fun t_38 =>
  ez_bd (z_X12_cutOf σ h0 x1 x4) fun t_45 =>
  ez_let (t_38 - t_45) fun t_48 =>
  ez_let (x3 + t_48) fun t_49 =>
  ez_let (x4 + 1) fun t_51 =>
  k_5 h0 x1 x2 t_49 t_51
  ) else (
  some (-1 : Int32)
  )
  )
set_option maxRecDepth 100000 in
noncomputable def z_X12_filedTo (σ : ez_H) (h0 : Nat) (x1 : Int32) (x2 : Int32) : Option (Int32) :=
  ez_bd (ez_ob σ 12 h0) fun _ =>
  ez_fix (fun _ _ _ _ _ => none) (z_X12_filedTo_5 σ) ez_N h0 x1 x2 (0 : Int32) (0 : Int32)
set_option maxRecDepth 100000 in
noncomputable def z_X12_filing_25 (σ : ez_H) : Option (Int32) :=
  some (-1 : Int32)
set_option maxRecDepth 100000 in
noncomputable def z_X12_filing_127 (σ : ez_H) (y0 : Int32) : Option (Int32) :=
  some y0
set_option maxRecDepth 100000 in
noncomputable def z_X12_filing_101 (σ : ez_H) (k_38 : Nat → Int32 → Int32 → Int32 → Int32 → Int32 → Int32 → Option (Int32)) (h0 : Nat) (x1 : Int32) (x2 : Int32) (x3 : Int32) (x4 : Int32) (x5 : Int32) (x6 : Int32) : Option (Int32) :=
  ez_let (x6 + 1) fun t_101 =>
  k_38 h0 x1 x2 x3 x4 x5 t_101
set_option maxRecDepth 100000 in
noncomputable def z_X12_filing_38 (σ : ez_H) (k_38 : Nat → Int32 → Int32 → Int32 → Int32 → Int32 → Int32 → Option (Int32)) (h0 : Nat) (x1 : Int32) (x2 : Int32) (x3 : Int32) (x4 : Int32) (x5 : Int32) (x6 : Int32) : Option (Int32) :=
  ez_bd (z_X12_bittings σ h0) fun t_41 =>
  if t_41 ≤ x6 then (
  if (0 : Int32) ≤ x4 then (
  if x3 = (0 : Int32) then (
  z_X12_filing_127 σ x5
  ) else (
  z_X12_filing_127 σ x4
  )
  ) else (
  z_X12_filing_127 σ (-1 : Int32)
  )
  ) else (
  ez_bd (z_X12_isLegal σ h0 x6) fun t_50 =>
  if t_50 = (0 : Int32) then (
  z_X12_filing_101 σ k_38 h0 x1 x2 x3 x4 x5 x6
  ) else (
  ez_bd (z_X12_doesOpen σ h0 x6 x2) fun t_60 =>
  if t_60 = (0 : Int32) then (
  z_X12_filing_101 σ k_38 h0 x1 x2 x3 x4 x5 x6
  ) else (
  ez_bd (z_X12_filedTo σ h0 x1 x6) fun t_73 =>
  if t_73 < (0 : Int32) then (
  z_X12_filing_101 σ k_38 h0 x1 x2 x3 x4 x5 x6
  ) else (
  if t_73 < x5 then (
  z_X12_filing_101 σ k_38 h0 x1 x2 x3 x6 t_73 x6
  ) else (
  z_X12_filing_101 σ k_38 h0 x1 x2 x3 x4 x5 x6
  )
  )
  )
  )
  )
set_option maxRecDepth 100000 in
noncomputable def z_X12_filing (σ : ez_H) (h0 : Nat) (x1 : Int32) (x2 : Int32) (x3 : Int32) : Option (Int32) :=
  ez_bd (ez_ob σ 12 h0) fun _ =>
  ez_bd (z_X12_isKey σ h0 x1) fun t_2 =>
  if t_2 = (0 : Int32) then (
  z_X12_filing_25 σ 
  ) else (
  ez_bd (z_X12_isLock σ h0 x2) fun t_10 =>
  if t_10 = (0 : Int32) then (
  z_X12_filing_25 σ 
  ) else (
  ez_bd (z_X12_isIn σ x3 (0 : Int32) (1 : Int32)) fun t_19 =>
  if t_19 = (0 : Int32) then (
  z_X12_filing_25 σ 
  ) else (
  ez_fix (fun _ _ _ _ _ _ _ => none) (z_X12_filing_38 σ) ez_N h0 x1 x2 x3 (-1 : Int32) (100000 : Int32) (0 : Int32)
  )
  )
  )
set_option maxRecDepth 100000 in
noncomputable def z_X12_isPerson (σ : ez_H) (h0 : Nat) (x1 : Int32) : Option (Int32) :=
  ez_bd (ez_ob σ 12 h0) fun _ =>
  ez_bd (ez_gr σ 12 h0 18) fun t_3 =>
  ez_bd (ez_gi σ 12 h0 43) fun t_7 =>
  ez_bd (ez_ia σ 1 t_3 t_7) fun t_10 =>
  ez_let (t_10 - (1 : Int32)) fun t_12 =>
  ez_bd (z_X12_isIn σ x1 (0 : Int32) t_12) fun t_13 =>
  ez_nr .boolean t_13 <|
  some t_13
set_option maxRecDepth 100000 in
noncomputable def z_X12_hand (σ : ez_H) (h0 : Nat) (x1 : Int32) (x2 : Int32) : Option (Int32 × ez_H) :=
  ez_bd (ez_ob σ 12 h0) fun _ =>
  ez_b2 (z_X12_keepAct σ h0) fun _ σ =>
  ez_bd (z_X12_holderOf σ h0 x1) fun t_6 =>
  ez_bd (ez_gr σ 12 h0 53) fun t_11 =>
  ez_let ((48 : Int32) + x1) fun t_17 =>
  ez_bd (ez_is σ 1 t_11 t_17 x2) fun σ =>
  some (t_6, σ)
set_option maxRecDepth 100000 in
noncomputable def z_X12_find_26 (σ : ez_H) : Option (Int32 × ez_H) :=
  some ((-1 : Int32), σ)
set_option maxRecDepth 100000 in
noncomputable def z_X12_find (σ : ez_H) (h0 : Nat) (x1 : Int32) (x2 : Int32) : Option (Int32 × ez_H) :=
  ez_bd (ez_ob σ 12 h0) fun _ =>
  ez_bd (z_X12_isKey σ h0 x1) fun t_2 =>
  if t_2 = (0 : Int32) then (
  z_X12_find_26  σ
  ) else (
  ez_bd (z_X12_isPerson σ h0 x2) fun t_10 =>
  if t_10 = (0 : Int32) then (
  z_X12_find_26  σ
  ) else (
  ez_bd (z_X12_holderOf σ h0 x1) fun t_18 =>
  if t_18 = (-2 : Int32) then (
  ez_b2 (z_X12_hand σ h0 x1 x2) fun t_31 σ =>
  ez_bd (z_X12_keysOf σ h0 x2) fun t_37 =>
  ez_bd (z_X12_bitsOf σ t_37) fun t_40 =>
  some (t_40, σ)
  ) else (
  z_X12_find_26  σ
  )
  )
  )
set_option maxRecDepth 100000 in
noncomputable def z_X12_isCut_2 (σ : ez_H) (k_2 : Nat → Int32 → Int32 → Option (Int32)) (h0 : Nat) (x1 : Int32) (x2 : Int32) : Option (Int32) :=
  ez_bd (z_X12_many σ h0) fun t_4 =>
  if t_4 ≤ x2 then (
  some (0 : Int32)
  ) else (
  ez_bd (z_X12_numberOf σ h0 x2) fun t_12 =>
  if t_12 = x1 then (
  some (1 : Int32)
  ) else (
  ez_let (x2 + 1) fun t_21 =>
  k_2 h0 x1 t_21
  )
  )
set_option maxRecDepth 100000 in
noncomputable def z_X12_isCut (σ : ez_H) (h0 : Nat) (x1 : Int32) : Option (Int32) :=
  ez_bd (ez_ob σ 12 h0) fun _ =>
  ez_fix (fun _ _ _ => none) (z_X12_isCut_2 σ) ez_N h0 x1 (0 : Int32)
set_option maxRecDepth 100000 in
noncomputable def z_X12_isGhost_30 (σ : ez_H) (y0 : Int32) : Option (Int32) :=
  ez_nr .boolean y0 <|
  some y0
set_option maxRecDepth 100000 in
noncomputable def z_X12_isGhost_29 (σ : ez_H) : Option (Int32) :=
  z_X12_isGhost_30 σ (0 : Int32)
set_option maxRecDepth 100000 in
noncomputable def z_X12_isGhost (σ : ez_H) (h0 : Nat) (x1 : Int32) (x2 : Int32) : Option (Int32) :=
  ez_bd (ez_ob σ 12 h0) fun _ =>
  ez_bd (z_X12_isLegal σ h0 x1) fun t_2 =>
  if t_2 = (0 : Int32) then (
  z_X12_isGhost_29 σ 
  ) else (
  ez_bd (z_X12_doesOpen σ h0 x1 x2) fun t_11 =>
  if t_11 = (0 : Int32) then (
  z_X12_isGhost_29 σ 
  ) else (
  ez_bd (z_X12_isCut σ h0 x1) fun t_19 =>
  if t_19 = (0 : Int32) then (
  z_X12_isGhost_30 σ (1 : Int32)
  ) else (
  z_X12_isGhost_29 σ 
  )
  )
  )
set_option maxRecDepth 100000 in
noncomputable def z_X12_ghost_12 (σ : ez_H) : Option (Int32) :=
  some (-1 : Int32)
set_option maxRecDepth 100000 in
noncomputable def z_X12_ghost_51 (σ : ez_H) (k_19 : Nat → Int32 → Int32 → Int32 → Option (Int32)) (h0 : Nat) (x1 : Int32) (x3 : Int32) (x4 : Int32) : Option (Int32) :=
  ez_let (x4 + 1) fun t_51 =>
  k_19 h0 x1 x3 t_51
set_option maxRecDepth 100000 in
noncomputable def z_X12_ghost_19 (σ : ez_H) (k_19 : Nat → Int32 → Int32 → Int32 → Option (Int32)) (h0 : Nat) (x1 : Int32) (x3 : Int32) (x4 : Int32) : Option (Int32) :=
  ez_bd (z_X12_bittings σ h0) fun t_22 =>
  if t_22 ≤ x4 then (
  some (-1 : Int32)
  ) else (
  ez_bd (z_X12_isGhost σ h0 x4 x1) fun t_32 =>
  if t_32 = (0 : Int32) then (
  z_X12_ghost_51 σ k_19 h0 x1 x3 x4
  ) else (
  if x3 = (0 : Int32) then (
  some x4
  ) else (
  ez_let (x3 + (-1)) fun t_48 =>
  z_X12_ghost_51 σ k_19 h0 x1 t_48 x4
  )
  )
  )
set_option maxRecDepth 100000 in
noncomputable def z_X12_ghost (σ : ez_H) (h0 : Nat) (x1 : Int32) (x2 : Int32) : Option (Int32) :=
  ez_bd (ez_ob σ 12 h0) fun _ =>
  ez_bd (z_X12_isLock σ h0 x1) fun t_2 =>
  if t_2 = (0 : Int32) then (
  z_X12_ghost_12 σ 
  ) else (
  if (0 : Int32) ≤ x2 then (
  ez_fix (fun _ _ _ _ => none) (z_X12_ghost_19 σ) ez_N h0 x1 x2 (0 : Int32)
  ) else (
  z_X12_ghost_12 σ 
  )
  )
set_option maxRecDepth 100000 in
noncomputable def z_X12_ghostsOf_24 (σ : ez_H) (k_4 : Nat → Int32 → Int32 → Int32 → Option (Int32)) (h0 : Nat) (x1 : Int32) (x2 : Int32) (x3 : Int32) : Option (Int32) :=
  ez_let (x3 + 1) fun t_24 =>
  k_4 h0 x1 x2 t_24
set_option maxRecDepth 100000 in
noncomputable def z_X12_ghostsOf_4 (σ : ez_H) (k_4 : Nat → Int32 → Int32 → Int32 → Option (Int32)) (h0 : Nat) (x1 : Int32) (x2 : Int32) (x3 : Int32) : Option (Int32) :=
  ez_bd (z_X12_bittings σ h0) fun t_6 =>
  if t_6 ≤ x3 then (
  some x2
  ) else (
  ez_bd (z_X12_isGhost σ h0 x3 x1) fun t_15 =>
  if t_15 = (0 : Int32) then (
  z_X12_ghostsOf_24 σ k_4 h0 x1 x2 x3
  ) else (
  ez_let (x2 + 1) fun t_21 =>
  z_X12_ghostsOf_24 σ k_4 h0 x1 t_21 x3
  )
  )
set_option maxRecDepth 100000 in
noncomputable def z_X12_ghostsOf (σ : ez_H) (h0 : Nat) (x1 : Int32) : Option (Int32) :=
  ez_bd (ez_ob σ 12 h0) fun _ =>
  ez_fix (fun _ _ _ _ => none) (z_X12_ghostsOf_4 σ) ez_N h0 x1 (0 : Int32) (0 : Int32)
set_option maxRecDepth 100000 in
noncomputable def z_X12_ghosts_17 (σ : ez_H) (y0 : Int32) : Option (Int32) :=
  some y0
set_option maxRecDepth 100000 in
noncomputable def z_X12_ghosts (σ : ez_H) (h0 : Nat) (x1 : Int32) : Option (Int32) :=
  ez_bd (ez_ob σ 12 h0) fun _ =>
  ez_bd (z_X12_isLock σ h0 x1) fun t_2 =>
  if t_2 = (0 : Int32) then (
  z_X12_ghosts_17 σ (-1 : Int32)
  ) else (
  ez_bd (z_X12_ghostsOf σ h0 x1) fun t_10 =>
  z_X12_ghosts_17 σ t_10
  )
set_option maxRecDepth 100000 in
noncomputable def z_X12_give_35 (σ : ez_H) : Option (Int32 × ez_H) :=
  some ((-3 : Int32), σ)
set_option maxRecDepth 100000 in
noncomputable def z_X12_give_74 (σ : ez_H) (h0 : Nat) (x1 : Int32) (x2 : Int32) : Option (Int32 × ez_H) :=
  ez_b2 (z_X12_hand σ h0 x1 x2) fun t_77 σ =>
  some (t_77, σ)
set_option maxRecDepth 100000 in
noncomputable def z_X12_give (σ : ez_H) (h0 : Nat) (x1 : Int32) (x2 : Int32) : Option (Int32 × ez_H) :=
  ez_bd (ez_ob σ 12 h0) fun _ =>
  ez_bd (z_X12_isKey σ h0 x1) fun t_2 =>
  if t_2 = (0 : Int32) then (
  z_X12_give_35  σ
  ) else (
  ez_bd (z_X12_isPerson σ h0 x2) fun t_10 =>
  if t_10 = (0 : Int32) then (
  z_X12_give_35  σ
  ) else (
  ez_bd (z_X12_holderOf σ h0 x1) fun t_18 =>
  if t_18 = x2 then (
  z_X12_give_35  σ
  ) else (
  ez_bd (z_X12_holderOf σ h0 x1) fun t_27 =>
  if t_27 = (-2 : Int32) then (
  z_X12_give_35  σ
  ) else (
  ez_bd (z_X12_holderOf σ h0 x1) fun t_40 =>
  if t_40 < (0 : Int32) then (
  z_X12_give_74  σ h0 x1 x2
  ) else (
  ez_bd (ez_gr σ 12 h0 53) fun t_47 =>
  ez_bd (z_X12_holderOf σ h0 x1) fun t_54 =>
  ez_let ((86 : Int32) + t_54) fun t_57 =>
  ez_bd (ez_ia σ 1 t_47 t_57) fun t_58 =>
  ez_bd (ez_gr σ 12 h0 53) fun t_60 =>
  ez_let ((86 : Int32) + x2) fun t_66 =>
  ez_bd (ez_ia σ 1 t_60 t_66) fun t_67 =>
  if t_58 = t_67 then (
  z_X12_give_74  σ h0 x1 x2
  ) else (
  some ((-3 : Int32), σ)
  )
  )
  )
  )
  )
  )
set_option maxRecDepth 100000 in
noncomputable def z_X12_hang_27 (σ : ez_H) (y0 : Int32) : Option (Int32 × ez_H) :=
  some (y0, σ)
set_option maxRecDepth 100000 in
noncomputable def z_X12_hang_25 (σ : ez_H) : Option (Int32 × ez_H) :=
  z_X12_hang_27  σ (-3 : Int32)
set_option maxRecDepth 100000 in
noncomputable def z_X12_hang (σ : ez_H) (h0 : Nat) (x1 : Int32) : Option (Int32 × ez_H) :=
  ez_bd (ez_ob σ 12 h0) fun _ =>
  ez_bd (z_X12_isKey σ h0 x1) fun t_2 =>
  if t_2 = (0 : Int32) then (
  z_X12_hang_25  σ
  ) else (
  ez_bd (z_X12_holderOf σ h0 x1) fun t_10 =>
  if t_10 < (0 : Int32) then (
  z_X12_hang_25  σ
  ) else (
  ez_b2 (z_X12_hand σ h0 x1 (-1 : Int32)) fun t_19 σ =>
  z_X12_hang_27  σ t_19
  )
  )
set_option maxRecDepth 100000 in
noncomputable def z_X12_haunted_35 (σ : ez_H) (k_6 : Nat → Int32 → Int32 → Int32 → Option (Int32)) (h0 : Nat) (x1 : Int32) (x2 : Int32) (x3 : Int32) : Option (Int32) :=
  ez_let (x3 + 1) fun t_35 =>
  k_6 h0 x1 x2 t_35
set_option maxRecDepth 100000 in
noncomputable def z_X12_haunted_6 (σ : ez_H) (k_6 : Nat → Int32 → Int32 → Int32 → Option (Int32)) (h0 : Nat) (x1 : Int32) (x2 : Int32) (x3 : Int32) : Option (Int32) :=
  ez_bd (z_X12_bolts σ h0) fun t_8 =>
  if t_8 ≤ x3 then (
  some x1
  ) else (
  ez_bd (z_X12_ghostsOf σ h0 x3) fun t_16 =>
  if x2 < t_16 then (
  z_X12_haunted_35 σ k_6 h0 x3 t_16 x3
  ) else (
  z_X12_haunted_35 σ k_6 h0 x1 x2 x3
  )
  )
set_option maxRecDepth 100000 in
noncomputable def z_X12_haunted (σ : ez_H) (h0 : Nat) : Option (Int32) :=
  ez_bd (ez_ob σ 12 h0) fun _ =>
  ez_fix (fun _ _ _ _ => none) (z_X12_haunted_6 σ) ez_N h0 (-1 : Int32) (-1 : Int32) (0 : Int32)
set_option maxRecDepth 100000 in
noncomputable def z_X12_idle_27 (σ : ez_H) (y0 : Int32) : Option (Int32) :=
  some y0
set_option maxRecDepth 100000 in
noncomputable def z_X12_idle (σ : ez_H) (h0 : Nat) (x1 : Int32) : Option (Int32) :=
  ez_bd (ez_ob σ 12 h0) fun _ =>
  if x1 = (0 : Int32) then (
  ez_bd (z_X12_keysBy σ h0 (-1 : Int32)) fun t_6 =>
  z_X12_idle_27 σ t_6
  ) else (
  if x1 = (1 : Int32) then (
  ez_bd (z_X12_keysBy σ h0 (-2 : Int32)) fun t_20 =>
  z_X12_idle_27 σ t_20
  ) else (
  z_X12_idle_27 σ (-1 : Int32)
  )
  )
set_option maxRecDepth 100000 in
noncomputable def z_X12_image_13 (k_13 : ez_H → Nat → Int32 → Int32 → Option (Int32 × ez_H)) (σ : ez_H) (h0 : Nat) (x1 : Int32) (x2 : Int32) : Option (Int32 × ez_H) :=
  if (91 : Int32) ≤ x2 then (
  ez_bd (ez_gr σ 12 h0 69) fun t_43 =>
  ez_bd (ez_is σ 3 t_43 x1 (vp_nar .boolean (1 : Int32))) fun σ =>
  ez_bd (z_X12_keysBy σ h0 (-2 : Int32)) fun t_52 =>
  ez_bd (z_X12_bitsOf σ t_52) fun t_55 =>
  some (t_55, σ)
  ) else (
  ez_bd (ez_gr σ 12 h0 68) fun t_20 =>
  ez_let ((91 : Int32) * x1) fun t_26 =>
  ez_let (t_26 + x2) fun t_28 =>
  ez_bd (ez_gr σ 12 h0 53) fun t_30 =>
  ez_bd (ez_ia σ 1 t_30 x2) fun t_34 =>
  ez_bd (ez_is σ 1 t_20 t_28 t_34) fun σ =>
  ez_let (x2 + 1) fun t_36 =>
  k_13 σ h0 x1 t_36
  )
set_option maxRecDepth 100000 in
noncomputable def z_X12_image (σ : ez_H) (h0 : Nat) (x1 : Int32) : Option (Int32 × ez_H) :=
  ez_bd (ez_ob σ 12 h0) fun _ =>
  ez_bd (z_X12_isIn σ x1 (0 : Int32) (2 : Int32)) fun t_3 =>
  if t_3 = (0 : Int32) then (
  some ((-1 : Int32), σ)
  ) else (
  ez_fix (fun _ _ _ _ => none) (z_X12_image_13 ) ez_N σ h0 x1 (0 : Int32)
  )
set_option maxRecDepth 100000 in
noncomputable def z_X12_keepNow_2 (k_2 : ez_H → Nat → Int32 → Option (Unit × ez_H)) (σ : ez_H) (h0 : Nat) (x1 : Int32) : Option (Unit × ez_H) :=
  if (91 : Int32) ≤ x1 then (
  some ((), σ)
  ) else (
  ez_bd (ez_gr σ 12 h0 54) fun t_9 =>
  ez_bd (ez_gr σ 12 h0 53) fun t_14 =>
  ez_bd (ez_ia σ 1 t_14 x1) fun t_18 =>
  ez_bd (ez_is σ 1 t_9 x1 t_18) fun σ =>
  ez_let (x1 + 1) fun t_20 =>
  k_2 σ h0 t_20
  )
set_option maxRecDepth 100000 in
noncomputable def z_X12_keepNow (σ : ez_H) (h0 : Nat) : Option (Unit × ez_H) :=
  ez_bd (ez_ob σ 12 h0) fun _ =>
  ez_fix (fun _ _ _ => none) (z_X12_keepNow_2 ) ez_N σ h0 (0 : Int32)
set_option maxRecDepth 100000 in
noncomputable def z_X12_cutAnew_2 (k_2 : ez_H → Nat → Int32 → Int32 → Int32 → Option (Unit × ez_H)) (σ : ez_H) (h0 : Nat) (x1 : Int32) (x2 : Int32) (x3 : Int32) : Option (Unit × ez_H) :=
  ez_bd (z_X12_wide σ h0) fun t_4 =>
  if t_4 ≤ x3 then (
  some ((), σ)
  ) else (
  ez_bd (ez_gr σ 12 h0 53) fun t_11 =>
  ez_let ((5 : Int32) * x1) fun t_17 =>
  ez_let ((0 : Int32) + t_17) fun t_18 =>
  ez_let (t_18 + x3) fun t_20 =>
  ez_bd (z_X12_cutIn σ h0 x2 x3) fun t_24 =>
  ez_bd (ez_is σ 1 t_11 t_20 t_24) fun σ =>
  ez_let (x3 + 1) fun t_28 =>
  k_2 σ h0 x1 x2 t_28
  )
set_option maxRecDepth 100000 in
noncomputable def z_X12_cutAnew (σ : ez_H) (h0 : Nat) (x1 : Int32) (x2 : Int32) : Option (Unit × ez_H) :=
  ez_bd (ez_ob σ 12 h0) fun _ =>
  ez_fix (fun _ _ _ _ _ => none) (z_X12_cutAnew_2 ) ez_N σ h0 x1 x2 (0 : Int32)
set_option maxRecDepth 100000 in
noncomputable def z_X12_pinFor_48 (k_2 : ez_H → Nat → Int32 → Int32 → Int32 → Option (Unit × ez_H)) (k_16 : ez_H → Nat → Int32 → Int32 → Int32 → Int32 → Int32 → Option (Unit × ez_H)) (σ : ez_H) (h0 : Nat) (x1 : Int32) (x2 : Int32) (x3 : Int32) (x4 : Int32) (x5 : Int32) : Option (Unit × ez_H) :=
  ez_let (x5 + 1) fun t_48 =>
  k_16 σ h0 x1 x2 x3 x4 t_48
set_option maxRecDepth 100000 in
noncomputable def z_X12_pinFor_16 (k_2 : ez_H → Nat → Int32 → Int32 → Int32 → Option (Unit × ez_H)) (k_16 : ez_H → Nat → Int32 → Int32 → Int32 → Int32 → Int32 → Option (Unit × ez_H)) (σ : ez_H) (h0 : Nat) (x1 : Int32) (x2 : Int32) (x3 : Int32) (x4 : Int32) (x5 : Int32) : Option (Unit × ez_H) :=
  ez_bd (z_X12_many σ h0) fun t_19 =>
  if t_19 ≤ x5 then (
  ez_bd (ez_gr σ 12 h0 53) fun t_55 =>
  ez_let ((5 : Int32) * x1) fun t_62 =>
  ez_let ((56 : Int32) + t_62) fun t_63 =>
  ez_let (t_63 + x3) fun t_65 =>
  ez_bd (ez_is σ 1 t_55 t_65 x4) fun σ =>
  ez_let (x3 + 1) fun t_69 =>
  k_2 σ h0 x1 x2 t_69
  ) else (
  ez_bd (z_X12_bit σ x2 x5) fun t_28 =>
  if t_28 = (0 : Int32) then (
  z_X12_pinFor_48 k_2 k_16 σ h0 x1 x2 x3 x4 x5
  ) else (
  ez_bd (z_X12_cutOf σ h0 x5 x3) fun t_41 =>
  ez_let ((1 : Int32) <<< (t_41 &&& 31)) fun t_44 =>
  ez_let (x4 ||| t_44) fun t_45 =>
  z_X12_pinFor_48 k_2 k_16 σ h0 x1 x2 x3 t_45 x5
  )
  )
set_option maxRecDepth 100000 in
noncomputable def z_X12_pinFor_2 (k_2 : ez_H → Nat → Int32 → Int32 → Int32 → Option (Unit × ez_H)) (σ : ez_H) (h0 : Nat) (x1 : Int32) (x2 : Int32) (x3 : Int32) : Option (Unit × ez_H) :=
  ez_bd (z_X12_wide σ h0) fun t_4 =>
  if t_4 ≤ x3 then (
  some ((), σ)
  ) else (
  ez_fix (fun _ _ _ _ _ _ _ => none) (z_X12_pinFor_16 k_2) ez_N σ h0 x1 x2 x3 (0 : Int32) (0 : Int32)
  )
set_option maxRecDepth 100000 in
noncomputable def z_X12_pinFor (σ : ez_H) (h0 : Nat) (x1 : Int32) (x2 : Int32) : Option (Unit × ez_H) :=
  ez_bd (ez_ob σ 12 h0) fun _ =>
  ez_fix (fun _ _ _ _ _ => none) (z_X12_pinFor_2 ) ez_N σ h0 x1 x2 (0 : Int32)
set_option maxRecDepth 100000 in
noncomputable def z_X12_pinByPlan_28 (k_2 : ez_H → Nat → Int32 → Option (Unit × ez_H)) (σ : ez_H) (h0 : Nat) (x1 : Int32) : Option (Unit × ez_H) :=
  ez_let (x1 + 1) fun t_28 =>
  k_2 σ h0 t_28
set_option maxRecDepth 100000 in
noncomputable def z_X12_pinByPlan_2 (k_2 : ez_H → Nat → Int32 → Option (Unit × ez_H)) (σ : ez_H) (h0 : Nat) (x1 : Int32) : Option (Unit × ez_H) :=
  ez_bd (z_X12_bolts σ h0) fun t_4 =>
  if t_4 ≤ x1 then (
  some ((), σ)
  ) else (
  ez_bd (z_X12_mustOf σ h0 x1) fun t_12 =>
  if t_12 = (0 : Int32) then (
  z_X12_pinByPlan_28 k_2 σ h0 x1
  ) else (
  ez_bd (z_X12_mustOf σ h0 x1) fun t_22 =>
  ez_b2 (z_X12_pinFor σ h0 x1 t_22) fun _ σ =>
  z_X12_pinByPlan_28 k_2 σ h0 x1
  )
  )
set_option maxRecDepth 100000 in
noncomputable def z_X12_pinByPlan (σ : ez_H) (h0 : Nat) : Option (Unit × ez_H) :=
  ez_bd (ez_ob σ 12 h0) fun _ =>
  ez_fix (fun _ _ _ => none) (z_X12_pinByPlan_2 ) ez_N σ h0 (0 : Int32)
set_option maxRecDepth 100000 in
noncomputable def z_X12_straysBy_104 (σ : ez_H) (y0 : Int32) : Option (Int32) :=
  some y0
set_option maxRecDepth 100000 in
noncomputable def z_X12_straysBy_73 (σ : ez_H) (k_10 : Nat → Int32 → Int32 → Int32 → Int32 → Int32 → Option (Int32)) (k_22 : Nat → Int32 → Int32 → Int32 → Int32 → Int32 → Int32 → Option (Int32)) (h0 : Nat) (x1 : Int32) (x2 : Int32) (x3 : Int32) (x4 : Int32) (x5 : Int32) (x6 : Int32) : Option (Int32) :=
  ez_let (x6 + 1) fun t_73 =>
  k_22 h0 x1 x2 x3 x4 x5 t_73
set_option maxRecDepth 100000 in
noncomputable def z_X12_straysBy_70 (σ : ez_H) (k_10 : Nat → Int32 → Int32 → Int32 → Int32 → Int32 → Option (Int32)) (k_22 : Nat → Int32 → Int32 → Int32 → Int32 → Int32 → Int32 → Option (Int32)) (h0 : Nat) (x1 : Int32) (x2 : Int32) (x3 : Int32) (x4 : Int32) (x5 : Int32) (x6 : Int32) : Option (Int32) :=
  ez_let (x2 + 1) fun t_70 =>
  z_X12_straysBy_73 σ k_10 k_22 h0 x1 t_70 x3 x4 x5 x6
set_option maxRecDepth 100000 in
noncomputable def z_X12_straysBy_22 (σ : ez_H) (k_10 : Nat → Int32 → Int32 → Int32 → Int32 → Int32 → Option (Int32)) (k_22 : Nat → Int32 → Int32 → Int32 → Int32 → Int32 → Int32 → Option (Int32)) (h0 : Nat) (x1 : Int32) (x2 : Int32) (x3 : Int32) (x4 : Int32) (x5 : Int32) (x6 : Int32) : Option (Int32) :=
  ez_bd (z_X12_bolts σ h0) fun t_25 =>
  if t_25 ≤ x6 then (
  ez_let (x5 + 1) fun t_79 =>
  k_10 h0 x1 x2 x3 x4 t_79
  ) else (
  ez_bd (z_X12_neverOf σ h0 x6) fun t_34 =>
  ez_bd (z_X12_bit σ t_34 x5) fun t_39 =>
  if t_39 = (0 : Int32) then (
  z_X12_straysBy_73 σ k_10 k_22 h0 x1 x2 x3 x4 x5 x6
  ) else (
  ez_bd (z_X12_opensBy σ h0 x5 x6) fun t_50 =>
  if t_50 = (0 : Int32) then (
  z_X12_straysBy_73 σ k_10 k_22 h0 x1 x2 x3 x4 x5 x6
  ) else (
  if x2 = (0 : Int32) then (
  z_X12_straysBy_70 σ k_10 k_22 h0 x1 x2 x5 x6 x5 x6
  ) else (
  z_X12_straysBy_70 σ k_10 k_22 h0 x1 x2 x3 x4 x5 x6
  )
  )
  )
  )
set_option maxRecDepth 100000 in
noncomputable def z_X12_straysBy_10 (σ : ez_H) (k_10 : Nat → Int32 → Int32 → Int32 → Int32 → Int32 → Option (Int32)) (h0 : Nat) (x1 : Int32) (x2 : Int32) (x3 : Int32) (x4 : Int32) (x5 : Int32) : Option (Int32) :=
  ez_bd (z_X12_many σ h0) fun t_13 =>
  if t_13 ≤ x5 then (
  if x1 = (0 : Int32) then (
  z_X12_straysBy_104 σ x2
  ) else (
  if x1 = (1 : Int32) then (
  z_X12_straysBy_104 σ x3
  ) else (
  z_X12_straysBy_104 σ x4
  )
  )
  ) else (
  ez_fix (fun _ _ _ _ _ _ _ => none) (z_X12_straysBy_22 σ k_10) ez_N h0 x1 x2 x3 x4 x5 (0 : Int32)
  )
set_option maxRecDepth 100000 in
noncomputable def z_X12_straysBy (σ : ez_H) (h0 : Nat) (x1 : Int32) : Option (Int32) :=
  ez_bd (ez_ob σ 12 h0) fun _ =>
  ez_fix (fun _ _ _ _ _ _ => none) (z_X12_straysBy_10 σ) ez_N h0 x1 (0 : Int32) (-1 : Int32) (-1 : Int32) (0 : Int32)
set_option maxRecDepth 100000 in
noncomputable def z_X12_bringBack_2 (k_2 : ez_H → Nat → Int32 → Option (Unit × ez_H)) (σ : ez_H) (h0 : Nat) (x1 : Int32) : Option (Unit × ez_H) :=
  if (91 : Int32) ≤ x1 then (
  some ((), σ)
  ) else (
  ez_bd (ez_gr σ 12 h0 53) fun t_9 =>
  ez_bd (ez_gr σ 12 h0 54) fun t_14 =>
  ez_bd (ez_ia σ 1 t_14 x1) fun t_18 =>
  ez_bd (ez_is σ 1 t_9 x1 t_18) fun σ =>
  ez_let (x1 + 1) fun t_20 =>
  k_2 σ h0 t_20
  )
set_option maxRecDepth 100000 in
noncomputable def z_X12_bringBack (σ : ez_H) (h0 : Nat) : Option (Unit × ez_H) :=
  ez_bd (ez_ob σ 12 h0) fun _ =>
  ez_fix (fun _ _ _ => none) (z_X12_bringBack_2 ) ez_N σ h0 (0 : Int32)
set_option maxRecDepth 100000 in
noncomputable def z_X12_keeps_67 (σ : ez_H) (h0 : Nat) (x2 : Int32) : Option (Int32 × ez_H) :=
  ez_b2 (z_X12_bringBack σ h0) fun _ σ =>
  some (x2, σ)
set_option maxRecDepth 100000 in
noncomputable def z_X12_keeps_61 (k_18 : ez_H → Nat → Int32 → Int32 → Int32 → Option (Int32 × ez_H)) (σ : ez_H) (h0 : Nat) (x1 : Int32) (x2 : Int32) (x3 : Int32) : Option (Int32 × ez_H) :=
  ez_let (x3 + 1) fun t_61 =>
  k_18 σ h0 x1 x2 t_61
set_option maxRecDepth 100000 in
noncomputable def z_X12_keeps_18 (k_18 : ez_H → Nat → Int32 → Int32 → Int32 → Option (Int32 × ez_H)) (σ : ez_H) (h0 : Nat) (x1 : Int32) (x2 : Int32) (x3 : Int32) : Option (Int32 × ez_H) :=
  ez_bd (z_X12_bittings σ h0) fun t_20 =>
  if t_20 ≤ x3 then (
  z_X12_keeps_67  σ h0 x2
  ) else (
  if (0 : Int32) ≤ x2 then (
  z_X12_keeps_67  σ h0 x2
  ) else (
  ez_bd (z_X12_isLegal σ h0 x3) fun t_32 =>
  if t_32 = (0 : Int32) then (
  z_X12_keeps_61 k_18 σ h0 x1 x2 x3
  ) else (
  ez_b2 (z_X12_cutAnew σ h0 x1 x3) fun _ σ =>
  ez_b2 (z_X12_pinByPlan σ h0) fun _ σ =>
  ez_bd (z_X12_straysBy σ h0 (0 : Int32)) fun t_53 =>
  if t_53 = (0 : Int32) then (
  z_X12_keeps_61 k_18 σ h0 x1 x3 x3
  ) else (
  z_X12_keeps_61 k_18 σ h0 x1 x2 x3
  )
  )
  )
  )
set_option maxRecDepth 100000 in
noncomputable def z_X12_keeps (σ : ez_H) (h0 : Nat) (x1 : Int32) : Option (Int32 × ez_H) :=
  ez_bd (ez_ob σ 12 h0) fun _ =>
  ez_bd (z_X12_isKey σ h0 x1) fun t_2 =>
  if t_2 = (0 : Int32) then (
  some ((-1 : Int32), σ)
  ) else (
  ez_b2 (z_X12_keepNow σ h0) fun _ σ =>
  ez_fix (fun _ _ _ _ _ => none) (z_X12_keeps_18 ) ez_N σ h0 x1 (-1 : Int32) (0 : Int32)
  )
set_option maxRecDepth 100000 in
noncomputable def z_X12_key (σ : ez_H) (h0 : Nat) (x1 : Int32) (x2 : Int32) : Option (Int32) :=
  ez_bd (ez_ob σ 12 h0) fun _ =>
  ez_bd (z_X12_isKey σ h0 x1) fun t_2 =>
  if t_2 = (0 : Int32) then (
  some (-3 : Int32)
  ) else (
  if x2 = 0 then (
  ez_bd (z_X12_numberOf σ h0 x1) fun t_46 =>
  some t_46
  ) else (
  if x2 = 1 then (
  ez_bd (ez_gr σ 12 h0 53) fun t_51 =>
  ez_let ((40 : Int32) + x1) fun t_57 =>
  ez_bd (ez_ia σ 1 t_51 t_57) fun t_58 =>
  some t_58
  ) else (
  if x2 = 2 then (
  ez_bd (z_X12_holderOf σ h0 x1) fun t_62 =>
  some t_62
  ) else (
  if x2 = 3 then (
  ez_bd (z_X12_numberOf σ h0 x1) fun t_69 =>
  ez_bd (z_X12_openedBy σ h0 t_69) fun t_72 =>
  some t_72
  ) else (
  some (-3 : Int32)
  ))))
  )
set_option maxRecDepth 100000 in
noncomputable def z_X12_isLetter_17 (σ : ez_H) (y0 : Int32) : Option (Int32) :=
  ez_nr .boolean y0 <|
  some y0
set_option maxRecDepth 100000 in
noncomputable def z_X12_isLetter_16 (σ : ez_H) : Option (Int32) :=
  z_X12_isLetter_17 σ (0 : Int32)
set_option maxRecDepth 100000 in
noncomputable def z_X12_isLetter (σ : ez_H) (x0 : Int32) : Option (Int32) :=
  if x0 < (97 : Int32) then (
  z_X12_isLetter_16 σ 
  ) else (
  if (122 : Int32) < x0 then (
  z_X12_isLetter_16 σ 
  ) else (
  z_X12_isLetter_17 σ (1 : Int32)
  )
  )
set_option maxRecDepth 100000 in
noncomputable def z_X12_asked (σ : ez_H) (h0 : Nat) (x1 : Int32) (x2 : Int32) : Option (Int32) :=
  ez_bd (ez_ob σ 12 h0) fun _ =>
  if x1 = 98 then (
  ez_bd (ez_gi σ 12 h0 50) fun t_50 =>
  some t_50
  ) else (
  if x1 = 99 then (
  ez_bd (ez_gi σ 12 h0 49) fun t_45 =>
  some t_45
  ) else (
  if x1 = 104 then (
  ez_bd (ez_gi σ 12 h0 52) fun t_60 =>
  some t_60
  ) else (
  if x1 = 117 then (
  ez_bd (ez_gi σ 12 h0 51) fun t_55 =>
  some t_55
  ) else (
  some x2
  ))))
set_option maxRecDepth 100000 in
noncomputable def z_X12_two_155 (σ : ez_H) (y0 : Int32) : Option (Int32) :=
  some y0
set_option maxRecDepth 100000 in
noncomputable def z_X12_two_202 (σ : ez_H) (y0 : Int32) : Option (Int32) :=
  some y0
set_option maxRecDepth 100000 in
noncomputable def z_X12_two_201 (σ : ez_H) : Option (Int32) :=
  z_X12_two_202 σ (0 : Int32)
set_option maxRecDepth 100000 in
noncomputable def z_X12_two_216 (σ : ez_H) (y0 : Int32) : Option (Int32) :=
  some y0
set_option maxRecDepth 100000 in
noncomputable def z_X12_two_211 (σ : ez_H) : Option (Int32) :=
  z_X12_two_216 σ (1 : Int32)
set_option maxRecDepth 100000 in
noncomputable def z_X12_two_203 (σ : ez_H) (x1 : Int32) (x2 : Int32) : Option (Int32) :=
  if x1 = (0 : Int32) then (
  if x2 = (0 : Int32) then (
  z_X12_two_216 σ (0 : Int32)
  ) else (
  z_X12_two_211 σ 
  )
  ) else (
  z_X12_two_211 σ 
  )
set_option maxRecDepth 100000 in
noncomputable def z_X12_two_143 (σ : ez_H) (y0 : Int32) : Option (Int32) :=
  some y0
set_option maxRecDepth 100000 in
noncomputable def z_X12_two_166 (σ : ez_H) (y0 : Int32) : Option (Int32) :=
  some y0
set_option maxRecDepth 100000 in
noncomputable def z_X12_two_188 (σ : ez_H) (y0 : Int32) : Option (Int32) :=
  some y0
set_option maxRecDepth 100000 in
noncomputable def z_X12_two_177 (σ : ez_H) (y0 : Int32) : Option (Int32) :=
  some y0
set_option maxRecDepth 100000 in
noncomputable def z_X12_two (σ : ez_H) (x0 : Int32) (x1 : Int32) (x2 : Int32) : Option (Int32) :=
  if x0 = 37 then (
  if x2 = (0 : Int32) then (
  z_X12_two_155 σ (0 : Int32)
  ) else (
  ez_nz x2 <|
  ez_let (x1 - x1 / x2 * x2) fun t_154 =>
  z_X12_two_155 σ t_154
  )
  ) else (
  if x0 = 38 then (
  if x1 = (0 : Int32) then (
  z_X12_two_201 σ 
  ) else (
  if x2 = (0 : Int32) then (
  z_X12_two_201 σ 
  ) else (
  z_X12_two_202 σ (1 : Int32)
  )
  )
  ) else (
  if x0 = 39 then (
  z_X12_two_203 σ x1 x2
  ) else (
  if x0 = 40 then (
  z_X12_two_203 σ x1 x2
  ) else (
  if x0 = 41 then (
  z_X12_two_203 σ x1 x2
  ) else (
  if x0 = 42 then (
  ez_let (x1 * x2) fun t_130 =>
  some t_130
  ) else (
  if x0 = 43 then (
  ez_let (x1 + x2) fun t_122 =>
  some t_122
  ) else (
  if x0 = 44 then (
  z_X12_two_203 σ x1 x2
  ) else (
  if x0 = 45 then (
  ez_let (x1 - x2) fun t_126 =>
  some t_126
  ) else (
  if x0 = 46 then (
  z_X12_two_203 σ x1 x2
  ) else (
  if x0 = 47 then (
  if x2 = (0 : Int32) then (
  z_X12_two_143 σ (0 : Int32)
  ) else (
  ez_nz x2 <|
  ez_let (x1 / x2) fun t_142 =>
  z_X12_two_143 σ t_142
  )
  ) else (
  if x0 = 48 then (
  z_X12_two_203 σ x1 x2
  ) else (
  if x0 = 49 then (
  z_X12_two_203 σ x1 x2
  ) else (
  if x0 = 50 then (
  z_X12_two_203 σ x1 x2
  ) else (
  if x0 = 51 then (
  z_X12_two_203 σ x1 x2
  ) else (
  if x0 = 52 then (
  z_X12_two_203 σ x1 x2
  ) else (
  if x0 = 53 then (
  z_X12_two_203 σ x1 x2
  ) else (
  if x0 = 54 then (
  z_X12_two_203 σ x1 x2
  ) else (
  if x0 = 55 then (
  z_X12_two_203 σ x1 x2
  ) else (
  if x0 = 56 then (
  z_X12_two_203 σ x1 x2
  ) else (
  if x0 = 57 then (
  z_X12_two_203 σ x1 x2
  ) else (
  if x0 = 58 then (
  z_X12_two_203 σ x1 x2
  ) else (
  if x0 = 59 then (
  z_X12_two_203 σ x1 x2
  ) else (
  if x0 = 60 then (
  if x2 ≤ x1 then (
  z_X12_two_166 σ (0 : Int32)
  ) else (
  z_X12_two_166 σ (1 : Int32)
  )
  ) else (
  if x0 = 61 then (
  if x1 = x2 then (
  z_X12_two_188 σ (1 : Int32)
  ) else (
  z_X12_two_188 σ (0 : Int32)
  )
  ) else (
  if x0 = 62 then (
  if x1 ≤ x2 then (
  z_X12_two_177 σ (0 : Int32)
  ) else (
  z_X12_two_177 σ (1 : Int32)
  )
  ) else (
  z_X12_two_203 σ x1 x2
  ))))))))))))))))))))))))))
set_option maxRecDepth 100000 in
noncomputable def z_X12_comes_124 (k_12 : ez_H → Nat → Int32 → Int32 → Option (Int32 × ez_H)) (σ : ez_H) (h0 : Nat) (x1 : Int32) (x2 : Int32) : Option (Int32 × ez_H) :=
  ez_let (x2 + 1) fun t_124 =>
  k_12 σ h0 x1 t_124
set_option maxRecDepth 100000 in
noncomputable def z_X12_comes_61 (k_12 : ez_H → Nat → Int32 → Int32 → Option (Int32 × ez_H)) (σ : ez_H) (h0 : Nat) (x1 : Int32) (x2 : Int32) (y0 : Nat) (y1 : Int32) (y2 : Int32) : Option (Int32 × ez_H) :=
  ez_bd (ez_is σ 1 y0 y1 y2) fun σ =>
  z_X12_comes_124 k_12 σ h0 x1 x2
set_option maxRecDepth 100000 in
noncomputable def z_X12_comes_12 (k_12 : ez_H → Nat → Int32 → Int32 → Option (Int32 × ez_H)) (σ : ez_H) (h0 : Nat) (x1 : Int32) (x2 : Int32) : Option (Int32 × ez_H) :=
  ez_bd (ez_gr σ 12 h0 32) fun t_14 =>
  ez_bd (ez_gi σ 12 h0 43) fun t_18 =>
  ez_bd (ez_ia σ 1 t_14 t_18) fun t_21 =>
  if t_21 ≤ x2 then (
  ez_bd (ez_gr σ 12 h0 42) fun t_131 =>
  ez_bd (ez_ia σ 1 t_131 (0 : Int32)) fun t_135 =>
  some (t_135, σ)
  ) else (
  ez_bd (ez_gr σ 12 h0 38) fun t_26 =>
  ez_bd (ez_ia σ 1 t_26 x2) fun t_30 =>
  if t_30 = (126 : Int32) then (
  ez_bd (ez_gr σ 12 h0 42) fun t_39 =>
  ez_let (x1 - (1 : Int32)) fun t_44 =>
  ez_bd (ez_gr σ 12 h0 42) fun t_46 =>
  ez_let (x1 - (1 : Int32)) fun t_51 =>
  ez_bd (ez_ia σ 1 t_46 t_51) fun t_52 =>
  if t_52 = (0 : Int32) then (
  z_X12_comes_61 k_12 σ h0 x1 x2 t_39 t_44 (1 : Int32)
  ) else (
  z_X12_comes_61 k_12 σ h0 x1 x2 t_39 t_44 (0 : Int32)
  )
  ) else (
  ez_bd (z_X12_isLetter σ t_30) fun t_66 =>
  if t_66 = (0 : Int32) then (
  ez_let (x1 + (-1)) fun t_95 =>
  ez_bd (ez_gr σ 12 h0 42) fun t_99 =>
  ez_let (t_95 - (1 : Int32)) fun t_104 =>
  ez_bd (ez_gr σ 12 h0 42) fun t_107 =>
  ez_let (t_95 - (1 : Int32)) fun t_112 =>
  ez_bd (ez_ia σ 1 t_107 t_112) fun t_113 =>
  ez_bd (ez_gr σ 12 h0 42) fun t_115 =>
  ez_bd (ez_ia σ 1 t_115 t_95) fun t_119 =>
  ez_bd (z_X12_two σ t_30 t_113 t_119) fun t_120 =>
  ez_bd (ez_is σ 1 t_99 t_104 t_120) fun σ =>
  z_X12_comes_124 k_12 σ h0 t_95 x2
  ) else (
  ez_bd (ez_gr σ 12 h0 42) fun t_73 =>
  ez_bd (ez_gr σ 12 h0 39) fun t_80 =>
  ez_bd (ez_ia σ 1 t_80 x2) fun t_84 =>
  ez_bd (z_X12_asked σ h0 t_30 t_84) fun t_85 =>
  ez_bd (ez_is σ 1 t_73 x1 t_85) fun σ =>
  ez_let (x1 + 1) fun t_89 =>
  z_X12_comes_124 k_12 σ h0 t_89 x2
  )
  )
  )
set_option maxRecDepth 100000 in
noncomputable def z_X12_comes (σ : ez_H) (h0 : Nat) : Option (Int32 × ez_H) :=
  ez_bd (ez_ob σ 12 h0) fun _ =>
  ez_bd (ez_gr σ 12 h0 31) fun t_3 =>
  ez_bd (ez_gi σ 12 h0 43) fun t_7 =>
  ez_bd (ez_ia σ 1 t_3 t_7) fun t_10 =>
  ez_fix (fun _ _ _ _ => none) (z_X12_comes_12 ) ez_N σ h0 (0 : Int32) t_10
set_option maxRecDepth 100000 in
noncomputable def z_X12_use_170 (σ : ez_H) (h0 : Nat) (x1 : Int32) : Option (Unit × ez_H) :=
  ez_bd (ez_gr σ 12 h0 53) fun t_171 =>
  ez_let ((40 : Int32) + x1) fun t_177 =>
  ez_bd (ez_ia σ 1 t_171 t_177) fun t_179 =>
  ez_let (t_179 + (1 : Int32)) fun t_181 =>
  ez_bd (ez_is σ 1 t_171 t_177 t_181) fun σ =>
  some ((), σ)
set_option maxRecDepth 100000 in
noncomputable def z_X12_use_148 (σ : ez_H) (h0 : Nat) (x1 : Int32) (x2 : Int32) (y0 : Int32) : Option (Unit × ez_H) :=
  ez_bd (ez_gr σ 12 h0 53) fun t_150 =>
  ez_bd (ez_ia σ 1 t_150 (90 : Int32)) fun t_155 =>
  ez_nz (10 : Int32) <|
  ez_let (t_155 / (10 : Int32)) fun t_158 =>
  if y0 ≤ t_158 then (
  z_X12_use_170  σ h0 x1
  ) else (
  ez_b2 (z_X12_deepen σ h0 x1 x2) fun t_166 σ =>
  z_X12_use_170  σ h0 x1
  )
set_option maxRecDepth 100000 in
noncomputable def z_X12_use_106 (σ : ez_H) (h0 : Nat) (x1 : Int32) (x2 : Int32) : Option (Unit × ez_H) :=
  ez_bd (ez_gr σ 12 h0 53) fun t_108 =>
  ez_let ((40 : Int32) + x1) fun t_114 =>
  ez_bd (ez_ia σ 1 t_108 t_114) fun t_115 =>
  ez_bd (ez_pf σ 12 h0 51 (.inl t_115)) fun σ =>
  ez_bd (ez_pf σ 12 h0 52 (.inl x2)) fun σ =>
  ez_bd (ez_gr σ 12 h0 21) fun t_125 =>
  ez_bd (ez_gi σ 12 h0 43) fun t_129 =>
  ez_bd (ez_ia σ 1 t_125 t_129) fun t_132 =>
  ez_bd (z_X12_bit σ t_132 (3 : Int32)) fun t_134 =>
  if t_134 = (0 : Int32) then (
  z_X12_use_148  σ h0 x1 x2 (0 : Int32)
  ) else (
  ez_b2 (z_X12_comes σ h0) fun t_141 σ =>
  z_X12_use_148  σ h0 x1 x2 t_141
  )
