set_option maxRecDepth 100000 in
noncomputable def z_X12_use_69 (σ : ez_H) (h0 : Nat) (x1 : Int32) (x2 : Int32) : Option (Unit × ez_H) :=
  ez_bd (z_X12_wide σ h0) fun t_71 =>
  ez_let (t_71 - (1 : Int32)) fun t_75 =>
  if t_75 ≤ x2 then (
  z_X12_use_106  σ h0 x1 x2
  ) else (
  ez_let (x2 + (1 : Int32)) fun t_83 =>
  ez_bd (z_X12_cutOf σ h0 x1 t_83) fun t_84 =>
  ez_bd (ez_gi σ 12 h0 50) fun t_88 =>
  if t_84 ≤ t_88 then (
  z_X12_use_106  σ h0 x1 x2
  ) else (
  ez_let (x2 + (1 : Int32)) fun t_99 =>
  ez_bd (z_X12_cutOf σ h0 x1 t_99) fun t_100 =>
  ez_bd (ez_pf σ 12 h0 50 (.inl t_100)) fun σ =>
  z_X12_use_106  σ h0 x1 x2
  )
  )
set_option maxRecDepth 100000 in
noncomputable def z_X12_use (σ : ez_H) (h0 : Nat) (x1 : Int32) : Option (Unit × ez_H) :=
  ez_bd (ez_ob σ 12 h0) fun _ =>
  ez_bd (ez_gr σ 12 h0 53) fun t_1 =>
  ez_bd (ez_gr σ 12 h0 53) fun t_10 =>
  ez_bd (ez_ia σ 1 t_10 (90 : Int32)) fun t_15 =>
  ez_let ((137 : Int32) * t_15) fun t_16 =>
  ez_let (t_16 + (71 : Int32)) fun t_19 =>
  ez_nz (1000 : Int32) <|
  ez_let (t_19 - t_19 / (1000 : Int32) * (1000 : Int32)) fun t_23 =>
  ez_bd (ez_is σ 1 t_1 (90 : Int32) t_23) fun σ =>
  ez_bd (ez_gr σ 12 h0 53) fun t_26 =>
  ez_bd (ez_ia σ 1 t_26 (90 : Int32)) fun t_31 =>
  ez_bd (z_X12_wide σ h0) fun t_33 =>
  ez_nz t_33 <|
  ez_let (t_31 - t_31 / t_33 * t_33) fun t_36 =>
  ez_bd (z_X12_cutOf σ h0 x1 t_36) fun t_42 =>
  ez_bd (ez_pf σ 12 h0 49 (.inl t_42)) fun σ =>
  ez_bd (ez_pf σ 12 h0 50 (.inl (-1 : Int32))) fun σ =>
  if t_36 ≤ (0 : Int32) then (
  z_X12_use_69  σ h0 x1 t_36
  ) else (
  ez_let (t_36 - (1 : Int32)) fun t_62 =>
  ez_bd (z_X12_cutOf σ h0 x1 t_62) fun t_63 =>
  ez_bd (ez_pf σ 12 h0 50 (.inl t_63)) fun σ =>
  z_X12_use_69  σ h0 x1 t_36
  )
set_option maxRecDepth 100000 in
noncomputable def z_X12_lasts_16 (σ : ez_H) : Option (Int32 × ez_H) :=
  some ((-1 : Int32), σ)
set_option maxRecDepth 100000 in
noncomputable def z_X12_lasts_67 (σ : ez_H) (y0 : Int32) : Option (Int32 × ez_H) :=
  some (y0, σ)
set_option maxRecDepth 100000 in
noncomputable def z_X12_lasts_51 (σ : ez_H) (h0 : Nat) (x3 : Int32) : Option (Int32 × ez_H) :=
  ez_b2 (z_X12_bringBack σ h0) fun _ σ =>
  if (200 : Int32) < x3 then (
  z_X12_lasts_67  σ (-1 : Int32)
  ) else (
  z_X12_lasts_67  σ x3
  )
set_option maxRecDepth 100000 in
noncomputable def z_X12_lasts_24 (k_24 : ez_H → Nat → Int32 → Int32 → Int32 → Option (Int32 × ez_H)) (σ : ez_H) (h0 : Nat) (x1 : Int32) (x2 : Int32) (x3 : Int32) : Option (Int32 × ez_H) :=
  if (200 : Int32) < x3 then (
  z_X12_lasts_51  σ h0 x3
  ) else (
  ez_bd (z_X12_opensBy σ h0 x1 x2) fun t_34 =>
  if t_34 = (0 : Int32) then (
  z_X12_lasts_51  σ h0 x3
  ) else (
  ez_b2 (z_X12_use σ h0 x1) fun _ σ =>
  ez_let (x3 + 1) fun t_45 =>
  k_24 σ h0 x1 x2 t_45
  )
  )
set_option maxRecDepth 100000 in
noncomputable def z_X12_lasts (σ : ez_H) (h0 : Nat) (x1 : Int32) (x2 : Int32) : Option (Int32 × ez_H) :=
  ez_bd (ez_ob σ 12 h0) fun _ =>
  ez_bd (z_X12_isKey σ h0 x1) fun t_2 =>
  if t_2 = (0 : Int32) then (
  z_X12_lasts_16  σ
  ) else (
  ez_bd (z_X12_isLock σ h0 x2) fun t_10 =>
  if t_10 = (0 : Int32) then (
  z_X12_lasts_16  σ
  ) else (
  ez_b2 (z_X12_keepNow σ h0) fun _ σ =>
  ez_fix (fun _ _ _ _ _ => none) (z_X12_lasts_24 ) ez_N σ h0 x1 x2 (0 : Int32)
  )
  )
set_option maxRecDepth 100000 in
noncomputable def z_X12_later_23 (σ : ez_H) : Option (Int32 × ez_H) :=
  some ((-1 : Int32), σ)
set_option maxRecDepth 100000 in
noncomputable def z_X12_later (σ : ez_H) (h0 : Nat) (x1 : Int32) : Option (Int32 × ez_H) :=
  ez_bd (ez_ob σ 12 h0) fun _ =>
  ez_bd (z_X12_isIn σ x1 (0 : Int32) (1000 : Int32)) fun t_5 =>
  if t_5 = (0 : Int32) then (
  z_X12_later_23  σ
  ) else (
  ez_bd (ez_gi σ 12 h0 67) fun t_12 =>
  ez_let (t_12 + x1) fun t_16 =>
  if t_16 ≤ (100000 : Int32) then (
  ez_bd (ez_gi σ 12 h0 67) fun t_27 =>
  ez_let (t_27 + x1) fun t_31 =>
  ez_bd (ez_pf σ 12 h0 67 (.inl t_31)) fun σ =>
  ez_bd (ez_gi σ 12 h0 67) fun t_36 =>
  some (t_36, σ)
  ) else (
  z_X12_later_23  σ
  )
  )
set_option maxRecDepth 100000 in
noncomputable def z_X12_manyLegal_24 (σ : ez_H) (k_4 : Nat → Int32 → Int32 → Int32 → Option (Int32)) (h0 : Nat) (x1 : Int32) (x2 : Int32) (x3 : Int32) : Option (Int32) :=
  ez_let (x3 + 1) fun t_24 =>
  k_4 h0 x1 x2 t_24
set_option maxRecDepth 100000 in
noncomputable def z_X12_manyLegal_4 (σ : ez_H) (k_4 : Nat → Int32 → Int32 → Int32 → Option (Int32)) (h0 : Nat) (x1 : Int32) (x2 : Int32) (x3 : Int32) : Option (Int32) :=
  ez_bd (z_X12_bittings σ h0) fun t_6 =>
  if t_6 ≤ x3 then (
  some x2
  ) else (
  ez_bd (z_X12_isLegalBy σ h0 x3 x1) fun t_15 =>
  if t_15 = (0 : Int32) then (
  z_X12_manyLegal_24 σ k_4 h0 x1 x2 x3
  ) else (
  ez_let (x2 + 1) fun t_21 =>
  z_X12_manyLegal_24 σ k_4 h0 x1 t_21 x3
  )
  )
set_option maxRecDepth 100000 in
noncomputable def z_X12_manyLegal (σ : ez_H) (h0 : Nat) (x1 : Int32) : Option (Int32) :=
  ez_bd (ez_ob σ 12 h0) fun _ =>
  ez_fix (fun _ _ _ _ => none) (z_X12_manyLegal_4 σ) ez_N h0 x1 (0 : Int32) (0 : Int32)
set_option maxRecDepth 100000 in
noncomputable def z_X12_law_18 (σ : ez_H) (y0 : Int32) : Option (Int32) :=
  some y0
set_option maxRecDepth 100000 in
noncomputable def z_X12_law (σ : ez_H) (h0 : Nat) (x1 : Int32) : Option (Int32) :=
  ez_bd (ez_ob σ 12 h0) fun _ =>
  ez_bd (z_X12_isIn σ x1 (0 : Int32) (5 : Int32)) fun t_3 =>
  if t_3 = (0 : Int32) then (
  z_X12_law_18 σ (-1 : Int32)
  ) else (
  ez_bd (z_X12_manyLegal σ h0 x1) fun t_11 =>
  z_X12_law_18 σ t_11
  )
set_option maxRecDepth 100000 in
noncomputable def z_X12_leftOver_69 (k_18 : ez_H → Nat → Int32 → Int32 → Int32 → Option (Int32 × ez_H)) (σ : ez_H) (h0 : Nat) (x1 : Int32) (x2 : Int32) (x3 : Int32) : Option (Int32 × ez_H) :=
  ez_let (x3 + 1) fun t_69 =>
  k_18 σ h0 x1 x2 t_69
set_option maxRecDepth 100000 in
noncomputable def z_X12_leftOver_18 (k_18 : ez_H → Nat → Int32 → Int32 → Int32 → Option (Int32 × ez_H)) (σ : ez_H) (h0 : Nat) (x1 : Int32) (x2 : Int32) (x3 : Int32) : Option (Int32 × ez_H) :=
  ez_bd (z_X12_bolts σ h0) fun t_20 =>
  if t_20 ≤ x3 then (
  ez_b2 (z_X12_bringBack σ h0) fun _ σ =>
  some (x2, σ)
  ) else (
  ez_bd (z_X12_mustOf σ h0 x3) fun t_28 =>
  ez_let ((1 : Int32) <<< (x1 &&& 31)) fun t_33 =>
  ez_let (t_33 ^^^ (-1 : Int32)) fun t_35 =>
  ez_let (t_28 &&& t_35) fun t_36 =>
  if t_36 = (0 : Int32) then (
  z_X12_leftOver_69 k_18 σ h0 x1 x2 x3
  ) else (
  ez_b2 (z_X12_pinFor σ h0 x3 t_36) fun _ σ =>
  ez_bd (z_X12_opensBy σ h0 x1 x3) fun t_57 =>
  if t_57 = (0 : Int32) then (
  z_X12_leftOver_69 k_18 σ h0 x1 x2 x3
  ) else (
  ez_let ((1 : Int32) <<< (x3 &&& 31)) fun t_66 =>
  ez_let (x2 ||| t_66) fun t_67 =>
  z_X12_leftOver_69 k_18 σ h0 x1 t_67 x3
  )
  )
  )
set_option maxRecDepth 100000 in
noncomputable def z_X12_leftOver (σ : ez_H) (h0 : Nat) (x1 : Int32) : Option (Int32 × ez_H) :=
  ez_bd (ez_ob σ 12 h0) fun _ =>
  ez_bd (z_X12_isKey σ h0 x1) fun t_2 =>
  if t_2 = (0 : Int32) then (
  some ((-1 : Int32), σ)
  ) else (
  ez_b2 (z_X12_keepNow σ h0) fun _ σ =>
  ez_fix (fun _ _ _ _ _ => none) (z_X12_leftOver_18 ) ez_N σ h0 x1 (0 : Int32) (0 : Int32)
  )
set_option maxRecDepth 100000 in
noncomputable def z_X12_legal (σ : ez_H) (h0 : Nat) : Option (Int32) :=
  ez_bd (ez_ob σ 12 h0) fun _ =>
  ez_bd (ez_gr σ 12 h0 13) fun t_2 =>
  ez_bd (ez_gi σ 12 h0 43) fun t_6 =>
  ez_bd (ez_ia σ 1 t_2 t_6) fun t_9 =>
  ez_bd (z_X12_manyLegal σ h0 t_9) fun t_10 =>
  some t_10
set_option maxRecDepth 100000 in
noncomputable def z_X12_lies_25 (σ : ez_H) (y0 : Int32) : Option (Int32) :=
  some y0
set_option maxRecDepth 100000 in
noncomputable def z_X12_lies (σ : ez_H) (h0 : Nat) (x1 : Int32) : Option (Int32) :=
  ez_bd (ez_ob σ 12 h0) fun _ =>
  ez_bd (ez_gi σ 12 h0 57) fun t_3 =>
  ez_let (t_3 - (1 : Int32)) fun t_7 =>
  ez_bd (z_X12_isIn σ x1 (0 : Int32) t_7) fun t_8 =>
  if t_8 = (0 : Int32) then (
  z_X12_lies_25 σ (-2 : Int32)
  ) else (
  ez_bd (ez_gr σ 12 h0 56) fun t_15 =>
  ez_bd (ez_ia σ 1 t_15 x1) fun t_19 =>
  z_X12_lies_25 σ t_19
  )
set_option maxRecDepth 100000 in
noncomputable def z_X12_keysThatOpen_27 (σ : ez_H) (k_4 : Nat → Int32 → Int32 → Int32 → Option (Int32)) (h0 : Nat) (x1 : Int32) (x2 : Int32) (x3 : Int32) : Option (Int32) :=
  ez_let (x3 + 1) fun t_27 =>
  k_4 h0 x1 x2 t_27
set_option maxRecDepth 100000 in
noncomputable def z_X12_keysThatOpen_4 (σ : ez_H) (k_4 : Nat → Int32 → Int32 → Int32 → Option (Int32)) (h0 : Nat) (x1 : Int32) (x2 : Int32) (x3 : Int32) : Option (Int32) :=
  ez_bd (z_X12_many σ h0) fun t_6 =>
  if t_6 ≤ x3 then (
  some x2
  ) else (
  ez_bd (z_X12_opensBy σ h0 x3 x1) fun t_15 =>
  if t_15 = (0 : Int32) then (
  z_X12_keysThatOpen_27 σ k_4 h0 x1 x2 x3
  ) else (
  ez_let ((1 : Int32) <<< (x3 &&& 31)) fun t_24 =>
  ez_let (x2 ||| t_24) fun t_25 =>
  z_X12_keysThatOpen_27 σ k_4 h0 x1 t_25 x3
  )
  )
set_option maxRecDepth 100000 in
noncomputable def z_X12_keysThatOpen (σ : ez_H) (h0 : Nat) (x1 : Int32) : Option (Int32) :=
  ez_bd (ez_ob σ 12 h0) fun _ =>
  ez_fix (fun _ _ _ _ => none) (z_X12_keysThatOpen_4 σ) ez_N h0 x1 (0 : Int32) (0 : Int32)
set_option maxRecDepth 100000 in
noncomputable def z_X12_partsIn_4 (σ : ez_H) (k_4 : Nat → Int32 → Int32 → Int32 → Option (Int32)) (h0 : Nat) (x1 : Int32) (x2 : Int32) (x3 : Int32) : Option (Int32) :=
  ez_bd (z_X12_wide σ h0) fun t_6 =>
  if t_6 ≤ x3 then (
  some x2
  ) else (
  ez_bd (z_X12_partsOf σ h0 x1 x3) fun t_16 =>
  ez_bd (z_X12_bitsOf σ t_16) fun t_19 =>
  ez_let (x2 + t_19) fun t_22 =>
  ez_let (x3 + 1) fun t_24 =>
  k_4 h0 x1 t_22 t_24
  )
set_option maxRecDepth 100000 in
noncomputable def z_X12_partsIn (σ : ez_H) (h0 : Nat) (x1 : Int32) : Option (Int32) :=
  ez_bd (ez_ob σ 12 h0) fun _ =>
  ez_fix (fun _ _ _ _ => none) (z_X12_partsIn_4 σ) ez_N h0 x1 (0 : Int32) (0 : Int32)
set_option maxRecDepth 100000 in
noncomputable def z_X12_lock (σ : ez_H) (h0 : Nat) (x1 : Int32) (x2 : Int32) : Option (Int32) :=
  ez_bd (ez_ob σ 12 h0) fun _ =>
  ez_bd (z_X12_isLock σ h0 x1) fun t_2 =>
  if t_2 = (0 : Int32) then (
  some (-1 : Int32)
  ) else (
  if x2 = 0 then (
  ez_bd (z_X12_partsIn σ h0 x1) fun t_42 =>
  some t_42
  ) else (
  if x2 = 1 then (
  ez_bd (z_X12_keysThatOpen σ h0 x1) fun t_48 =>
  some t_48
  ) else (
  if x2 = 2 then (
  ez_bd (z_X12_mustOf σ h0 x1) fun t_54 =>
  some t_54
  ) else (
  if x2 = 3 then (
  ez_bd (z_X12_neverOf σ h0 x1) fun t_60 =>
  some t_60
  ) else (
  some (-1 : Int32)
  ))))
  )
set_option maxRecDepth 100000 in
noncomputable def z_X12_lose_30 (σ : ez_H) (y0 : Int32) : Option (Int32 × ez_H) :=
  some (y0, σ)
set_option maxRecDepth 100000 in
noncomputable def z_X12_lose_28 (σ : ez_H) : Option (Int32 × ez_H) :=
  z_X12_lose_30  σ (-3 : Int32)
set_option maxRecDepth 100000 in
noncomputable def z_X12_lose (σ : ez_H) (h0 : Nat) (x1 : Int32) : Option (Int32 × ez_H) :=
  ez_bd (ez_ob σ 12 h0) fun _ =>
  ez_bd (z_X12_isKey σ h0 x1) fun t_2 =>
  if t_2 = (0 : Int32) then (
  z_X12_lose_28  σ
  ) else (
  ez_bd (z_X12_holderOf σ h0 x1) fun t_10 =>
  if t_10 = (-2 : Int32) then (
  z_X12_lose_28  σ
  ) else (
  ez_b2 (z_X12_hand σ h0 x1 (-2 : Int32)) fun t_22 σ =>
  z_X12_lose_30  σ t_22
  )
  )
set_option maxRecDepth 100000 in
noncomputable def z_X12_master_93 (σ : ez_H) (y0 : Int32) : Option (Int32) :=
  some y0
set_option maxRecDepth 100000 in
noncomputable def z_X12_master_65 (σ : ez_H) (k_18 : Nat → Int32 → Int32 → Int32 → Int32 → Option (Int32)) (h0 : Nat) (x1 : Int32) (x2 : Int32) (x3 : Int32) (x4 : Int32) : Option (Int32) :=
  ez_let (x4 + 1) fun t_65 =>
  k_18 h0 x1 x2 x3 t_65
set_option maxRecDepth 100000 in
noncomputable def z_X12_master_18 (σ : ez_H) (k_18 : Nat → Int32 → Int32 → Int32 → Int32 → Option (Int32)) (h0 : Nat) (x1 : Int32) (x2 : Int32) (x3 : Int32) (x4 : Int32) : Option (Int32) :=
  ez_bd (z_X12_bittings σ h0) fun t_21 =>
  if t_21 ≤ x4 then (
  if x1 = (0 : Int32) then (
  z_X12_master_93 σ x2
  ) else (
  if x1 = (1 : Int32) then (
  z_X12_master_93 σ x3
  ) else (
  ez_bd (z_X12_openedBy σ h0 x2) fun t_90 =>
  z_X12_master_93 σ t_90
  )
  )
  ) else (
  ez_bd (z_X12_isLegal σ h0 x4) fun t_30 =>
  if t_30 = (0 : Int32) then (
  z_X12_master_65 σ k_18 h0 x1 x2 x3 x4
  ) else (
  ez_bd (z_X12_openedBy σ h0 x4) fun t_39 =>
  ez_bd (z_X12_bitsOf σ t_39) fun t_42 =>
  if x3 < t_42 then (
  ez_bd (z_X12_openedBy σ h0 x4) fun t_58 =>
  ez_bd (z_X12_bitsOf σ t_58) fun t_61 =>
  z_X12_master_65 σ k_18 h0 x1 x4 t_61 x4
  ) else (
  z_X12_master_65 σ k_18 h0 x1 x2 x3 x4
  )
  )
  )
set_option maxRecDepth 100000 in
noncomputable def z_X12_master (σ : ez_H) (h0 : Nat) (x1 : Int32) : Option (Int32) :=
  ez_bd (ez_ob σ 12 h0) fun _ =>
  ez_bd (z_X12_isIn σ x1 (0 : Int32) (2 : Int32)) fun t_3 =>
  if t_3 = (0 : Int32) then (
  some (-1 : Int32)
  ) else (
  ez_fix (fun _ _ _ _ _ => none) (z_X12_master_18 σ) ez_N h0 x1 (-1 : Int32) (-1 : Int32) (0 : Int32)
  )
set_option maxRecDepth 100000 in
noncomputable def z_X12_divisor_4 (σ : ez_H) (k_4 : Int32 → Int32 → Option (Int32)) (x2 : Int32) (x3 : Int32) : Option (Int32) :=
  if x3 ≤ (0 : Int32) then (
  some x2
  ) else (
  ez_nz x3 <|
  ez_let (x2 - x2 / x3 * x3) fun t_10 =>
  k_4 x3 t_10
  )
set_option maxRecDepth 100000 in
noncomputable def z_X12_divisor (σ : ez_H) (x0 : Int32) (x1 : Int32) : Option (Int32) :=
  ez_fix (fun _ _ => none) (z_X12_divisor_4 σ) ez_N x0 x1
set_option maxRecDepth 100000 in
noncomputable def z_X12_odds_17 (σ : ez_H) : Option (Int32) :=
  some (-1 : Int32)
set_option maxRecDepth 100000 in
noncomputable def z_X12_odds_43 (σ : ez_H) (x3 : Int32) (x4 : Int32) (y0 : Int32) : Option (Int32) :=
  ez_bd (z_X12_divisor σ x4 x3) fun t_46 =>
  ez_nz t_46 <|
  ez_let (y0 / t_46) fun t_49 =>
  some t_49
set_option maxRecDepth 100000 in
noncomputable def z_X12_odds (σ : ez_H) (h0 : Nat) (x1 : Int32) (x2 : Int32) : Option (Int32) :=
  ez_bd (ez_ob σ 12 h0) fun _ =>
  ez_bd (z_X12_isLock σ h0 x1) fun t_2 =>
  if t_2 = (0 : Int32) then (
  z_X12_odds_17 σ 
  ) else (
  ez_bd (z_X12_isIn σ x2 (0 : Int32) (1 : Int32)) fun t_11 =>
  if t_11 = (0 : Int32) then (
  z_X12_odds_17 σ 
  ) else (
  ez_let ((1 : Int32) <<< (x1 &&& 31)) fun t_22 =>
  ez_bd (z_X12_openers σ h0 t_22) fun t_23 =>
  ez_bd (z_X12_legal σ h0) fun t_28 =>
  if x2 = (0 : Int32) then (
  z_X12_odds_43 σ t_23 t_28 t_23
  ) else (
  z_X12_odds_43 σ t_23 t_28 t_28
  )
  )
  )
set_option maxRecDepth 100000 in
noncomputable def z_X12_opens_16 (σ : ez_H) : Option (Int32) :=
  some (-1 : Int32)
set_option maxRecDepth 100000 in
noncomputable def z_X12_opens_32 (σ : ez_H) (y0 : Int32) : Option (Int32) :=
  some y0
set_option maxRecDepth 100000 in
noncomputable def z_X12_opens (σ : ez_H) (h0 : Nat) (x1 : Int32) (x2 : Int32) : Option (Int32) :=
  ez_bd (ez_ob σ 12 h0) fun _ =>
  ez_bd (z_X12_isLegal σ h0 x1) fun t_2 =>
  if t_2 = (0 : Int32) then (
  z_X12_opens_16 σ 
  ) else (
  ez_bd (z_X12_isLock σ h0 x2) fun t_10 =>
  if t_10 = (0 : Int32) then (
  z_X12_opens_16 σ 
  ) else (
  ez_bd (z_X12_doesOpen σ h0 x1 x2) fun t_21 =>
  if t_21 = (0 : Int32) then (
  z_X12_opens_32 σ (0 : Int32)
  ) else (
  z_X12_opens_32 σ (1 : Int32)
  )
  )
  )
set_option maxRecDepth 100000 in
noncomputable def z_X12_part_42 (σ : ez_H) : Option (Int32 × ez_H) :=
  some ((-1 : Int32), σ)
set_option maxRecDepth 100000 in
noncomputable def z_X12_part (σ : ez_H) (h0 : Nat) (x1 : Int32) (x2 : Int32) (x3 : Int32) : Option (Int32 × ez_H) :=
  ez_bd (ez_ob σ 12 h0) fun _ =>
  ez_bd (z_X12_isLock σ h0 x1) fun t_2 =>
  if t_2 = (0 : Int32) then (
  z_X12_part_42  σ
  ) else (
  ez_bd (z_X12_isChamber σ h0 x2) fun t_10 =>
  if t_10 = (0 : Int32) then (
  z_X12_part_42  σ
  ) else (
  ez_bd (z_X12_deep σ h0) fun t_19 =>
  ez_let (t_19 - (1 : Int32)) fun t_23 =>
  ez_bd (z_X12_isIn σ x3 (0 : Int32) t_23) fun t_24 =>
  if t_24 = (0 : Int32) then (
  z_X12_part_42  σ
  ) else (
  ez_bd (z_X12_partsOf σ h0 x1 x2) fun t_33 =>
  ez_let ((1 : Int32) <<< (x3 &&& 31)) fun t_38 =>
  if t_33 = t_38 then (
  z_X12_part_42  σ
  ) else (
  ez_b2 (z_X12_keepAct σ h0) fun _ σ =>
  ez_bd (ez_gr σ 12 h0 53) fun t_49 =>
  ez_let ((5 : Int32) * x1) fun t_56 =>
  ez_let ((56 : Int32) + t_56) fun t_57 =>
  ez_let (t_57 + x2) fun t_59 =>
  ez_bd (ez_ia σ 1 t_49 t_59) fun t_61 =>
  ez_let ((1 : Int32) <<< (x3 &&& 31)) fun t_64 =>
  ez_let (t_61 ^^^ t_64) fun t_65 =>
  ez_bd (ez_is σ 1 t_49 t_59 t_65) fun σ =>
  ez_bd (z_X12_partsOf σ h0 x1 x2) fun t_70 =>
  some (t_70, σ)
  )
  )
  )
  )
set_option maxRecDepth 100000 in
noncomputable def z_X12_parts_26 (σ : ez_H) (y0 : Int32) : Option (Int32) :=
  some y0
set_option maxRecDepth 100000 in
noncomputable def z_X12_parts_25 (σ : ez_H) : Option (Int32) :=
  z_X12_parts_26 σ (-1 : Int32)
set_option maxRecDepth 100000 in
noncomputable def z_X12_parts (σ : ez_H) (h0 : Nat) (x1 : Int32) (x2 : Int32) : Option (Int32) :=
  ez_bd (ez_ob σ 12 h0) fun _ =>
  ez_bd (z_X12_isLock σ h0 x1) fun t_2 =>
  if t_2 = (0 : Int32) then (
  z_X12_parts_25 σ 
  ) else (
  ez_bd (z_X12_isChamber σ h0 x2) fun t_10 =>
  if t_10 = (0 : Int32) then (
  z_X12_parts_25 σ 
  ) else (
  ez_bd (z_X12_partsOf σ h0 x1 x2) fun t_19 =>
  z_X12_parts_26 σ t_19
  )
  )
set_option maxRecDepth 100000 in
noncomputable def z_X12_person (σ : ez_H) (h0 : Nat) (x1 : Int32) (x2 : Int32) : Option (Int32) :=
  ez_bd (ez_ob σ 12 h0) fun _ =>
  ez_bd (z_X12_isPerson σ h0 x1) fun t_2 =>
  if t_2 = (0 : Int32) then (
  some (-1 : Int32)
  ) else (
  if x2 = 0 then (
  ez_bd (ez_gr σ 12 h0 53) fun t_37 =>
  ez_let ((86 : Int32) + x1) fun t_43 =>
  ez_bd (ez_ia σ 1 t_37 t_43) fun t_44 =>
  some t_44
  ) else (
  if x2 = 1 then (
  ez_bd (z_X12_keysOf σ h0 x1) fun t_48 =>
  some t_48
  ) else (
  if x2 = 2 then (
  ez_bd (z_X12_reachOf σ h0 x1) fun t_54 =>
  some t_54
  ) else (
  some (-1 : Int32)
  )))
  )
set_option maxRecDepth 100000 in
noncomputable def z_X12_pin_27 (σ : ez_H) : Option (Int32 × ez_H) :=
  some ((-1 : Int32), σ)
set_option maxRecDepth 100000 in
noncomputable def z_X12_pin (σ : ez_H) (h0 : Nat) (x1 : Int32) (x2 : Int32) : Option (Int32 × ez_H) :=
  ez_bd (ez_ob σ 12 h0) fun _ =>
  ez_bd (z_X12_isLock σ h0 x1) fun t_2 =>
  if t_2 = (0 : Int32) then (
  z_X12_pin_27  σ
  ) else (
  if x2 = (0 : Int32) then (
  z_X12_pin_27  σ
  ) else (
  ez_bd (z_X12_many σ h0) fun t_15 =>
  ez_let ((1 : Int32) <<< (t_15 &&& 31)) fun t_18 =>
  ez_let (t_18 - (1 : Int32)) fun t_20 =>
  ez_let (t_20 ^^^ (-1 : Int32)) fun t_22 =>
  ez_let (x2 &&& t_22) fun t_23 =>
  if t_23 = (0 : Int32) then (
  ez_b2 (z_X12_keepAct σ h0) fun _ σ =>
  ez_b2 (z_X12_pinFor σ h0 x1 x2) fun _ σ =>
  ez_bd (z_X12_partsIn σ h0 x1) fun t_41 =>
  some (t_41, σ)
  ) else (
  z_X12_pin_27  σ
  )
  )
  )
set_option maxRecDepth 100000 in
noncomputable def z_X12_sign_22 (σ : ez_H) (y0 : Int32) : Option (Int32) :=
  some y0
set_option maxRecDepth 100000 in
noncomputable def z_X12_sign (σ : ez_H) (h0 : Nat) (x1 : Int32) : Option (Int32) :=
  ez_bd (ez_ob σ 12 h0) fun _ =>
  ez_bd (ez_gi σ 12 h0 3) fun t_2 =>
  if t_2 ≤ x1 then (
  z_X12_sign_22 σ (0 : Int32)
  ) else (
  ez_bd (ez_gr σ 12 h0 1) fun t_9 =>
  ez_bd (ez_ia σ 0 t_9 x1) fun t_13 =>
  ez_let (t_13 &&& (255 : Int32)) fun t_17 =>
  z_X12_sign_22 σ t_17
  )
set_option maxRecDepth 100000 in
noncomputable def z_X12_isKept_199 (σ : ez_H) (y0 : Int32) : Option (Int32) :=
  ez_nr .boolean y0 <|
  some y0
set_option maxRecDepth 100000 in
noncomputable def z_X12_isKept_194 (σ : ez_H) : Option (Int32) :=
  z_X12_isKept_199 σ (1 : Int32)
set_option maxRecDepth 100000 in
noncomputable def z_X12_isKept_101 (σ : ez_H) (x0 : Int64) (y0 : Int32) : Option (Int32) :=
  if y0 = (0 : Int32) then (
  ez_let (lg_cmp x0 (1836413812 : Int64)) fun t_110 =>
  if t_110 = (0 : Int32) then (
  z_X12_isKept_194 σ 
  ) else (
  ez_let (lg_cmp x0 (474148660594 : Int64)) fun t_118 =>
  if t_118 = (0 : Int32) then (
  z_X12_isKept_194 σ 
  ) else (
  ez_let (lg_cmp x0 (2003132786 : Int64)) fun t_126 =>
  if t_126 = (0 : Int32) then (
  z_X12_isKept_194 σ 
  ) else (
  ez_let (lg_cmp x0 (1685217655 : Int64)) fun t_134 =>
  if t_134 = (0 : Int32) then (
  z_X12_isKept_194 σ 
  ) else (
  ez_let (lg_cmp x0 (6518132 : Int64)) fun t_142 =>
  if t_142 = (0 : Int32) then (
  z_X12_isKept_194 σ 
  ) else (
  ez_let (lg_cmp x0 (108187867505765 : Int64)) fun t_150 =>
  if t_150 = (0 : Int32) then (
  z_X12_isKept_194 σ 
  ) else (
  ez_let (lg_cmp x0 (1970496883 : Int64)) fun t_158 =>
  if t_158 = (0 : Int32) then (
  z_X12_isKept_194 σ 
  ) else (
  ez_let (lg_cmp x0 (27980790350636402 : Int64)) fun t_166 =>
  if t_166 = (0 : Int32) then (
  z_X12_isKept_194 σ 
  ) else (
  ez_let (lg_cmp x0 (28530 : Int64)) fun t_174 =>
  if t_174 = (0 : Int32) then (
  z_X12_isKept_194 σ 
  ) else (
  ez_let (lg_cmp x0 (6385252 : Int64)) fun t_182 =>
  if t_182 = (0 : Int32) then (
  z_X12_isKept_194 σ 
  ) else (
  ez_let (lg_cmp x0 (7237492 : Int64)) fun t_190 =>
  if t_190 = (0 : Int32) then (
  z_X12_isKept_194 σ 
  ) else (
  z_X12_isKept_199 σ (0 : Int32)
  )
  )
  )
  )
  )
  )
  )
  )
  )
  )
  )
  ) else (
  z_X12_isKept_194 σ 
  )
set_option maxRecDepth 100000 in
noncomputable def z_X12_isKept_96 (σ : ez_H) (x0 : Int64) : Option (Int32) :=
  z_X12_isKept_101 σ x0 (1 : Int32)
set_option maxRecDepth 100000 in
noncomputable def z_X12_isKept (σ : ez_H) (x0 : Int64) : Option (Int32) :=
  ez_let (lg_cmp x0 (7163082329762919027 : Int64)) fun t_4 =>
  if t_4 = (0 : Int32) then (
  z_X12_isKept_96 σ x0
  ) else (
  ez_let (lg_cmp x0 (110386841151603 : Int64)) fun t_12 =>
  if t_12 = (0 : Int32) then (
  z_X12_isKept_96 σ x0
  ) else (
  ez_let (lg_cmp x0 (1937007984 : Int64)) fun t_20 =>
  if t_20 = (0 : Int32) then (
  z_X12_isKept_96 σ x0
  ) else (
  ez_let (lg_cmp x0 (7038329 : Int64)) fun t_28 =>
  if t_28 = (0 : Int32) then (
  z_X12_isKept_96 σ x0
  ) else (
  ez_let (lg_cmp x0 (1819239275 : Int64)) fun t_36 =>
  if t_36 = (0 : Int32) then (
  z_X12_isKept_96 σ x0
  ) else (
  ez_let (lg_cmp x0 (1919905645 : Int64)) fun t_44 =>
  if t_44 = (0 : Int32) then (
  z_X12_isKept_96 σ x0
  ) else (
  ez_let (lg_cmp x0 (1685024626 : Int64)) fun t_52 =>
  if t_52 = (0 : Int32) then (
  z_X12_isKept_96 σ x0
  ) else (
  ez_let (lg_cmp x0 (1718775661 : Int64)) fun t_60 =>
  if t_60 = (0 : Int32) then (
  z_X12_isKept_96 σ x0
  ) else (
  ez_let (lg_cmp x0 (29807 : Int64)) fun t_68 =>
  if t_68 = (0 : Int32) then (
  z_X12_isKept_96 σ x0
  ) else (
  ez_let (lg_cmp x0 (123581014175598 : Int64)) fun t_76 =>
  if t_76 = (0 : Int32) then (
  z_X12_isKept_96 σ x0
  ) else (
  ez_let (lg_cmp x0 (26990 : Int64)) fun t_84 =>
  if t_84 = (0 : Int32) then (
  z_X12_isKept_96 σ x0
  ) else (
  ez_let (lg_cmp x0 (448545973363 : Int64)) fun t_92 =>
  if t_92 = (0 : Int32) then (
  z_X12_isKept_96 σ x0
  ) else (
  z_X12_isKept_101 σ x0 (0 : Int32)
  )
  )
  )
  )
  )
  )
  )
  )
  )
  )
  )
  )
set_option maxRecDepth 100000 in
noncomputable def z_X12_isDigit_17 (σ : ez_H) (y0 : Int32) : Option (Int32) :=
  ez_nr .boolean y0 <|
  some y0
set_option maxRecDepth 100000 in
noncomputable def z_X12_isDigit_16 (σ : ez_H) : Option (Int32) :=
  z_X12_isDigit_17 σ (0 : Int32)
set_option maxRecDepth 100000 in
noncomputable def z_X12_isDigit (σ : ez_H) (x0 : Int32) : Option (Int32) :=
  if x0 < (48 : Int32) then (
  z_X12_isDigit_16 σ 
  ) else (
  if (57 : Int32) < x0 then (
  z_X12_isDigit_16 σ 
  ) else (
  z_X12_isDigit_17 σ (1 : Int32)
  )
  )
set_option maxRecDepth 100000 in
noncomputable def z_X12_isSign_71 (σ : ez_H) (y0 : Int32) : Option (Int32) :=
  ez_nr .boolean y0 <|
  some y0
set_option maxRecDepth 100000 in
noncomputable def z_X12_isSign_66 (σ : ez_H) : Option (Int32) :=
  z_X12_isSign_71 σ (1 : Int32)
set_option maxRecDepth 100000 in
noncomputable def z_X12_isSign (σ : ez_H) (x0 : Int32) : Option (Int32) :=
  if x0 = (59 : Int32) then (
  z_X12_isSign_66 σ 
  ) else (
  if x0 = (40 : Int32) then (
  z_X12_isSign_66 σ 
  ) else (
  if x0 = (41 : Int32) then (
  z_X12_isSign_66 σ 
  ) else (
  if x0 = (60 : Int32) then (
  z_X12_isSign_66 σ 
  ) else (
  if x0 = (62 : Int32) then (
  z_X12_isSign_66 σ 
  ) else (
  if x0 = (61 : Int32) then (
  z_X12_isSign_66 σ 
  ) else (
  if x0 = (43 : Int32) then (
  z_X12_isSign_66 σ 
  ) else (
  if x0 = (45 : Int32) then (
  z_X12_isSign_66 σ 
  ) else (
  if x0 = (42 : Int32) then (
  z_X12_isSign_66 σ 
  ) else (
  if x0 = (47 : Int32) then (
  z_X12_isSign_66 σ 
  ) else (
  if x0 = (37 : Int32) then (
  z_X12_isSign_66 σ 
  ) else (
  z_X12_isSign_71 σ (0 : Int32)
  )
  )
  )
  )
  )
  )
  )
  )
  )
  )
  )
set_option maxRecDepth 100000 in
noncomputable def z_X12_goOn_377 (σ : ez_H) : Option (Unit × ez_H) :=
  some ((), σ)
set_option maxRecDepth 100000 in
noncomputable def z_X12_goOn_374 (σ : ez_H) (y0 : Nat) (y1 : Int32) : Option (Unit × ez_H) :=
  ez_bd (ez_pf σ 12 y0 8 (.inl y1)) fun σ =>
  z_X12_goOn_377  σ
set_option maxRecDepth 100000 in
noncomputable def z_X12_goOn_355 (σ : ez_H) (y0 : Nat) (y1 : Int32) : Option (Unit × ez_H) :=
  ez_bd (ez_pf σ 12 y0 8 (.inl y1)) fun σ =>
  z_X12_goOn_377  σ
set_option maxRecDepth 100000 in
noncomputable def z_X12_goOn_350 (σ : ez_H) (y0 : Nat) : Option (Unit × ez_H) :=
  z_X12_goOn_355  σ y0 (1 : Int32)
set_option maxRecDepth 100000 in
noncomputable def z_X12_goOn_309 (k_259 : ez_H → Nat → Option (Unit × ez_H)) (σ : ez_H) (h0 : Nat) : Option (Unit × ez_H) :=
  ez_bd (ez_gi σ 12 h0 7) fun t_311 =>
  ez_let (t_311 + (1 : Int32)) fun t_315 =>
  ez_bd (ez_pf σ 12 h0 7 (.inl t_315)) fun σ =>
  k_259 σ h0
set_option maxRecDepth 100000 in
noncomputable def z_X12_goOn_259 (k_259 : ez_H → Nat → Option (Unit × ez_H)) (σ : ez_H) (h0 : Nat) : Option (Unit × ez_H) :=
  ez_bd (ez_gi σ 12 h0 7) fun t_261 =>
  ez_bd (z_X12_sign σ h0 t_261) fun t_264 =>
  ez_bd (z_X12_isDigit σ t_264) fun t_267 =>
  if t_267 = (0 : Int32) then (
  ez_bd (ez_gi σ 12 h0 7) fun t_324 =>
  ez_bd (ez_gi σ 12 h0 6) fun t_328 =>
  ez_let (t_324 - t_328) fun t_331 =>
  if (4 : Int32) < t_331 then (
  z_X12_goOn_350  σ h0
  ) else (
  ez_bd (ez_gi σ 12 h0 7) fun t_338 =>
  ez_bd (z_X12_sign σ h0 t_338) fun t_341 =>
  ez_bd (z_X12_isLetter σ t_341) fun t_344 =>
  if t_344 = (0 : Int32) then (
  z_X12_goOn_355  σ h0 (4 : Int32)
  ) else (
  z_X12_goOn_350  σ h0
  )
  )
  ) else (
  ez_bd (ez_gi σ 12 h0 7) fun t_274 =>
  ez_bd (ez_gi σ 12 h0 6) fun t_278 =>
  ez_let (t_274 - t_278) fun t_281 =>
  if (4 : Int32) ≤ t_281 then (
  z_X12_goOn_309 k_259 σ h0
  ) else (
  ez_bd (ez_gi σ 12 h0 9) fun t_290 =>
  ez_let ((10 : Int32) * t_290) fun t_293 =>
  ez_bd (ez_gi σ 12 h0 7) fun t_296 =>
  ez_bd (z_X12_sign σ h0 t_296) fun t_299 =>
  ez_let (t_293 + t_299) fun t_302 =>
  ez_let (t_302 - (48 : Int32)) fun t_305 =>
  ez_bd (ez_pf σ 12 h0 9 (.inl t_305)) fun σ =>
  z_X12_goOn_309 k_259 σ h0
  )
  )
set_option maxRecDepth 100000 in
noncomputable def z_X12_goOn_233 (σ : ez_H) (y0 : Nat) (y1 : Int32) : Option (Unit × ez_H) :=
  ez_bd (ez_pf σ 12 y0 8 (.inl y1)) fun σ =>
  z_X12_goOn_377  σ
set_option maxRecDepth 100000 in
noncomputable def z_X12_goOn_199 (σ : ez_H) (h0 : Nat) : Option (Unit × ez_H) :=
  ez_bd (ez_gi σ 12 h0 7) fun t_201 =>
  ez_bd (ez_gi σ 12 h0 6) fun t_205 =>
  ez_let (t_201 - t_205) fun t_208 =>
  if t_208 ≤ (8 : Int32) then (
  ez_bd (ez_gl σ 12 h0 10) fun t_219 =>
  ez_bd (z_X12_isKept σ t_219) fun t_222 =>
  if t_222 = (0 : Int32) then (
  z_X12_goOn_233  σ h0 (2 : Int32)
  ) else (
  z_X12_goOn_233  σ h0 (3 : Int32)
  )
  ) else (
  z_X12_goOn_233  σ h0 (1 : Int32)
  )
set_option maxRecDepth 100000 in
noncomputable def z_X12_goOn_156 (k_156 : ez_H → Nat → Int32 → Option (Unit × ez_H)) (σ : ez_H) (h0 : Nat) (x2 : Int32) : Option (Unit × ez_H) :=
  ez_bd (ez_gi σ 12 h0 7) fun t_158 =>
  if t_158 ≤ x2 then (
  z_X12_goOn_199  σ h0
  ) else (
  ez_bd (ez_gi σ 12 h0 6) fun t_166 =>
  ez_let (t_166 + (8 : Int32)) fun t_171 =>
  if t_171 ≤ x2 then (
  z_X12_goOn_199  σ h0
  ) else (
  ez_bd (ez_gl σ 12 h0 10) fun t_177 =>
  ez_let (t_177 <<< (Int32.toInt64 (8 : Int32) &&& 63)) fun t_182 =>
  ez_bd (z_X12_sign σ h0 x2) fun t_185 =>
  ez_let (Int32.toInt64 t_185) fun t_188 =>
  ez_let (t_182 ||| t_188) fun t_189 =>
  ez_bd (ez_pf σ 12 h0 10 (.inr (.inl t_189))) fun σ =>
  ez_let (x2 + 1) fun t_193 =>
  k_156 σ h0 t_193
  )
  )
set_option maxRecDepth 100000 in
noncomputable def z_X12_goOn_119 (k_119 : ez_H → Nat → Option (Unit × ez_H)) (σ : ez_H) (h0 : Nat) : Option (Unit × ez_H) :=
  ez_bd (ez_gi σ 12 h0 7) fun t_121 =>
  ez_bd (z_X12_sign σ h0 t_121) fun t_124 =>
  ez_bd (z_X12_isLetter σ t_124) fun t_127 =>
  if t_127 = (0 : Int32) then (
  ez_bd (ez_pf σ 12 h0 10 (.inr (.inl (0 : Int64)))) fun σ =>
  ez_bd (ez_gi σ 12 h0 6) fun t_152 =>
  ez_fix (fun _ _ _ => none) (z_X12_goOn_156 ) ez_N σ h0 t_152
  ) else (
  ez_bd (ez_gi σ 12 h0 7) fun t_135 =>
  ez_let (t_135 + (1 : Int32)) fun t_139 =>
  ez_bd (ez_pf σ 12 h0 7 (.inl t_139)) fun σ =>
  k_119 σ h0
  )
set_option maxRecDepth 100000 in
noncomputable def z_X12_goOn_58 (σ : ez_H) (h0 : Nat) : Option (Unit × ez_H) :=
  ez_bd (ez_gi σ 12 h0 6) fun t_60 =>
  ez_bd (z_X12_sign σ h0 t_60) fun t_63 =>
  ez_bd (ez_gi σ 12 h0 6) fun t_69 =>
  ez_let (t_69 + (1 : Int32)) fun t_73 =>
  ez_bd (ez_pf σ 12 h0 7 (.inl t_73)) fun σ =>
  ez_bd (ez_gi σ 12 h0 6) fun t_78 =>
  ez_bd (ez_gi σ 12 h0 3) fun t_82 =>
  if t_78 < t_82 then (
  ez_bd (z_X12_isLetter σ t_63) fun t_113 =>
  if t_113 = (0 : Int32) then (
  ez_bd (z_X12_isDigit σ t_63) fun t_240 =>
  if t_240 = (0 : Int32) then (
  ez_bd (z_X12_isSign σ t_63) fun t_363 =>
  if t_363 = (0 : Int32) then (
  z_X12_goOn_374  σ h0 (1 : Int32)
  ) else (
  z_X12_goOn_374  σ h0 (5 : Int32)
  )
  ) else (
  ez_bd (ez_pf σ 12 h0 9 (.inl (0 : Int32))) fun σ =>
  ez_bd (ez_gi σ 12 h0 6) fun t_253 =>
  ez_bd (ez_pf σ 12 h0 7 (.inl t_253)) fun σ =>
  ez_fix (fun _ _ => none) (z_X12_goOn_259 ) ez_N σ h0
  )
  ) else (
  ez_fix (fun _ _ => none) (z_X12_goOn_119 ) ez_N σ h0
  )
  ) else (
  ez_bd (ez_pf σ 12 h0 8 (.inl (0 : Int32))) fun σ =>
  ez_bd (ez_gi σ 12 h0 3) fun t_95 =>
  ez_bd (ez_pf σ 12 h0 6 (.inl t_95)) fun σ =>
  ez_bd (ez_gi σ 12 h0 3) fun t_103 =>
  ez_bd (ez_pf σ 12 h0 7 (.inl t_103)) fun σ =>
  z_X12_goOn_377  σ
  )
set_option maxRecDepth 100000 in
noncomputable def z_X12_goOn_45 (k_8 : ez_H → Nat → Option (Unit × ez_H)) (σ : ez_H) (h0 : Nat) : Option (Unit × ez_H) :=
  ez_bd (ez_gi σ 12 h0 6) fun t_47 =>
  ez_let (t_47 + (1 : Int32)) fun t_51 =>
  ez_bd (ez_pf σ 12 h0 6 (.inl t_51)) fun σ =>
  k_8 σ h0
set_option maxRecDepth 100000 in
noncomputable def z_X12_goOn_8 (k_8 : ez_H → Nat → Option (Unit × ez_H)) (σ : ez_H) (h0 : Nat) : Option (Unit × ez_H) :=
  ez_bd (ez_gi σ 12 h0 6) fun t_9 =>
  ez_bd (ez_gi σ 12 h0 3) fun t_13 =>
  if t_13 ≤ t_9 then (
  z_X12_goOn_58  σ h0
  ) else (
  ez_bd (ez_gi σ 12 h0 6) fun t_21 =>
  ez_bd (z_X12_sign σ h0 t_21) fun t_24 =>
  if t_24 = (32 : Int32) then (
  z_X12_goOn_45 k_8 σ h0
  ) else (
  ez_bd (ez_gi σ 12 h0 6) fun t_34 =>
  ez_bd (z_X12_sign σ h0 t_34) fun t_37 =>
  if t_37 = (10 : Int32) then (
  z_X12_goOn_45 k_8 σ h0
  ) else (
  z_X12_goOn_58  σ h0
  )
  )
  )
set_option maxRecDepth 100000 in
noncomputable def z_X12_goOn (σ : ez_H) (h0 : Nat) : Option (Unit × ez_H) :=
  ez_bd (ez_ob σ 12 h0) fun _ =>
  ez_bd (ez_gi σ 12 h0 7) fun t_2 =>
  ez_bd (ez_pf σ 12 h0 6 (.inl t_2)) fun σ =>
  ez_fix (fun _ _ => none) (z_X12_goOn_8 ) ez_N σ h0
set_option maxRecDepth 100000 in
noncomputable def z_X12_isGood_12 (σ : ez_H) (y0 : Int32) : Option (Int32) :=
  ez_nr .boolean y0 <|
  some y0
set_option maxRecDepth 100000 in
noncomputable def z_X12_isGood (σ : ez_H) (h0 : Nat) : Option (Int32) :=
  ez_bd (ez_ob σ 12 h0) fun _ =>
  ez_bd (ez_gi σ 12 h0 4) fun t_1 =>
  if t_1 = (0 : Int32) then (
  z_X12_isGood_12 σ (1 : Int32)
  ) else (
  z_X12_isGood_12 σ (0 : Int32)
  )
set_option maxRecDepth 100000 in
noncomputable def z_X12_isWord_22 (σ : ez_H) (y0 : Int32) : Option (Int32) :=
  ez_nr .boolean y0 <|
  some y0
set_option maxRecDepth 100000 in
noncomputable def z_X12_isWord_21 (σ : ez_H) : Option (Int32) :=
  z_X12_isWord_22 σ (0 : Int32)
set_option maxRecDepth 100000 in
noncomputable def z_X12_isWord (σ : ez_H) (h0 : Nat) (x1 : Int64) : Option (Int32) :=
  ez_bd (ez_ob σ 12 h0) fun _ =>
  ez_bd (ez_gi σ 12 h0 8) fun t_1 =>
  if t_1 = (3 : Int32) then (
  ez_bd (ez_gl σ 12 h0 10) fun t_9 =>
  ez_let (lg_cmp t_9 x1) fun t_13 =>
  if t_13 = (0 : Int32) then (
  z_X12_isWord_22 σ (1 : Int32)
  ) else (
  z_X12_isWord_21 σ 
  )
  ) else (
  z_X12_isWord_21 σ 
  )
set_option maxRecDepth 100000 in
noncomputable def z_X12_isLate_45 (σ : ez_H) (y0 : Int32) : Option (Int32) :=
  ez_nr .boolean y0 <|
  some y0
set_option maxRecDepth 100000 in
noncomputable def z_X12_isLate_40 (σ : ez_H) : Option (Int32) :=
  z_X12_isLate_45 σ (1 : Int32)
set_option maxRecDepth 100000 in
noncomputable def z_X12_isLate (σ : ez_H) (h0 : Nat) (x1 : Int32) : Option (Int32) :=
  ez_bd (ez_ob σ 12 h0) fun _ =>
  ez_bd (ez_gr σ 12 h0 21) fun t_1 =>
  ez_bd (ez_gi σ 12 h0 44) fun t_5 =>
  ez_bd (ez_ia σ 1 t_1 t_5) fun t_8 =>
  ez_bd (z_X12_bit σ t_8 x1) fun t_10 =>
  if t_10 = (0 : Int32) then (
  ez_bd (ez_gr σ 12 h0 14) fun t_17 =>
  ez_bd (ez_gi σ 12 h0 44) fun t_21 =>
  ez_bd (ez_ia σ 1 t_17 t_21) fun t_24 =>
  if (0 : Int32) < t_24 then (
  z_X12_isLate_40 σ 
  ) else (
  ez_bd (ez_gr σ 12 h0 15) fun t_29 =>
  ez_bd (ez_gi σ 12 h0 44) fun t_33 =>
  ez_bd (ez_ia σ 1 t_29 t_33) fun t_36 =>
  if t_36 ≤ (0 : Int32) then (
  z_X12_isLate_45 σ (0 : Int32)
  ) else (
  z_X12_isLate_40 σ 
  )
  )
  ) else (
  z_X12_isLate_40 σ 
  )
set_option maxRecDepth 100000 in
noncomputable def z_X12_isFull_217 (σ : ez_H) : Option (Int32) :=
  some (0 : Int32)
set_option maxRecDepth 100000 in
noncomputable def z_X12_isFull_274 (σ : ez_H) (y0 : Int32) : Option (Int32) :=
  ez_nr .boolean y0 <|
  some y0
set_option maxRecDepth 100000 in
noncomputable def z_X12_isFull_269 (σ : ez_H) : Option (Int32) :=
  z_X12_isFull_274 σ (1 : Int32)
set_option maxRecDepth 100000 in
noncomputable def z_X12_isFull_196 (σ : ez_H) (y0 : Int32) : Option (Int32) :=
  ez_nr .boolean y0 <|
  some y0
set_option maxRecDepth 100000 in
noncomputable def z_X12_isFull_167 (σ : ez_H) (y0 : Int32) : Option (Int32) :=
  ez_nr .boolean y0 <|
  some y0
set_option maxRecDepth 100000 in
noncomputable def z_X12_isFull_137 (σ : ez_H) (y0 : Int32) : Option (Int32) :=
  ez_nr .boolean y0 <|
  some y0
set_option maxRecDepth 100000 in
noncomputable def z_X12_isFull_107 (σ : ez_H) (y0 : Int32) : Option (Int32) :=
  ez_nr .boolean y0 <|
  some y0
set_option maxRecDepth 100000 in
noncomputable def z_X12_isFull_77 (σ : ez_H) (y0 : Int32) : Option (Int32) :=
  ez_nr .boolean y0 <|
  some y0
set_option maxRecDepth 100000 in
noncomputable def z_X12_isFull (σ : ez_H) (h0 : Nat) : Option (Int32) :=
  ez_bd (ez_ob σ 12 h0) fun _ =>
  ez_bd (z_X12_isWord σ h0 (7163082329762919027 : Int64)) fun t_4 =>
  if t_4 = (0 : Int32) then (
  ez_bd (z_X12_isWord σ h0 (110386841151603 : Int64)) fun t_20 =>
  if t_20 = (0 : Int32) then (
  ez_bd (z_X12_isWord σ h0 (1937007984 : Int64)) fun t_36 =>
  if t_36 = (0 : Int32) then (
  ez_bd (z_X12_isWord σ h0 (7038329 : Int64)) fun t_52 =>
  if t_52 = (0 : Int32) then (
  ez_bd (z_X12_isWord σ h0 (1819239275 : Int64)) fun t_82 =>
  if t_82 = (0 : Int32) then (
  ez_bd (z_X12_isWord σ h0 (1919905645 : Int64)) fun t_112 =>
  if t_112 = (0 : Int32) then (
  ez_bd (z_X12_isWord σ h0 (1685024626 : Int64)) fun t_142 =>
  if t_142 = (0 : Int32) then (
  ez_bd (z_X12_isWord σ h0 (123581014175598 : Int64)) fun t_172 =>
  if t_172 = (0 : Int32) then (
  ez_bd (z_X12_isWord σ h0 (1836413812 : Int64)) fun t_201 =>
  if t_201 = (0 : Int32) then (
  ez_bd (z_X12_isWord σ h0 (474148660594 : Int64)) fun t_211 =>
  if t_211 = (0 : Int32) then (
  ez_bd (z_X12_isWord σ h0 (2003132786 : Int64)) fun t_223 =>
  if t_223 = (0 : Int32) then (
  ez_bd (z_X12_isWord σ h0 (1685217655 : Int64)) fun t_247 =>
  if t_247 = (0 : Int32) then (
  z_X12_isFull_269 σ 
  ) else (
  ez_bd (ez_gr σ 12 h0 21) fun t_254 =>
  ez_bd (ez_gi σ 12 h0 44) fun t_258 =>
  ez_bd (ez_ia σ 1 t_254 t_258) fun t_261 =>
  ez_bd (z_X12_bit σ t_261 (4 : Int32)) fun t_263 =>
  if t_263 = (0 : Int32) then (
  z_X12_isFull_274 σ (0 : Int32)
  ) else (
  z_X12_isFull_269 σ 
  )
  )
  ) else (
  ez_bd (ez_gr σ 12 h0 21) fun t_230 =>
  ez_bd (ez_gi σ 12 h0 44) fun t_234 =>
  ez_bd (ez_ia σ 1 t_230 t_234) fun t_237 =>
  ez_bd (z_X12_bit σ t_237 (3 : Int32)) fun t_239 =>
  ez_nr .boolean t_239 <|
  some t_239
  )
  ) else (
  z_X12_isFull_217 σ 
  )
  ) else (
  z_X12_isFull_217 σ 
  )
  ) else (
  ez_bd (ez_gr σ 12 h0 18) fun t_179 =>
  ez_bd (ez_gi σ 12 h0 44) fun t_183 =>
  ez_bd (ez_ia σ 1 t_179 t_183) fun t_186 =>
  if t_186 = (4 : Int32) then (
  z_X12_isFull_196 σ (1 : Int32)
  ) else (
  z_X12_isFull_196 σ (0 : Int32)
  )
  )
  ) else (
  ez_bd (ez_gr σ 12 h0 17) fun t_149 =>
  ez_bd (ez_gi σ 12 h0 44) fun t_153 =>
  ez_bd (ez_ia σ 1 t_149 t_153) fun t_156 =>
  if t_156 = (8 : Int32) then (
  z_X12_isFull_167 σ (1 : Int32)
  ) else (
  z_X12_isFull_167 σ (0 : Int32)
  )
  )
  ) else (
  ez_bd (ez_gr σ 12 h0 16) fun t_119 =>
  ez_bd (ez_gi σ 12 h0 44) fun t_123 =>
  ez_bd (ez_ia σ 1 t_119 t_123) fun t_126 =>
  if t_126 = (6 : Int32) then (
  z_X12_isFull_137 σ (1 : Int32)
  ) else (
  z_X12_isFull_137 σ (0 : Int32)
  )
  )
  ) else (
  ez_bd (ez_gr σ 12 h0 15) fun t_89 =>
  ez_bd (ez_gi σ 12 h0 44) fun t_93 =>
  ez_bd (ez_ia σ 1 t_89 t_93) fun t_96 =>
  if t_96 = (6 : Int32) then (
  z_X12_isFull_107 σ (1 : Int32)
  ) else (
  z_X12_isFull_107 σ (0 : Int32)
  )
  )
  ) else (
  ez_bd (ez_gr σ 12 h0 14) fun t_59 =>
  ez_bd (ez_gi σ 12 h0 44) fun t_63 =>
  ez_bd (ez_ia σ 1 t_59 t_63) fun t_66 =>
  if t_66 = (8 : Int32) then (
  z_X12_isFull_77 σ (1 : Int32)
  ) else (
  z_X12_isFull_77 σ (0 : Int32)
  )
  )
  ) else (
  ez_bd (z_X12_isLate σ h0 (2 : Int32)) fun t_44 =>
  ez_nr .boolean t_44 <|
  some t_44
  )
  ) else (
  ez_bd (z_X12_isLate σ h0 (1 : Int32)) fun t_28 =>
  ez_nr .boolean t_28 <|
  some t_28
  )
  ) else (
  ez_bd (z_X12_isLate σ h0 (0 : Int32)) fun t_12 =>
  ez_nr .boolean t_12 <|
  some t_12
  )
set_option maxRecDepth 100000 in
noncomputable def z_X12_fails (σ : ez_H) (h0 : Nat) (x1 : Int32) (x2 : Int32) : Option (Unit × ez_H) :=
  ez_bd (ez_ob σ 12 h0) fun _ =>
  ez_bd (ez_gi σ 12 h0 4) fun t_1 =>
  if t_1 ≤ (0 : Int32) then (
  ez_bd (ez_pf σ 12 h0 4 (.inl x1)) fun σ =>
  ez_bd (ez_pf σ 12 h0 5 (.inl x2)) fun σ =>
  some ((), σ)
  ) else (
  some ((), σ)
  )
set_option maxRecDepth 100000 in
noncomputable def z_X12_misplaced_14 (σ : ez_H) (h0 : Nat) (y0 : Nat) (y1 : Int32) : Option (Unit × ez_H) :=
  ez_bd (ez_gi σ 12 h0 6) fun t_15 =>
  ez_b2 (z_X12_fails σ y0 y1 t_15) fun _ σ =>
  some ((), σ)
set_option maxRecDepth 100000 in
noncomputable def z_X12_misplaced (σ : ez_H) (h0 : Nat) : Option (Unit × ez_H) :=
  ez_bd (ez_ob σ 12 h0) fun _ =>
  ez_bd (ez_gi σ 12 h0 8) fun t_2 =>
  if t_2 = (1 : Int32) then (
  z_X12_misplaced_14  σ h0 h0 (1 : Int32)
  ) else (
  z_X12_misplaced_14  σ h0 h0 (2 : Int32)
  )
set_option maxRecDepth 100000 in
noncomputable def z_X12_numeral_110 (σ : ez_H) (y0 : Int32) : Option (Int32 × ez_H) :=
  some (y0, σ)
set_option maxRecDepth 100000 in
noncomputable def z_X12_numeral_97 (σ : ez_H) (h0 : Nat) (x1 : Int32) (x4 : Int32) : Option (Int32 × ez_H) :=
  ez_bd (z_X12_isGood σ h0) fun t_98 =>
  if t_98 = (0 : Int32) then (
  z_X12_numeral_110  σ x1
  ) else (
  z_X12_numeral_110  σ x4
  )
set_option maxRecDepth 100000 in
noncomputable def z_X12_numeral_80 (σ : ez_H) (h0 : Nat) (x1 : Int32) : Option (Int32 × ez_H) :=
  ez_bd (ez_gi σ 12 h0 9) fun t_81 =>
  ez_bd (z_X12_isGood σ h0) fun t_87 =>
  if t_87 = (0 : Int32) then (
  z_X12_numeral_97  σ h0 x1 t_81
  ) else (
  ez_b2 (z_X12_goOn σ h0) fun _ σ =>
  z_X12_numeral_97  σ h0 x1 t_81
  )
set_option maxRecDepth 100000 in
noncomputable def z_X12_numeral_53 (σ : ez_H) (h0 : Nat) (x1 : Int32) (x3 : Int32) : Option (Int32 × ez_H) :=
  ez_bd (z_X12_isGood σ h0) fun t_54 =>
  if t_54 = (0 : Int32) then (
  z_X12_numeral_80  σ h0 x1
  ) else (
  ez_bd (ez_gi σ 12 h0 9) fun t_62 =>
  ez_bd (z_X12_bit σ x3 t_62) fun t_65 =>
  if t_65 = (0 : Int32) then (
  z_X12_numeral_80  σ h0 x1
  ) else (
  ez_bd (ez_gi σ 12 h0 6) fun t_74 =>
  ez_b2 (z_X12_fails σ h0 (3 : Int32) t_74) fun _ σ =>
  z_X12_numeral_80  σ h0 x1
  )
  )
set_option maxRecDepth 100000 in
noncomputable def z_X12_numeral_44 (σ : ez_H) (h0 : Nat) (x1 : Int32) (x3 : Int32) : Option (Int32 × ez_H) :=
  ez_bd (ez_gi σ 12 h0 6) fun t_47 =>
  ez_b2 (z_X12_fails σ h0 (4 : Int32) t_47) fun _ σ =>
  z_X12_numeral_53  σ h0 x1 x3
set_option maxRecDepth 100000 in
noncomputable def z_X12_numeral_21 (σ : ez_H) (h0 : Nat) (x1 : Int32) (x2 : Int32) (x3 : Int32) : Option (Int32 × ez_H) :=
  ez_bd (z_X12_isGood σ h0) fun t_22 =>
  if t_22 = (0 : Int32) then (
  z_X12_numeral_53  σ h0 x1 x3
  ) else (
  ez_bd (ez_gi σ 12 h0 9) fun t_29 =>
  if t_29 < x1 then (
  z_X12_numeral_44  σ h0 x1 x3
  ) else (
  ez_bd (ez_gi σ 12 h0 9) fun t_37 =>
  if t_37 ≤ x2 then (
  z_X12_numeral_53  σ h0 x1 x3
  ) else (
  z_X12_numeral_44  σ h0 x1 x3
  )
  )
  )
set_option maxRecDepth 100000 in
noncomputable def z_X12_numeral (σ : ez_H) (h0 : Nat) (x1 : Int32) (x2 : Int32) (x3 : Int32) : Option (Int32 × ez_H) :=
  ez_bd (ez_ob σ 12 h0) fun _ =>
  ez_bd (z_X12_isGood σ h0) fun t_1 =>
  if t_1 = (0 : Int32) then (
  some (x1, σ)
  ) else (
  ez_bd (ez_gi σ 12 h0 8) fun t_10 =>
  if t_10 = (4 : Int32) then (
  z_X12_numeral_21  σ h0 x1 x2 x3
  ) else (
  ez_b2 (z_X12_misplaced σ h0) fun _ σ =>
  z_X12_numeral_21  σ h0 x1 x2 x3
  )
  )
set_option maxRecDepth 100000 in
noncomputable def z_X12_once (σ : ez_H) (h0 : Nat) (x1 : Int32) (x2 : Int32) (x3 : Int32) : Option (Int32 × ez_H) :=
  ez_bd (ez_ob σ 12 h0) fun _ =>
  ez_bd (ez_gr σ 12 h0 21) fun t_1 =>
  ez_bd (ez_gi σ 12 h0 44) fun t_5 =>
  ez_bd (ez_ia σ 1 t_1 t_5) fun t_9 =>
  ez_let ((1 : Int32) <<< (x1 &&& 31)) fun t_12 =>
  ez_let (t_9 ||| t_12) fun t_13 =>
  ez_bd (ez_is σ 1 t_1 t_5 t_13) fun σ =>
  ez_b2 (z_X12_numeral σ h0 x2 x3 (0 : Int32)) fun t_19 σ =>
  some (t_19, σ)
set_option maxRecDepth 100000 in
noncomputable def z_X12_here_34 (σ : ez_H) (k_3 : Nat → Nat → Int32 → Int32 → Int32 → Option (Int32)) (h0 : Nat) (h1 : Nat) (x2 : Int32) (x3 : Int32) (x4 : Int32) : Option (Int32) :=
  ez_let (x4 + 1) fun t_34 =>
  k_3 h0 h1 x2 x3 t_34
set_option maxRecDepth 100000 in
noncomputable def z_X12_here_3 (σ : ez_H) (k_3 : Nat → Nat → Int32 → Int32 → Int32 → Option (Int32)) (h0 : Nat) (h1 : Nat) (x2 : Int32) (x3 : Int32) (x4 : Int32) : Option (Int32) :=
  if x3 ≤ x4 then (
  some (-1 : Int32)
  ) else (
  ez_bd (ez_gi σ 12 h0 8) fun t_10 =>
  if t_10 = (2 : Int32) then (
  ez_let (x2 + x4) fun t_21 =>
  ez_bd (ez_la σ h1 t_21) fun t_22 =>
  ez_bd (ez_gl σ 12 h0 10) fun t_24 =>
  ez_let (lg_cmp t_22 t_24) fun t_27 =>
  if t_27 = (0 : Int32) then (
  some x4
  ) else (
  z_X12_here_34 σ k_3 h0 h1 x2 x3 x4
  )
  ) else (
  z_X12_here_34 σ k_3 h0 h1 x2 x3 x4
  )
  )
set_option maxRecDepth 100000 in
noncomputable def z_X12_here (σ : ez_H) (h0 : Nat) (h1 : Nat) (x2 : Int32) (x3 : Int32) : Option (Int32) :=
  ez_bd (ez_ob σ 12 h0) fun _ =>
  ez_fix (fun _ _ _ _ _ => none) (z_X12_here_3 σ) ez_N h0 h1 x2 x3 (0 : Int32)
set_option maxRecDepth 100000 in
noncomputable def z_X12_keyHere (σ : ez_H) (h0 : Nat) : Option (Int32) :=
  ez_bd (ez_ob σ 12 h0) fun _ =>
  ez_bd (ez_gr σ 12 h0 33) fun t_2 =>
  ez_bd (ez_gi σ 12 h0 44) fun t_8 =>
  ez_let ((8 : Int32) * t_8) fun t_11 =>
  ez_bd (ez_gr σ 12 h0 14) fun t_13 =>
  ez_bd (ez_gi σ 12 h0 44) fun t_17 =>
  ez_bd (ez_ia σ 1 t_13 t_17) fun t_20 =>
  ez_bd (z_X12_here σ h0 t_2 t_11 t_20) fun t_21 =>
  some t_21
set_option maxRecDepth 100000 in
noncomputable def z_X12_fresh_53 (σ : ez_H) (x2 : Int64) : Option (Int64 × ez_H) :=
  some (x2, σ)
set_option maxRecDepth 100000 in
noncomputable def z_X12_fresh_37 (σ : ez_H) (h0 : Nat) : Option (Int64 × ez_H) :=
  ez_bd (ez_gl σ 12 h0 10) fun t_38 =>
  ez_bd (z_X12_isGood σ h0) fun t_43 =>
  if t_43 = (0 : Int32) then (
  z_X12_fresh_53  σ t_38
  ) else (
  ez_b2 (z_X12_goOn σ h0) fun _ σ =>
  z_X12_fresh_53  σ t_38
  )
set_option maxRecDepth 100000 in
noncomputable def z_X12_fresh (σ : ez_H) (h0 : Nat) (x1 : Int32) : Option (Int64 × ez_H) :=
  ez_bd (ez_ob σ 12 h0) fun _ =>
  ez_bd (z_X12_isGood σ h0) fun t_1 =>
  if t_1 = (0 : Int32) then (
  some ((0 : Int64), σ)
  ) else (
  ez_bd (ez_gi σ 12 h0 8) fun t_10 =>
  if t_10 = (2 : Int32) then (
  if x1 < (0 : Int32) then (
  z_X12_fresh_37  σ h0
  ) else (
  ez_bd (ez_gi σ 12 h0 6) fun t_31 =>
  ez_b2 (z_X12_fails σ h0 (3 : Int32) t_31) fun _ σ =>
  z_X12_fresh_37  σ h0
  )
  ) else (
  ez_b2 (z_X12_misplaced σ h0) fun _ σ =>
  z_X12_fresh_37  σ h0
  )
  )
set_option maxRecDepth 100000 in
noncomputable def z_X12_held_19 (σ : ez_H) (y0 : Int32) : Option (Int32) :=
  some y0
set_option maxRecDepth 100000 in
noncomputable def z_X12_held (σ : ez_H) (x0 : Int32) (x1 : Int32) (x2 : Int32) : Option (Int32) :=
  if x1 ≤ x0 then (
  if x0 ≤ x2 then (
  z_X12_held_19 σ x0
  ) else (
  z_X12_held_19 σ x2
  )
  ) else (
  z_X12_held_19 σ x1
  )
set_option maxRecDepth 100000 in
noncomputable def z_X12_readKey_180 (σ : ez_H) (h0 : Nat) : Option (Unit × ez_H) :=
  ez_bd (ez_gr σ 12 h0 14) fun t_181 =>
  ez_bd (ez_gi σ 12 h0 44) fun t_185 =>
  ez_bd (ez_ia σ 1 t_181 t_185) fun t_189 =>
  ez_let (t_189 + (1 : Int32)) fun t_191 =>
  ez_bd (ez_is σ 1 t_181 t_185 t_191) fun σ =>
  some ((), σ)
set_option maxRecDepth 100000 in
noncomputable def z_X12_readKey_153 (k_41 : ez_H → Nat → Int32 → Int32 → Option (Unit × ez_H)) (σ : ez_H) (h0 : Nat) (x1 : Int32) (x2 : Int32) (x4 : Int32) (y0 : Int32) : Option (Unit × ez_H) :=
  ez_bd (ez_gr σ 12 h0 22) fun t_156 =>
  ez_let ((5 : Int32) * x1) fun t_161 =>
  ez_let (t_161 + x2) fun t_163 =>
  ez_b2 (z_X12_numeral σ h0 x4 y0 (0 : Int32)) fun t_170 σ =>
  ez_bd (ez_is σ 1 t_156 t_163 t_170) fun σ =>
  ez_let (x2 + 1) fun t_174 =>
  k_41 σ h0 x1 t_174
set_option maxRecDepth 100000 in
noncomputable def z_X12_readKey_107 (k_41 : ez_H → Nat → Int32 → Int32 → Option (Unit × ez_H)) (σ : ez_H) (h0 : Nat) (x1 : Int32) (x2 : Int32) (x3 : Int32) (y0 : Int32) : Option (Unit × ez_H) :=
  if x2 = (0 : Int32) then (
  ez_bd (ez_gr σ 12 h0 12) fun t_114 =>
  ez_bd (ez_gi σ 12 h0 44) fun t_118 =>
  ez_bd (ez_ia σ 1 t_114 t_118) fun t_121 =>
  ez_let (t_121 - (1 : Int32)) fun t_123 =>
  z_X12_readKey_153 k_41 σ h0 x1 x2 y0 t_123
  ) else (
  ez_bd (ez_gr σ 12 h0 13) fun t_129 =>
  ez_bd (ez_gi σ 12 h0 44) fun t_133 =>
  ez_bd (ez_ia σ 1 t_129 t_133) fun t_136 =>
  ez_let (x3 + t_136) fun t_137 =>
  ez_bd (ez_gr σ 12 h0 12) fun t_140 =>
  ez_bd (ez_gi σ 12 h0 44) fun t_144 =>
  ez_bd (ez_ia σ 1 t_140 t_144) fun t_147 =>
  ez_let (t_147 - (1 : Int32)) fun t_149 =>
  ez_bd (z_X12_held σ t_137 (0 : Int32) t_149) fun t_150 =>
  z_X12_readKey_153 k_41 σ h0 x1 x2 y0 t_150
  )
set_option maxRecDepth 100000 in
noncomputable def z_X12_readKey_81 (k_41 : ez_H → Nat → Int32 → Int32 → Option (Unit × ez_H)) (σ : ez_H) (h0 : Nat) (x1 : Int32) (x2 : Int32) (y0 : Int32) : Option (Unit × ez_H) :=
  if x2 = (0 : Int32) then (
  z_X12_readKey_107 k_41 σ h0 x1 x2 y0 (0 : Int32)
  ) else (
  ez_bd (ez_gr σ 12 h0 13) fun t_92 =>
  ez_bd (ez_gi σ 12 h0 44) fun t_96 =>
  ez_bd (ez_ia σ 1 t_92 t_96) fun t_99 =>
  ez_let (y0 - t_99) fun t_100 =>
  ez_bd (z_X12_held σ t_100 (0 : Int32) (6 : Int32)) fun t_104 =>
  z_X12_readKey_107 k_41 σ h0 x1 x2 y0 t_104
  )
set_option maxRecDepth 100000 in
noncomputable def z_X12_readKey_41 (k_41 : ez_H → Nat → Int32 → Int32 → Option (Unit × ez_H)) (σ : ez_H) (h0 : Nat) (x1 : Int32) (x2 : Int32) : Option (Unit × ez_H) :=
  ez_bd (ez_gr σ 12 h0 11) fun t_43 =>
  ez_bd (ez_gi σ 12 h0 44) fun t_47 =>
  ez_bd (ez_ia σ 1 t_43 t_47) fun t_50 =>
  if t_50 ≤ x2 then (
  z_X12_readKey_180  σ h0
  ) else (
  ez_bd (z_X12_isGood σ h0) fun t_55 =>
  if t_55 = (0 : Int32) then (
  z_X12_readKey_180  σ h0
  ) else (
  if x2 = (0 : Int32) then (
  z_X12_readKey_81 k_41 σ h0 x1 x2 (0 : Int32)
  ) else (
  ez_bd (ez_gr σ 12 h0 22) fun t_70 =>
  ez_let ((5 : Int32) * x1) fun t_75 =>
  ez_let (t_75 + x2) fun t_77 =>
  ez_let (t_77 - (1 : Int32)) fun t_79 =>
  ez_bd (ez_ia σ 1 t_70 t_79) fun t_80 =>
  z_X12_readKey_81 k_41 σ h0 x1 x2 t_80
  )
  )
  )
set_option maxRecDepth 100000 in
noncomputable def z_X12_readKey (σ : ez_H) (h0 : Nat) : Option (Unit × ez_H) :=
  ez_bd (ez_ob σ 12 h0) fun _ =>
  ez_bd (ez_gi σ 12 h0 44) fun t_3 =>
  ez_let ((8 : Int32) * t_3) fun t_6 =>
  ez_bd (ez_gr σ 12 h0 14) fun t_8 =>
  ez_bd (ez_gi σ 12 h0 44) fun t_12 =>
  ez_bd (ez_ia σ 1 t_8 t_12) fun t_15 =>
  ez_let (t_6 + t_15) fun t_16 =>
  ez_bd (ez_gr σ 12 h0 33) fun t_19 =>
  ez_bd (z_X12_keyHere σ h0) fun t_25 =>
  ez_b2 (z_X12_fresh σ h0 t_25) fun t_28 σ =>
  ez_bd (ez_lst σ t_19 t_16 t_28) fun σ =>
  ez_bd (ez_gr σ 12 h0 28) fun t_33 =>
  ez_bd (ez_is σ 1 t_33 t_16 (-1 : Int32)) fun σ =>
  ez_fix (fun _ _ _ _ => none) (z_X12_readKey_41 ) ez_N σ h0 t_16 (0 : Int32)
set_option maxRecDepth 100000 in
noncomputable def z_X12_lockHere (σ : ez_H) (h0 : Nat) : Option (Int32) :=
  ez_bd (ez_ob σ 12 h0) fun _ =>
  ez_bd (ez_gr σ 12 h0 34) fun t_2 =>
  ez_bd (ez_gi σ 12 h0 44) fun t_8 =>
  ez_let ((6 : Int32) * t_8) fun t_11 =>
  ez_bd (ez_gr σ 12 h0 15) fun t_13 =>
  ez_bd (ez_gi σ 12 h0 44) fun t_17 =>
  ez_bd (ez_ia σ 1 t_13 t_17) fun t_20 =>
  ez_bd (z_X12_here σ h0 t_2 t_11 t_20) fun t_21 =>
  some t_21
set_option maxRecDepth 100000 in
noncomputable def z_X12_isSignHere_25 (σ : ez_H) (y0 : Int32) : Option (Int32) :=
  ez_nr .boolean y0 <|
  some y0
set_option maxRecDepth 100000 in
noncomputable def z_X12_isSignHere_24 (σ : ez_H) : Option (Int32) :=
  z_X12_isSignHere_25 σ (0 : Int32)
set_option maxRecDepth 100000 in
noncomputable def z_X12_isSignHere (σ : ez_H) (h0 : Nat) (x1 : Int32) : Option (Int32) :=
  ez_bd (ez_ob σ 12 h0) fun _ =>
  ez_bd (ez_gi σ 12 h0 8) fun t_1 =>
  if t_1 = (5 : Int32) then (
  ez_bd (ez_gi σ 12 h0 6) fun t_10 =>
  ez_bd (z_X12_sign σ h0 t_10) fun t_13 =>
  if t_13 = x1 then (
  z_X12_isSignHere_25 σ (1 : Int32)
  ) else (
  z_X12_isSignHere_24 σ 
  )
  ) else (
  z_X12_isSignHere_24 σ 
  )
set_option maxRecDepth 100000 in
noncomputable def z_X12_readLock_136 (σ : ez_H) (h0 : Nat) : Option (Unit × ez_H) :=
  ez_bd (ez_gr σ 12 h0 15) fun t_137 =>
  ez_bd (ez_gi σ 12 h0 44) fun t_141 =>
  ez_bd (ez_ia σ 1 t_137 t_141) fun t_145 =>
  ez_let (t_145 + (1 : Int32)) fun t_147 =>
  ez_bd (ez_is σ 1 t_137 t_141 t_147) fun σ =>
  some ((), σ)
set_option maxRecDepth 100000 in
noncomputable def z_X12_readLock_119 (k_34 : ez_H → Nat → Int32 → Int32 → Option (Unit × ez_H)) (σ : ez_H) (h0 : Nat) (x1 : Int32) (x2 : Int32) (x3 : Int32) : Option (Unit × ez_H) :=
  ez_bd (ez_gr σ 12 h0 23) fun t_120 =>
  ez_let ((5 : Int32) * x1) fun t_125 =>
  ez_let (t_125 + x2) fun t_127 =>
  ez_bd (ez_is σ 1 t_120 t_127 x3) fun σ =>
  ez_let (x2 + 1) fun t_130 =>
  k_34 σ h0 x1 t_130
set_option maxRecDepth 100000 in
noncomputable def z_X12_readLock_74 (k_34 : ez_H → Nat → Int32 → Int32 → Option (Unit × ez_H)) (k_74 : ez_H → Nat → Int32 → Int32 → Int32 → Option (Unit × ez_H)) (σ : ez_H) (h0 : Nat) (x1 : Int32) (x2 : Int32) (x3 : Int32) : Option (Unit × ez_H) :=
  ez_bd (z_X12_isGood σ h0) fun t_75 =>
  if t_75 = (0 : Int32) then (
  z_X12_readLock_119 k_34 σ h0 x1 x2 x3
  ) else (
  ez_bd (z_X12_isSignHere σ h0 (47 : Int32)) fun t_84 =>
  if t_84 = (0 : Int32) then (
  z_X12_readLock_119 k_34 σ h0 x1 x2 x3
  ) else (
  ez_b2 (z_X12_goOn σ h0) fun _ σ =>
  ez_bd (ez_gr σ 12 h0 12) fun t_99 =>
  ez_bd (ez_gi σ 12 h0 44) fun t_103 =>
  ez_bd (ez_ia σ 1 t_99 t_103) fun t_106 =>
  ez_let (t_106 - (1 : Int32)) fun t_108 =>
  ez_b2 (z_X12_numeral σ h0 (0 : Int32) t_108 x3) fun t_110 σ =>
  ez_let ((1 : Int32) <<< (t_110 &&& 31)) fun t_113 =>
  ez_let (x3 ||| t_113) fun t_114 =>
  k_74 σ h0 x1 x2 t_114
  )
  )
set_option maxRecDepth 100000 in
noncomputable def z_X12_readLock_34 (k_34 : ez_H → Nat → Int32 → Int32 → Option (Unit × ez_H)) (σ : ez_H) (h0 : Nat) (x1 : Int32) (x2 : Int32) : Option (Unit × ez_H) :=
  ez_bd (ez_gr σ 12 h0 11) fun t_36 =>
  ez_bd (ez_gi σ 12 h0 44) fun t_40 =>
  ez_bd (ez_ia σ 1 t_36 t_40) fun t_43 =>
  if t_43 ≤ x2 then (
  z_X12_readLock_136  σ h0
  ) else (
  ez_bd (z_X12_isGood σ h0) fun t_48 =>
  if t_48 = (0 : Int32) then (
  z_X12_readLock_136  σ h0
  ) else (
  ez_bd (ez_gr σ 12 h0 12) fun t_58 =>
  ez_bd (ez_gi σ 12 h0 44) fun t_62 =>
  ez_bd (ez_ia σ 1 t_58 t_62) fun t_65 =>
  ez_let (t_65 - (1 : Int32)) fun t_67 =>
  ez_b2 (z_X12_numeral σ h0 (0 : Int32) t_67 (0 : Int32)) fun t_69 σ =>
  ez_let ((1 : Int32) <<< (t_69 &&& 31)) fun t_72 =>
  ez_fix (fun _ _ _ _ _ => none) (z_X12_readLock_74 k_34) ez_N σ h0 x1 x2 t_72
  )
  )
set_option maxRecDepth 100000 in
noncomputable def z_X12_readLock (σ : ez_H) (h0 : Nat) : Option (Unit × ez_H) :=
  ez_bd (ez_ob σ 12 h0) fun _ =>
  ez_bd (ez_gi σ 12 h0 44) fun t_3 =>
  ez_let ((6 : Int32) * t_3) fun t_6 =>
  ez_bd (ez_gr σ 12 h0 15) fun t_8 =>
  ez_bd (ez_gi σ 12 h0 44) fun t_12 =>
  ez_bd (ez_ia σ 1 t_8 t_12) fun t_15 =>
  ez_let (t_6 + t_15) fun t_16 =>
  ez_bd (ez_gr σ 12 h0 34) fun t_19 =>
  ez_bd (z_X12_lockHere σ h0) fun t_25 =>
  ez_b2 (z_X12_fresh σ h0 t_25) fun t_28 σ =>
  ez_bd (ez_lst σ t_19 t_16 t_28) fun σ =>
  ez_fix (fun _ _ _ _ => none) (z_X12_readLock_34 ) ez_N σ h0 t_16 (0 : Int32)
set_option maxRecDepth 100000 in
noncomputable def z_X12_roomHere (σ : ez_H) (h0 : Nat) : Option (Int32) :=
  ez_bd (ez_ob σ 12 h0) fun _ =>
  ez_bd (ez_gr σ 12 h0 35) fun t_2 =>
  ez_bd (ez_gi σ 12 h0 44) fun t_8 =>
  ez_let ((6 : Int32) * t_8) fun t_11 =>
  ez_bd (ez_gr σ 12 h0 16) fun t_13 =>
  ez_bd (ez_gi σ 12 h0 44) fun t_17 =>
  ez_bd (ez_ia σ 1 t_13 t_17) fun t_20 =>
  ez_bd (z_X12_here σ h0 t_2 t_11 t_20) fun t_21 =>
  some t_21
set_option maxRecDepth 100000 in
noncomputable def z_X12_readRoom (σ : ez_H) (h0 : Nat) : Option (Unit × ez_H) :=
  ez_bd (ez_ob σ 12 h0) fun _ =>
  ez_bd (ez_gr σ 12 h0 35) fun t_1 =>
  ez_bd (ez_gi σ 12 h0 44) fun t_7 =>
  ez_let ((6 : Int32) * t_7) fun t_10 =>
  ez_bd (ez_gr σ 12 h0 16) fun t_12 =>
  ez_bd (ez_gi σ 12 h0 44) fun t_16 =>
  ez_bd (ez_ia σ 1 t_12 t_16) fun t_19 =>
  ez_let (t_10 + t_19) fun t_20 =>
  ez_bd (z_X12_roomHere σ h0) fun t_23 =>
  ez_b2 (z_X12_fresh σ h0 t_23) fun t_26 σ =>
  ez_bd (ez_lst σ t_1 t_20 t_26) fun σ =>
  ez_bd (ez_gr σ 12 h0 16) fun t_31 =>
  ez_bd (ez_gi σ 12 h0 44) fun t_35 =>
  ez_bd (ez_ia σ 1 t_31 t_35) fun t_39 =>
  ez_let (t_39 + (1 : Int32)) fun t_41 =>
  ez_bd (ez_is σ 1 t_31 t_35 t_41) fun σ =>
  some ((), σ)
set_option maxRecDepth 100000 in
noncomputable def z_X12_must_23 (σ : ez_H) : Option (Unit × ez_H) :=
  some ((), σ)
set_option maxRecDepth 100000 in
noncomputable def z_X12_must (σ : ez_H) (h0 : Nat) (x1 : Int32) : Option (Unit × ez_H) :=
  ez_bd (ez_ob σ 12 h0) fun _ =>
  ez_bd (z_X12_isGood σ h0) fun t_1 =>
  if t_1 = (0 : Int32) then (
  some ((), σ)
  ) else (
  if x1 = (0 : Int32) then (
  ez_b2 (z_X12_misplaced σ h0) fun _ σ =>
  z_X12_must_23  σ
  ) else (
  ez_b2 (z_X12_goOn σ h0) fun _ σ =>
  z_X12_must_23  σ
  )
  )
set_option maxRecDepth 100000 in
noncomputable def z_X12_known_73 (σ : ez_H) (y0 : Int32) : Option (Int32 × ez_H) :=
  some (y0, σ)
set_option maxRecDepth 100000 in
noncomputable def z_X12_known_64 (σ : ez_H) (x1 : Int32) : Option (Int32 × ez_H) :=
  if (0 : Int32) ≤ x1 then (
  z_X12_known_73  σ x1
  ) else (
  z_X12_known_73  σ (0 : Int32)
  )
set_option maxRecDepth 100000 in
noncomputable def z_X12_known (σ : ez_H) (h0 : Nat) (x1 : Int32) (x2 : Int32) : Option (Int32 × ez_H) :=
  ez_bd (ez_ob σ 12 h0) fun _ =>
  ez_bd (z_X12_isGood σ h0) fun t_1 =>
  if t_1 = (0 : Int32) then (
  some ((0 : Int32), σ)
  ) else (
  ez_bd (ez_gi σ 12 h0 8) fun t_10 =>
  if t_10 = (2 : Int32) then (
  if (0 : Int32) ≤ x1 then (
  ez_bd (z_X12_bit σ x2 x1) fun t_42 =>
  if t_42 = (0 : Int32) then (
  ez_b2 (z_X12_goOn σ h0) fun _ σ =>
  z_X12_known_64  σ x1
  ) else (
  ez_bd (ez_gi σ 12 h0 6) fun t_51 =>
  ez_b2 (z_X12_fails σ h0 (3 : Int32) t_51) fun _ σ =>
  z_X12_known_64  σ x1
  )
  ) else (
  ez_bd (ez_gi σ 12 h0 6) fun t_31 =>
  ez_b2 (z_X12_fails σ h0 (5 : Int32) t_31) fun _ σ =>
  z_X12_known_64  σ x1
  )
  ) else (
  ez_b2 (z_X12_misplaced σ h0) fun _ σ =>
  z_X12_known_64  σ x1
  )
  )
set_option maxRecDepth 100000 in
noncomputable def z_X12_readDoor (σ : ez_H) (h0 : Nat) : Option (Unit × ez_H) :=
  ez_bd (ez_ob σ 12 h0) fun _ =>
  ez_bd (ez_gi σ 12 h0 44) fun t_3 =>
  ez_let ((8 : Int32) * t_3) fun t_6 =>
  ez_bd (ez_gr σ 12 h0 17) fun t_8 =>
  ez_bd (ez_gi σ 12 h0 44) fun t_12 =>
  ez_bd (ez_ia σ 1 t_8 t_12) fun t_15 =>
  ez_let (t_6 + t_15) fun t_16 =>
  ez_bd (ez_gr σ 12 h0 36) fun t_19 =>
  ez_bd (ez_gr σ 12 h0 36) fun t_26 =>
  ez_bd (ez_gi σ 12 h0 44) fun t_32 =>
  ez_let ((8 : Int32) * t_32) fun t_35 =>
  ez_bd (ez_gr σ 12 h0 17) fun t_37 =>
  ez_bd (ez_gi σ 12 h0 44) fun t_41 =>
  ez_bd (ez_ia σ 1 t_37 t_41) fun t_44 =>
  ez_bd (z_X12_here σ h0 t_26 t_35 t_44) fun t_45 =>
  ez_b2 (z_X12_fresh σ h0 t_45) fun t_48 σ =>
  ez_bd (ez_lst σ t_19 t_16 t_48) fun σ =>
  ez_bd (z_X12_isWord σ h0 (1718775661 : Int64)) fun t_57 =>
  ez_b2 (z_X12_must σ h0 t_57) fun _ σ =>
  ez_bd (ez_gr σ 12 h0 24) fun t_64 =>
  ez_bd (z_X12_roomHere σ h0) fun t_70 =>
  ez_b2 (z_X12_known σ h0 t_70 (0 : Int32)) fun t_74 σ =>
  ez_bd (ez_is σ 1 t_64 t_16 t_74) fun σ =>
  ez_bd (z_X12_isWord σ h0 (29807 : Int64)) fun t_83 =>
  ez_b2 (z_X12_must σ h0 t_83) fun _ σ =>
  ez_bd (ez_gr σ 12 h0 25) fun t_90 =>
  ez_bd (z_X12_roomHere σ h0) fun t_96 =>
  ez_bd (ez_gr σ 12 h0 24) fun t_101 =>
  ez_bd (ez_ia σ 1 t_101 t_16) fun t_105 =>
  ez_let ((1 : Int32) <<< (t_105 &&& 31)) fun t_106 =>
  ez_b2 (z_X12_known σ h0 t_96 t_106) fun t_107 σ =>
  ez_bd (ez_is σ 1 t_90 t_16 t_107) fun σ =>
  ez_bd (z_X12_isWord σ h0 (1819239275 : Int64)) fun t_116 =>
  ez_b2 (z_X12_must σ h0 t_116) fun _ σ =>
  ez_bd (ez_gr σ 12 h0 26) fun t_123 =>
  ez_bd (z_X12_lockHere σ h0) fun t_129 =>
  ez_b2 (z_X12_known σ h0 t_129 (0 : Int32)) fun t_133 σ =>
  ez_bd (ez_is σ 1 t_123 t_16 t_133) fun σ =>
  ez_bd (ez_gr σ 12 h0 17) fun t_138 =>
  ez_bd (ez_gi σ 12 h0 44) fun t_142 =>
  ez_bd (ez_ia σ 1 t_138 t_142) fun t_146 =>
  ez_let (t_146 + (1 : Int32)) fun t_148 =>
  ez_bd (ez_is σ 1 t_138 t_142 t_148) fun σ =>
  some ((), σ)
set_option maxRecDepth 100000 in
noncomputable def z_X12_heldSet_40 (σ : ez_H) (k_4 : Nat → Int32 → Int32 → Option (Int32)) (h0 : Nat) (x1 : Int32) (x2 : Int32) : Option (Int32) :=
  ez_let (x2 + 1) fun t_40 =>
  k_4 h0 x1 t_40
set_option maxRecDepth 100000 in
noncomputable def z_X12_heldSet_4 (σ : ez_H) (k_4 : Nat → Int32 → Int32 → Option (Int32)) (h0 : Nat) (x1 : Int32) (x2 : Int32) : Option (Int32) :=
  ez_bd (ez_gr σ 12 h0 14) fun t_6 =>
  ez_bd (ez_gi σ 12 h0 44) fun t_10 =>
  ez_bd (ez_ia σ 1 t_6 t_10) fun t_13 =>
  if t_13 ≤ x2 then (
  some x1
  ) else (
  ez_bd (ez_gr σ 12 h0 28) fun t_18 =>
  ez_bd (ez_gi σ 12 h0 44) fun t_24 =>
  ez_let ((8 : Int32) * t_24) fun t_27 =>
  ez_let (t_27 + x2) fun t_29 =>
  ez_bd (ez_ia σ 1 t_18 t_29) fun t_30 =>
  if t_30 < (0 : Int32) then (
  z_X12_heldSet_40 σ k_4 h0 x1 x2
  ) else (
  ez_let ((1 : Int32) <<< (x2 &&& 31)) fun t_37 =>
  ez_let (x1 ||| t_37) fun t_38 =>
  z_X12_heldSet_40 σ k_4 h0 t_38 x2
  )
  )
set_option maxRecDepth 100000 in
noncomputable def z_X12_heldSet (σ : ez_H) (h0 : Nat) : Option (Int32) :=
  ez_bd (ez_ob σ 12 h0) fun _ =>
  ez_fix (fun _ _ _ => none) (z_X12_heldSet_4 σ) ez_N h0 (0 : Int32) (0 : Int32)
set_option maxRecDepth 100000 in
noncomputable def z_X12_readPerson_163 (σ : ez_H) (h0 : Nat) : Option (Unit × ez_H) :=
  ez_bd (ez_gr σ 12 h0 18) fun t_164 =>
  ez_bd (ez_gi σ 12 h0 44) fun t_168 =>
  ez_bd (ez_ia σ 1 t_164 t_168) fun t_172 =>
  ez_let (t_172 + (1 : Int32)) fun t_174 =>
  ez_bd (ez_is σ 1 t_164 t_168 t_174) fun σ =>
  some ((), σ)
set_option maxRecDepth 100000 in
noncomputable def z_X12_readPerson_159 (k_99 : ez_H → Nat → Int32 → Option (Unit × ez_H)) (σ : ez_H) (h0 : Nat) (y0 : Int32) : Option (Unit × ez_H) :=
  k_99 σ h0 y0
set_option maxRecDepth 100000 in
noncomputable def z_X12_readPerson_99 (k_99 : ez_H → Nat → Int32 → Option (Unit × ez_H)) (σ : ez_H) (h0 : Nat) (x2 : Int32) : Option (Unit × ez_H) :=
  ez_bd (z_X12_isGood σ h0) fun t_100 =>
  if t_100 = (0 : Int32) then (
  z_X12_readPerson_163  σ h0
  ) else (
  if x2 = (0 : Int32) then (
  z_X12_readPerson_163  σ h0
  ) else (
  ez_bd (z_X12_keyHere σ h0) fun t_112 =>
  ez_bd (z_X12_heldSet σ h0) fun t_116 =>
  ez_b2 (z_X12_known σ h0 t_112 t_116) fun t_119 σ =>
  ez_bd (ez_gr σ 12 h0 28) fun t_124 =>
  ez_bd (ez_gi σ 12 h0 44) fun t_130 =>
  ez_let ((8 : Int32) * t_130) fun t_133 =>
  ez_let (t_133 + t_119) fun t_135 =>
  ez_bd (ez_gr σ 12 h0 18) fun t_137 =>
  ez_bd (ez_gi σ 12 h0 44) fun t_141 =>
  ez_bd (ez_ia σ 1 t_137 t_141) fun t_144 =>
  ez_bd (ez_is σ 1 t_124 t_135 t_144) fun σ =>
  ez_bd (ez_gi σ 12 h0 8) fun t_147 =>
  if t_147 = (2 : Int32) then (
  z_X12_readPerson_159 k_99 σ h0 (1 : Int32)
  ) else (
  z_X12_readPerson_159 k_99 σ h0 (0 : Int32)
  )
  )
  )
set_option maxRecDepth 100000 in
noncomputable def z_X12_readPerson (σ : ez_H) (h0 : Nat) : Option (Unit × ez_H) :=
  ez_bd (ez_ob σ 12 h0) fun _ =>
  ez_bd (ez_gi σ 12 h0 44) fun t_2 =>
  ez_let ((4 : Int32) * t_2) fun t_5 =>
  ez_bd (ez_gr σ 12 h0 18) fun t_7 =>
  ez_bd (ez_gi σ 12 h0 44) fun t_11 =>
  ez_bd (ez_ia σ 1 t_7 t_11) fun t_14 =>
  ez_let (t_5 + t_14) fun t_15 =>
  ez_bd (ez_gr σ 12 h0 37) fun t_18 =>
  ez_bd (ez_gr σ 12 h0 37) fun t_25 =>
  ez_bd (ez_gi σ 12 h0 44) fun t_30 =>
  ez_let ((4 : Int32) * t_30) fun t_33 =>
  ez_bd (ez_gr σ 12 h0 18) fun t_35 =>
  ez_bd (ez_gi σ 12 h0 44) fun t_39 =>
  ez_bd (ez_ia σ 1 t_35 t_39) fun t_42 =>
  ez_bd (z_X12_here σ h0 t_25 t_33 t_42) fun t_43 =>
  ez_b2 (z_X12_fresh σ h0 t_43) fun t_46 σ =>
  ez_bd (ez_lst σ t_18 t_15 t_46) fun σ =>
  ez_bd (z_X12_isWord σ h0 (26990 : Int64)) fun t_55 =>
  ez_b2 (z_X12_must σ h0 t_55) fun _ σ =>
  ez_bd (ez_gr σ 12 h0 27) fun t_62 =>
  ez_bd (z_X12_roomHere σ h0) fun t_68 =>
  ez_b2 (z_X12_known σ h0 t_68 (0 : Int32)) fun t_72 σ =>
  ez_bd (ez_is σ 1 t_62 t_15 t_72) fun σ =>
  ez_bd (z_X12_isGood σ h0) fun t_77 =>
  if t_77 = (0 : Int32) then (
  z_X12_readPerson_163  σ h0
  ) else (
  ez_bd (z_X12_isWord σ h0 (448545973363 : Int64)) fun t_87 =>
  if t_87 = (0 : Int32) then (
  z_X12_readPerson_163  σ h0
  ) else (
  ez_b2 (z_X12_goOn σ h0) fun _ σ =>
  ez_fix (fun _ _ _ => none) (z_X12_readPerson_99 ) ez_N σ h0 (1 : Int32)
  )
  )
set_option maxRecDepth 100000 in
noncomputable def z_X12_readRight_116 (σ : ez_H) : Option (Unit × ez_H) :=
  some ((), σ)
set_option maxRecDepth 100000 in
noncomputable def z_X12_readRight_74 (k_15 : ez_H → Nat → Nat → Int32 → Int32 → Int32 → Option (Unit × ez_H)) (σ : ez_H) (h0 : Nat) (h1 : Nat) (x2 : Int32) (x3 : Int32) (x4 : Int32) : Option (Unit × ez_H) :=
  ez_let (x4 + 1) fun t_74 =>
  k_15 σ h0 h1 x2 x3 t_74
set_option maxRecDepth 100000 in
noncomputable def z_X12_readRight_15 (k_15 : ez_H → Nat → Nat → Int32 → Int32 → Int32 → Option (Unit × ez_H)) (σ : ez_H) (h0 : Nat) (h1 : Nat) (x2 : Int32) (x3 : Int32) (x4 : Int32) : Option (Unit × ez_H) :=
  ez_bd (ez_gr σ 12 h0 15) fun t_18 =>
  ez_bd (ez_gi σ 12 h0 44) fun t_22 =>
  ez_bd (ez_ia σ 1 t_18 t_22) fun t_25 =>
  if t_25 ≤ x4 then (
  ez_bd (z_X12_lockHere σ h0) fun t_82 =>
  ez_b2 (z_X12_known σ h0 t_82 x3) fun t_86 σ =>
  ez_bd (z_X12_isGood σ h0) fun t_92 =>
  if t_92 = (0 : Int32) then (
  z_X12_readRight_116  σ
  ) else (
  ez_bd (ez_gi σ 12 h0 44) fun t_102 =>
  ez_let ((6 : Int32) * t_102) fun t_105 =>
  ez_let (t_105 + t_86) fun t_108 =>
  ez_bd (ez_ia σ 1 h1 t_108) fun t_110 =>
  ez_let ((1 : Int32) <<< (x2 &&& 31)) fun t_113 =>
  ez_let (t_110 ||| t_113) fun t_114 =>
  ez_bd (ez_is σ 1 h1 t_108 t_114) fun σ =>
  z_X12_readRight_116  σ
  )
  ) else (
  ez_bd (ez_gr σ 12 h0 29) fun t_30 =>
  ez_bd (ez_gi σ 12 h0 44) fun t_36 =>
  ez_let ((6 : Int32) * t_36) fun t_39 =>
  ez_let (t_39 + x4) fun t_42 =>
  ez_bd (ez_ia σ 1 t_30 t_42) fun t_43 =>
  ez_bd (ez_gr σ 12 h0 30) fun t_45 =>
  ez_bd (ez_gi σ 12 h0 44) fun t_51 =>
  ez_let ((6 : Int32) * t_51) fun t_54 =>
  ez_let (t_54 + x4) fun t_57 =>
  ez_bd (ez_ia σ 1 t_45 t_57) fun t_58 =>
  ez_let (t_43 ||| t_58) fun t_59 =>
  ez_bd (z_X12_bit σ t_59 x2) fun t_61 =>
  if t_61 = (0 : Int32) then (
  z_X12_readRight_74 k_15 σ h0 h1 x2 x3 x4
  ) else (
  ez_let ((1 : Int32) <<< (x4 &&& 31)) fun t_71 =>
  ez_let (x3 ||| t_71) fun t_72 =>
  z_X12_readRight_74 k_15 σ h0 h1 x2 t_72 x4
  )
  )
set_option maxRecDepth 100000 in
noncomputable def z_X12_readRight (σ : ez_H) (h0 : Nat) (h1 : Nat) : Option (Unit × ez_H) :=
  ez_bd (ez_ob σ 12 h0) fun _ =>
  ez_bd (z_X12_keyHere σ h0) fun t_2 =>
  ez_b2 (z_X12_known σ h0 t_2 (0 : Int32)) fun t_6 σ =>
  ez_fix (fun _ _ _ _ _ _ => none) (z_X12_readRight_15 ) ez_N σ h0 h1 t_6 (0 : Int32) (0 : Int32)
set_option maxRecDepth 100000 in
noncomputable def z_X12_pushE (σ : ez_H) (h0 : Nat) (x1 : Int32) (x2 : Int32) : Option (Unit × ez_H) :=
  ez_bd (ez_ob σ 12 h0) fun _ =>
  ez_bd (ez_gr σ 12 h0 40) fun t_1 =>
  ez_bd (ez_gi σ 12 h0 47) fun t_5 =>
  ez_bd (ez_is σ 1 t_1 t_5 x1) fun σ =>
  ez_bd (ez_gr σ 12 h0 41) fun t_11 =>
  ez_bd (ez_gi σ 12 h0 47) fun t_15 =>
  ez_bd (ez_is σ 1 t_11 t_15 x2) fun σ =>
  ez_bd (ez_gi σ 12 h0 47) fun t_22 =>
  ez_let (t_22 + (1 : Int32)) fun t_26 =>
  ez_bd (ez_pf σ 12 h0 47 (.inl t_26)) fun σ =>
  some ((), σ)
set_option maxRecDepth 100000 in
noncomputable def z_X12_wordHere_55 (σ : ez_H) (y0 : Int32) : Option (Int32) :=
  some y0
set_option maxRecDepth 100000 in
noncomputable def z_X12_wordHere (σ : ez_H) (h0 : Nat) : Option (Int32) :=
  ez_bd (ez_ob σ 12 h0) fun _ =>
  ez_bd (z_X12_isWord σ h0 (6518132 : Int64)) fun t_4 =>
  if t_4 = (0 : Int32) then (
  ez_bd (z_X12_isWord σ h0 (108187867505765 : Int64)) fun t_17 =>
  if t_17 = (0 : Int32) then (
  ez_bd (z_X12_isWord σ h0 (1970496883 : Int64)) fun t_30 =>
  if t_30 = (0 : Int32) then (
  ez_bd (z_X12_isWord σ h0 (27980790350636402 : Int64)) fun t_43 =>
  if t_43 = (0 : Int32) then (
  z_X12_wordHere_55 σ (0 : Int32)
  ) else (
  z_X12_wordHere_55 σ (104 : Int32)
  )
  ) else (
  some (117 : Int32)
  )
  ) else (
  some (98 : Int32)
  )
  ) else (
  some (99 : Int32)
  )
set_option maxRecDepth 100000 in
noncomputable def z_X12_emit (σ : ez_H) (h0 : Nat) (x1 : Int32) (x2 : Int32) : Option (Unit × ez_H) :=
  ez_bd (ez_ob σ 12 h0) fun _ =>
  ez_bd (ez_gr σ 12 h0 38) fun t_1 =>
  ez_bd (ez_gi σ 12 h0 45) fun t_5 =>
  ez_bd (ez_is σ 1 t_1 t_5 x1) fun σ =>
  ez_bd (ez_gr σ 12 h0 39) fun t_11 =>
  ez_bd (ez_gi σ 12 h0 45) fun t_15 =>
  ez_bd (ez_is σ 1 t_11 t_15 x2) fun σ =>
  ez_bd (ez_gi σ 12 h0 45) fun t_22 =>
  ez_let (t_22 + (1 : Int32)) fun t_26 =>
  ez_bd (ez_pf σ 12 h0 45 (.inl t_26)) fun σ =>
  some ((), σ)
set_option maxRecDepth 100000 in
noncomputable def z_X12_unit_233 (σ : ez_H) (h0 : Nat) (y0 : Nat) (y1 : Int32) : Option (Int32 × ez_H) :=
  ez_b2 (z_X12_pushE σ y0 y1 (126 : Int32)) fun _ σ =>
  ez_bd (ez_gi σ 12 h0 46) fun t_240 =>
  ez_let (t_240 + (1 : Int32)) fun t_244 =>
  ez_bd (ez_pf σ 12 h0 46 (.inl t_244)) fun σ =>
  some ((1 : Int32), σ)
set_option maxRecDepth 100000 in
noncomputable def z_X12_unit_222 (σ : ez_H) (h0 : Nat) (x2 : Int32) : Option (Int32 × ez_H) :=
  if x2 = (0 : Int32) then (
  z_X12_unit_233  σ h0 h0 (7 : Int32)
  ) else (
  z_X12_unit_233  σ h0 h0 (3 : Int32)
  )
set_option maxRecDepth 100000 in
noncomputable def z_X12_unit_263 (σ : ez_H) (x6 : Int32) (y0 : Nat) (y1 : Int32) : Option (Int32 × ez_H) :=
  ez_b2 (z_X12_emit σ y0 y1 x6) fun _ σ =>
  some ((0 : Int32), σ)
set_option maxRecDepth 100000 in
noncomputable def z_X12_unit_208 (σ : ez_H) (h0 : Nat) (x2 : Int32) (x3 : Int32) (x4 : Int32) (y0 : Int32) : Option (Int32 × ez_H) :=
  ez_b2 (z_X12_goOn σ h0) fun _ σ =>
  if x2 = (0 : Int32) then (
  if x3 = (0 : Int32) then (
  if x4 = (0 : Int32) then (
  z_X12_unit_263  σ y0 h0 (110 : Int32)
  ) else (
  z_X12_unit_263  σ y0 h0 x4
  )
  ) else (
  z_X12_unit_222  σ h0 x2
  )
  ) else (
  z_X12_unit_222  σ h0 x2
  )
set_option maxRecDepth 100000 in
noncomputable def z_X12_unit_191 (σ : ez_H) (h0 : Nat) (x2 : Int32) (x3 : Int32) (x4 : Int32) (y0 : Nat) (y1 : Int32) (y2 : Int32) : Option (Int32 × ez_H) :=
  ez_let (y1 + y2) fun t_191 =>
  ez_bd (ez_pf σ 12 y0 48 (.inl t_191)) fun σ =>
  if x4 = (0 : Int32) then (
  ez_bd (ez_gi σ 12 h0 9) fun t_201 =>
  z_X12_unit_208  σ h0 x2 x3 x4 t_201
  ) else (
  z_X12_unit_208  σ h0 x2 x3 x4 (0 : Int32)
  )
set_option maxRecDepth 100000 in
noncomputable def z_X12_unit_175 (σ : ez_H) (h0 : Nat) (x2 : Int32) (x3 : Int32) (x4 : Int32) (y0 : Nat) (y1 : Int32) (y2 : Int32) (y3 : Int32) : Option (Int32 × ez_H) :=
  ez_let (y2 + y3) fun t_175 =>
  ez_bd (ez_is σ 1 y0 y1 t_175) fun σ =>
  ez_bd (ez_gi σ 12 h0 48) fun t_179 =>
  if x2 = (0 : Int32) then (
  z_X12_unit_191  σ h0 x2 x3 x4 h0 t_179 (1 : Int32)
  ) else (
  z_X12_unit_191  σ h0 x2 x3 x4 h0 t_179 (0 : Int32)
  )
set_option maxRecDepth 100000 in
noncomputable def z_X12_unit_147 (σ : ez_H) (h0 : Nat) (x2 : Int32) (x3 : Int32) (x4 : Int32) : Option (Int32 × ez_H) :=
  ez_bd (z_X12_isGood σ h0) fun t_148 =>
  if t_148 = (0 : Int32) then (
  some ((1 : Int32), σ)
  ) else (
  ez_bd (ez_gr σ 12 h0 19) fun t_157 =>
  ez_bd (ez_gi σ 12 h0 44) fun t_161 =>
  ez_bd (ez_ia σ 1 t_157 t_161) fun t_165 =>
  if x2 = (0 : Int32) then (
  z_X12_unit_175  σ h0 x2 x3 x4 t_157 t_161 t_165 (1 : Int32)
  ) else (
  z_X12_unit_175  σ h0 x2 x3 x4 t_157 t_161 t_165 (0 : Int32)
  )
  )
set_option maxRecDepth 100000 in
noncomputable def z_X12_unit_143 (σ : ez_H) (h0 : Nat) (x2 : Int32) (x3 : Int32) (x4 : Int32) : Option (Int32 × ez_H) :=
  ez_b2 (z_X12_misplaced σ h0) fun _ σ =>
  z_X12_unit_147  σ h0 x2 x3 x4
set_option maxRecDepth 100000 in
noncomputable def z_X12_unit_134 (σ : ez_H) (h0 : Nat) (x2 : Int32) (x3 : Int32) (x4 : Int32) : Option (Int32 × ez_H) :=
  ez_bd (ez_gi σ 12 h0 46) fun t_135 =>
  if t_135 = (7 : Int32) then (
  z_X12_unit_143  σ h0 x2 x3 x4
  ) else (
  z_X12_unit_147  σ h0 x2 x3 x4
  )
set_option maxRecDepth 100000 in
noncomputable def z_X12_unit_126 (σ : ez_H) (h0 : Nat) (x2 : Int32) (x3 : Int32) (x4 : Int32) : Option (Int32 × ez_H) :=
  if x2 = (0 : Int32) then (
  if x3 = (0 : Int32) then (
  z_X12_unit_147  σ h0 x2 x3 x4
  ) else (
  z_X12_unit_134  σ h0 x2 x3 x4
  )
  ) else (
  z_X12_unit_134  σ h0 x2 x3 x4
  )
set_option maxRecDepth 100000 in
noncomputable def z_X12_unit_121 (σ : ez_H) (h0 : Nat) (x2 : Int32) (x3 : Int32) (x4 : Int32) (x5 : Int32) : Option (Int32 × ez_H) :=
  if x5 = (0 : Int32) then (
  z_X12_unit_126  σ h0 x2 x3 x4
  ) else (
  z_X12_unit_143  σ h0 x2 x3 x4
  )
set_option maxRecDepth 100000 in
noncomputable def z_X12_unit_98 (σ : ez_H) (h0 : Nat) (x2 : Int32) (x3 : Int32) (x4 : Int32) (y0 : Int32) : Option (Int32 × ez_H) :=
  if x2 = (0 : Int32) then (
  if x4 = (0 : Int32) then (
  ez_bd (ez_gi σ 12 h0 8) fun t_110 =>
  if t_110 = (4 : Int32) then (
  z_X12_unit_121  σ h0 x2 x3 x4 y0
  ) else (
  if x3 = (0 : Int32) then (
  z_X12_unit_143  σ h0 x2 x3 x4
  ) else (
  z_X12_unit_121  σ h0 x2 x3 x4 y0
  )
  )
  ) else (
  z_X12_unit_121  σ h0 x2 x3 x4 y0
  )
  ) else (
  z_X12_unit_126  σ h0 x2 x3 x4
  )
set_option maxRecDepth 100000 in
noncomputable def z_X12_unit_93 (σ : ez_H) (h0 : Nat) (x2 : Int32) (x3 : Int32) (x4 : Int32) : Option (Int32 × ez_H) :=
  z_X12_unit_98  σ h0 x2 x3 x4 (1 : Int32)
set_option maxRecDepth 100000 in
noncomputable def z_X12_unit_56 (σ : ez_H) (h0 : Nat) (y0 : Int32) : Option (Int32 × ez_H) :=
  ez_bd (z_X12_isSignHere σ h0 (40 : Int32)) fun t_60 =>
  ez_bd (z_X12_wordHere σ h0) fun t_65 =>
  ez_bd (ez_gr σ 12 h0 19) fun t_71 =>
  ez_bd (ez_gi σ 12 h0 44) fun t_75 =>
  ez_bd (ez_ia σ 1 t_71 t_75) fun t_78 =>
  if t_78 = (60 : Int32) then (
  z_X12_unit_93  σ h0 y0 t_60 t_65
  ) else (
  ez_bd (ez_gi σ 12 h0 48) fun t_85 =>
  if t_85 = (30 : Int32) then (
  z_X12_unit_93  σ h0 y0 t_60 t_65
  ) else (
  z_X12_unit_98  σ h0 y0 t_60 t_65 (0 : Int32)
  )
  )
set_option maxRecDepth 100000 in
noncomputable def z_X12_unit_55 (σ : ez_H) (h0 : Nat) : Option (Int32 × ez_H) :=
  z_X12_unit_56  σ h0 (0 : Int32)
set_option maxRecDepth 100000 in
noncomputable def z_X12_unit_36 (σ : ez_H) (h0 : Nat) (y0 : Int32) : Option (Int32 × ez_H) :=
  if y0 = (0 : Int32) then (
  z_X12_unit_55  σ h0
  ) else (
  ez_bd (z_X12_isWord σ h0 (7237492 : Int64)) fun t_45 =>
  if t_45 = (0 : Int32) then (
  z_X12_unit_55  σ h0
  ) else (
  z_X12_unit_56  σ h0 (1 : Int32)
  )
  )
set_option maxRecDepth 100000 in
noncomputable def z_X12_unit_31 (σ : ez_H) (h0 : Nat) : Option (Int32 × ez_H) :=
  z_X12_unit_36  σ h0 (1 : Int32)
set_option maxRecDepth 100000 in
noncomputable def z_X12_unit (σ : ez_H) (h0 : Nat) : Option (Int32 × ez_H) :=
  ez_bd (ez_ob σ 12 h0) fun _ =>
  ez_bd (ez_gr σ 12 h0 40) fun t_1 =>
  ez_bd (ez_gi σ 12 h0 47) fun t_5 =>
  ez_let (t_5 - (1 : Int32)) fun t_9 =>
  ez_bd (ez_ia σ 1 t_1 t_9) fun t_10 =>
  if t_10 ≤ (3 : Int32) then (
  z_X12_unit_31  σ h0
  ) else (
  ez_bd (ez_gr σ 12 h0 40) fun t_16 =>
  ez_bd (ez_gi σ 12 h0 47) fun t_20 =>
  ez_let (t_20 - (1 : Int32)) fun t_24 =>
  ez_bd (ez_ia σ 1 t_16 t_24) fun t_25 =>
  if t_25 < (7 : Int32) then (
  z_X12_unit_36  σ h0 (0 : Int32)
  ) else (
  z_X12_unit_31  σ h0
  )
  )
set_option maxRecDepth 100000 in
noncomputable def z_X12_rankHere_51 (σ : ez_H) : Option (Int32) :=
  some (4 : Int32)
set_option maxRecDepth 100000 in
noncomputable def z_X12_rankHere_71 (σ : ez_H) : Option (Int32) :=
  some (5 : Int32)
set_option maxRecDepth 100000 in
noncomputable def z_X12_rankHere_106 (σ : ez_H) (y0 : Int32) : Option (Int32) :=
  some y0
set_option maxRecDepth 100000 in
noncomputable def z_X12_rankHere_100 (σ : ez_H) : Option (Int32) :=
  z_X12_rankHere_106 σ (6 : Int32)
set_option maxRecDepth 100000 in
noncomputable def z_X12_rankHere (σ : ez_H) (h0 : Nat) : Option (Int32) :=
  ez_bd (ez_ob σ 12 h0) fun _ =>
  ez_bd (z_X12_isWord σ h0 (6385252 : Int64)) fun t_4 =>
  if t_4 = (0 : Int32) then (
  ez_bd (z_X12_isWord σ h0 (28530 : Int64)) fun t_16 =>
  if t_16 = (0 : Int32) then (
  ez_bd (z_X12_isSignHere σ h0 (60 : Int32)) fun t_27 =>
  if t_27 = (0 : Int32) then (
  ez_bd (z_X12_isSignHere σ h0 (62 : Int32)) fun t_36 =>
  if t_36 = (0 : Int32) then (
  ez_bd (z_X12_isSignHere σ h0 (61 : Int32)) fun t_45 =>
  if t_45 = (0 : Int32) then (
  ez_bd (z_X12_isSignHere σ h0 (43 : Int32)) fun t_56 =>
  if t_56 = (0 : Int32) then (
  ez_bd (z_X12_isSignHere σ h0 (45 : Int32)) fun t_65 =>
  if t_65 = (0 : Int32) then (
  ez_bd (z_X12_isSignHere σ h0 (42 : Int32)) fun t_76 =>
  if t_76 = (0 : Int32) then (
  ez_bd (z_X12_isSignHere σ h0 (47 : Int32)) fun t_85 =>
  if t_85 = (0 : Int32) then (
  ez_bd (z_X12_isSignHere σ h0 (37 : Int32)) fun t_94 =>
  if t_94 = (0 : Int32) then (
  z_X12_rankHere_106 σ (0 : Int32)
  ) else (
  z_X12_rankHere_100 σ 
  )
  ) else (
  z_X12_rankHere_100 σ 
  )
  ) else (
  z_X12_rankHere_100 σ 
  )
  ) else (
  z_X12_rankHere_71 σ 
  )
  ) else (
  z_X12_rankHere_71 σ 
  )
  ) else (
  z_X12_rankHere_51 σ 
  )
  ) else (
  z_X12_rankHere_51 σ 
  )
  ) else (
  z_X12_rankHere_51 σ 
  )
  ) else (
  some (1 : Int32)
  )
  ) else (
  some (2 : Int32)
  )
set_option maxRecDepth 100000 in
noncomputable def z_X12_isCompared_28 (σ : ez_H) (k_7 : Nat → Int32 → Option (Int32)) (h0 : Nat) (x1 : Int32) : Option (Int32) :=
  ez_let (x1 + (-1)) fun t_28 =>
  k_7 h0 t_28
set_option maxRecDepth 100000 in
noncomputable def z_X12_isCompared_49 (σ : ez_H) (y0 : Int32) : Option (Int32) :=
  ez_nr .boolean y0 <|
  some y0
set_option maxRecDepth 100000 in
noncomputable def z_X12_isCompared_7 (σ : ez_H) (k_7 : Nat → Int32 → Option (Int32)) (h0 : Nat) (x1 : Int32) : Option (Int32) :=
  ez_bd (ez_gr σ 12 h0 40) fun t_8 =>
  ez_bd (ez_ia σ 1 t_8 x1) fun t_12 =>
  if t_12 = (5 : Int32) then (
  z_X12_isCompared_28 σ k_7 h0 x1
  ) else (
  ez_bd (ez_gr σ 12 h0 40) fun t_18 =>
  ez_bd (ez_ia σ 1 t_18 x1) fun t_22 =>
  if t_22 = (6 : Int32) then (
  z_X12_isCompared_28 σ k_7 h0 x1
  ) else (
  ez_bd (ez_gr σ 12 h0 40) fun t_35 =>
  ez_bd (ez_ia σ 1 t_35 x1) fun t_39 =>
  if t_39 = (4 : Int32) then (
  z_X12_isCompared_49 σ (1 : Int32)
  ) else (
  z_X12_isCompared_49 σ (0 : Int32)
  )
  )
  )
set_option maxRecDepth 100000 in
noncomputable def z_X12_isCompared (σ : ez_H) (h0 : Nat) : Option (Int32) :=
  ez_bd (ez_ob σ 12 h0) fun _ =>
  ez_bd (ez_gi σ 12 h0 47) fun t_1 =>
  ez_let (t_1 - (1 : Int32)) fun t_5 =>
  ez_fix (fun _ _ => none) (z_X12_isCompared_7 σ) ez_N h0 t_5
set_option maxRecDepth 100000 in
noncomputable def z_X12_behindUnit_191 (σ : ez_H) : Option (Int32 × ez_H) :=
  some ((0 : Int32), σ)
set_option maxRecDepth 100000 in
noncomputable def z_X12_behindUnit_138 (σ : ez_H) (h0 : Nat) (y0 : Nat) (y1 : Int32) (y2 : Int32) : Option (Int32 × ez_H) :=
  ez_b2 (z_X12_pushE σ y0 y1 y2) fun _ σ =>
  ez_b2 (z_X12_goOn σ h0) fun _ σ =>
  some ((1 : Int32), σ)
set_option maxRecDepth 100000 in
noncomputable def z_X12_behindUnit_104 (σ : ez_H) (h0 : Nat) (x1 : Int32) : Option (Int32 × ez_H) :=
  if x1 ≤ (0 : Int32) then (
  ez_bd (ez_gi σ 12 h0 47) fun t_149 =>
  ez_let (t_149 - (1 : Int32)) fun t_153 =>
  ez_bd (ez_pf σ 12 h0 47 (.inl t_153)) fun σ =>
  ez_bd (ez_gr σ 12 h0 40) fun t_158 =>
  ez_bd (ez_gi σ 12 h0 47) fun t_162 =>
  ez_bd (ez_ia σ 1 t_158 t_162) fun t_165 =>
  if t_165 = (7 : Int32) then (
  ez_bd (ez_gi σ 12 h0 46) fun t_173 =>
  ez_let (t_173 - (1 : Int32)) fun t_177 =>
  ez_bd (ez_pf σ 12 h0 46 (.inl t_177)) fun σ =>
  ez_bd (z_X12_isSignHere σ h0 (41 : Int32)) fun t_185 =>
  ez_b2 (z_X12_must σ h0 t_185) fun _ σ =>
  z_X12_behindUnit_191  σ
  ) else (
  z_X12_behindUnit_191  σ
  )
  ) else (
  if x1 = (2 : Int32) then (
  z_X12_behindUnit_138  σ h0 h0 x1 (38 : Int32)
  ) else (
  if x1 = (1 : Int32) then (
  z_X12_behindUnit_138  σ h0 h0 x1 (124 : Int32)
  ) else (
  ez_bd (ez_gi σ 12 h0 6) fun t_132 =>
  ez_bd (z_X12_sign σ h0 t_132) fun t_135 =>
  z_X12_behindUnit_138  σ h0 h0 x1 t_135
  )
  )
  )
set_option maxRecDepth 100000 in
noncomputable def z_X12_behindUnit_87 (k_23 : ez_H → Nat → Int32 → Option (Int32 × ez_H)) (σ : ez_H) (h0 : Nat) (x1 : Int32) : Option (Int32 × ez_H) :=
  ez_bd (ez_gr σ 12 h0 41) fun t_89 =>
  ez_bd (ez_gi σ 12 h0 47) fun t_93 =>
  ez_bd (ez_ia σ 1 t_89 t_93) fun t_96 =>
  ez_b2 (z_X12_emit σ h0 t_96 (0 : Int32)) fun _ σ =>
  k_23 σ h0 x1
set_option maxRecDepth 100000 in
noncomputable def z_X12_behindUnit_23 (k_23 : ez_H → Nat → Int32 → Option (Int32 × ez_H)) (σ : ez_H) (h0 : Nat) (x1 : Int32) : Option (Int32 × ez_H) :=
  ez_bd (ez_gr σ 12 h0 40) fun t_24 =>
  ez_bd (ez_gi σ 12 h0 47) fun t_28 =>
  ez_let (t_28 - (1 : Int32)) fun t_32 =>
  ez_bd (ez_ia σ 1 t_24 t_32) fun t_33 =>
  if (6 : Int32) < t_33 then (
  z_X12_behindUnit_104  σ h0 x1
  ) else (
  ez_bd (ez_gr σ 12 h0 40) fun t_40 =>
  ez_bd (ez_gi σ 12 h0 47) fun t_44 =>
  ez_let (t_44 - (1 : Int32)) fun t_48 =>
  ez_bd (ez_ia σ 1 t_40 t_48) fun t_49 =>
  if t_49 < x1 then (
  z_X12_behindUnit_104  σ h0 x1
  ) else (
  ez_bd (ez_gi σ 12 h0 47) fun t_56 =>
  ez_let (t_56 - (1 : Int32)) fun t_60 =>
  ez_bd (ez_pf σ 12 h0 47 (.inl t_60)) fun σ =>
  ez_bd (ez_gr σ 12 h0 40) fun t_65 =>
  ez_bd (ez_gi σ 12 h0 47) fun t_69 =>
  ez_bd (ez_ia σ 1 t_65 t_69) fun t_72 =>
  if t_72 = (3 : Int32) then (
  ez_bd (ez_gi σ 12 h0 46) fun t_79 =>
  ez_let (t_79 - (1 : Int32)) fun t_83 =>
  ez_bd (ez_pf σ 12 h0 46 (.inl t_83)) fun σ =>
  z_X12_behindUnit_87 k_23 σ h0 x1
  ) else (
  z_X12_behindUnit_87 k_23 σ h0 x1
  )
  )
  )
set_option maxRecDepth 100000 in
noncomputable def z_X12_behindUnit (σ : ez_H) (h0 : Nat) : Option (Int32 × ez_H) :=
  ez_bd (ez_ob σ 12 h0) fun _ =>
  ez_bd (z_X12_rankHere σ h0) fun t_1 =>
  if t_1 = (4 : Int32) then (
  ez_bd (z_X12_isCompared σ h0) fun t_11 =>
  if t_11 = (0 : Int32) then (
  ez_fix (fun _ _ _ => none) (z_X12_behindUnit_23 ) ez_N σ h0 t_1
  ) else (
  ez_b2 (z_X12_misplaced σ h0) fun _ σ =>
  some ((1 : Int32), σ)
  )
  ) else (
  ez_fix (fun _ _ _ => none) (z_X12_behindUnit_23 ) ez_N σ h0 t_1
  )
set_option maxRecDepth 100000 in
noncomputable def z_X12_e_52 (σ : ez_H) : Option (Unit × ez_H) :=
  some ((), σ)
set_option maxRecDepth 100000 in
noncomputable def z_X12_e_48 (k_19 : ez_H → Nat → Int32 → Option (Unit × ez_H)) (σ : ez_H) (h0 : Nat) (y0 : Int32) : Option (Unit × ez_H) :=
  k_19 σ h0 y0
set_option maxRecDepth 100000 in
noncomputable def z_X12_e_19 (k_19 : ez_H → Nat → Int32 → Option (Unit × ez_H)) (σ : ez_H) (h0 : Nat) (x1 : Int32) : Option (Unit × ez_H) :=
  ez_bd (z_X12_isGood σ h0) fun t_20 =>
  if t_20 = (0 : Int32) then (
  z_X12_e_52  σ
  ) else (
  ez_bd (ez_gi σ 12 h0 47) fun t_27 =>
  if t_27 ≤ (0 : Int32) then (
  z_X12_e_52  σ
  ) else (
  if x1 = (0 : Int32) then (
  ez_b2 (z_X12_behindUnit σ h0) fun t_45 σ =>
  z_X12_e_48 k_19 σ h0 t_45
  ) else (
  ez_b2 (z_X12_unit σ h0) fun t_38 σ =>
  z_X12_e_48 k_19 σ h0 t_38
  )
  )
  )
set_option maxRecDepth 100000 in
noncomputable def z_X12_e (σ : ez_H) (h0 : Nat) : Option (Unit × ez_H) :=
  ez_bd (ez_ob σ 12 h0) fun _ =>
  ez_bd (ez_pf σ 12 h0 47 (.inl (0 : Int32))) fun σ =>
  ez_bd (ez_pf σ 12 h0 46 (.inl (0 : Int32))) fun σ =>
  ez_b2 (z_X12_pushE σ h0 (8 : Int32) (0 : Int32)) fun _ σ =>
  ez_fix (fun _ _ _ => none) (z_X12_e_19 ) ez_N σ h0 (1 : Int32)
set_option maxRecDepth 100000 in
noncomputable def z_X12_readRule (σ : ez_H) (h0 : Nat) : Option (Unit × ez_H) :=
  ez_bd (ez_ob σ 12 h0) fun _ =>
  ez_bd (ez_gr σ 12 h0 21) fun t_1 =>
  ez_bd (ez_gi σ 12 h0 44) fun t_5 =>
  ez_bd (ez_ia σ 1 t_1 t_5) fun t_9 =>
  ez_let (t_9 ||| (8 : Int32)) fun t_12 =>
  ez_bd (ez_is σ 1 t_1 t_5 t_12) fun σ =>
  ez_bd (ez_pf σ 12 h0 48 (.inl (0 : Int32))) fun σ =>
  ez_bd (ez_gr σ 12 h0 31) fun t_20 =>
  ez_bd (ez_gi σ 12 h0 44) fun t_24 =>
  ez_bd (ez_gi σ 12 h0 45) fun t_28 =>
  ez_bd (ez_is σ 1 t_20 t_24 t_28) fun σ =>
  ez_b2 (z_X12_e σ h0) fun _ σ =>
  ez_bd (ez_gr σ 12 h0 32) fun t_37 =>
  ez_bd (ez_gi σ 12 h0 44) fun t_41 =>
  ez_bd (ez_gi σ 12 h0 45) fun t_45 =>
  ez_bd (ez_is σ 1 t_37 t_41 t_45) fun σ =>
  some ((), σ)
set_option maxRecDepth 100000 in
noncomputable def z_X12_readLine_239 (σ : ez_H) (h0 : Nat) : Option (Unit × ez_H) :=
  ez_bd (z_X12_isSignHere σ h0 (59 : Int32)) fun t_243 =>
  ez_b2 (z_X12_must σ h0 t_243) fun _ σ =>
  some ((), σ)
set_option maxRecDepth 100000 in
noncomputable def z_X12_readLine_213 (σ : ez_H) (h0 : Nat) (x1 : Int64) : Option (Unit × ez_H) :=
  ez_let (lg_cmp x1 (1685217655 : Int64)) fun t_217 =>
  if t_217 = (0 : Int32) then (
  ez_bd (ez_gr σ 12 h0 20) fun t_222 =>
  ez_bd (ez_gi σ 12 h0 44) fun t_226 =>
  ez_b2 (z_X12_once σ h0 (4 : Int32) (0 : Int32) (999 : Int32)) fun t_235 σ =>
  ez_bd (ez_is σ 1 t_222 t_226 t_235) fun σ =>
  z_X12_readLine_239  σ h0
  ) else (
  z_X12_readLine_239  σ h0
  )
set_option maxRecDepth 100000 in
noncomputable def z_X12_readLine_201 (σ : ez_H) (h0 : Nat) (x1 : Int64) : Option (Unit × ez_H) :=
  ez_let (lg_cmp x1 (2003132786 : Int64)) fun t_205 =>
  if t_205 = (0 : Int32) then (
  ez_b2 (z_X12_readRule σ h0) fun _ σ =>
  z_X12_readLine_213  σ h0 x1
  ) else (
  z_X12_readLine_213  σ h0 x1
  )
set_option maxRecDepth 100000 in
noncomputable def z_X12_readLine_185 (σ : ez_H) (h0 : Nat) (x1 : Int64) : Option (Unit × ez_H) :=
  ez_let (lg_cmp x1 (474148660594 : Int64)) fun t_189 =>
  if t_189 = (0 : Int32) then (
  ez_bd (ez_gr σ 12 h0 30) fun t_195 =>
  ez_b2 (z_X12_readRight σ h0 t_195) fun _ σ =>
  z_X12_readLine_201  σ h0 x1
  ) else (
  z_X12_readLine_201  σ h0 x1
  )
set_option maxRecDepth 100000 in
noncomputable def z_X12_readLine_169 (σ : ez_H) (h0 : Nat) (x1 : Int64) : Option (Unit × ez_H) :=
  ez_let (lg_cmp x1 (1836413812 : Int64)) fun t_173 =>
  if t_173 = (0 : Int32) then (
  ez_bd (ez_gr σ 12 h0 29) fun t_179 =>
  ez_b2 (z_X12_readRight σ h0 t_179) fun _ σ =>
  z_X12_readLine_185  σ h0 x1
  ) else (
  z_X12_readLine_185  σ h0 x1
  )
set_option maxRecDepth 100000 in
noncomputable def z_X12_readLine_157 (σ : ez_H) (h0 : Nat) (x1 : Int64) : Option (Unit × ez_H) :=
  ez_let (lg_cmp x1 (123581014175598 : Int64)) fun t_161 =>
  if t_161 = (0 : Int32) then (
  ez_b2 (z_X12_readPerson σ h0) fun _ σ =>
  z_X12_readLine_169  σ h0 x1
  ) else (
  z_X12_readLine_169  σ h0 x1
  )
set_option maxRecDepth 100000 in
noncomputable def z_X12_readLine_145 (σ : ez_H) (h0 : Nat) (x1 : Int64) : Option (Unit × ez_H) :=
  ez_let (lg_cmp x1 (1685024626 : Int64)) fun t_149 =>
  if t_149 = (0 : Int32) then (
  ez_b2 (z_X12_readDoor σ h0) fun _ σ =>
  z_X12_readLine_157  σ h0 x1
  ) else (
  z_X12_readLine_157  σ h0 x1
  )
set_option maxRecDepth 100000 in
noncomputable def z_X12_readLine_133 (σ : ez_H) (h0 : Nat) (x1 : Int64) : Option (Unit × ez_H) :=
  ez_let (lg_cmp x1 (1919905645 : Int64)) fun t_137 =>
  if t_137 = (0 : Int32) then (
  ez_b2 (z_X12_readRoom σ h0) fun _ σ =>
  z_X12_readLine_145  σ h0 x1
  ) else (
  z_X12_readLine_145  σ h0 x1
  )
set_option maxRecDepth 100000 in
noncomputable def z_X12_readLine_121 (σ : ez_H) (h0 : Nat) (x1 : Int64) : Option (Unit × ez_H) :=
  ez_let (lg_cmp x1 (1819239275 : Int64)) fun t_125 =>
  if t_125 = (0 : Int32) then (
  ez_b2 (z_X12_readLock σ h0) fun _ σ =>
  z_X12_readLine_133  σ h0 x1
  ) else (
  z_X12_readLine_133  σ h0 x1
  )
set_option maxRecDepth 100000 in
noncomputable def z_X12_readLine_109 (σ : ez_H) (h0 : Nat) (x1 : Int64) : Option (Unit × ez_H) :=
  ez_let (lg_cmp x1 (7038329 : Int64)) fun t_113 =>
  if t_113 = (0 : Int32) then (
  ez_b2 (z_X12_readKey σ h0) fun _ σ =>
  z_X12_readLine_121  σ h0 x1
  ) else (
  z_X12_readLine_121  σ h0 x1
  )
set_option maxRecDepth 100000 in
noncomputable def z_X12_readLine_85 (σ : ez_H) (h0 : Nat) (x1 : Int64) : Option (Unit × ez_H) :=
  ez_let (lg_cmp x1 (1937007984 : Int64)) fun t_89 =>
  if t_89 = (0 : Int32) then (
  ez_bd (ez_gr σ 12 h0 13) fun t_94 =>
  ez_bd (ez_gi σ 12 h0 44) fun t_98 =>
  ez_b2 (z_X12_once σ h0 (2 : Int32) (0 : Int32) (5 : Int32)) fun t_105 σ =>
  ez_bd (ez_is σ 1 t_94 t_98 t_105) fun σ =>
  z_X12_readLine_109  σ h0 x1
  ) else (
  z_X12_readLine_109  σ h0 x1
  )
set_option maxRecDepth 100000 in
noncomputable def z_X12_readLine_60 (σ : ez_H) (h0 : Nat) (x1 : Int64) : Option (Unit × ez_H) :=
  ez_let (lg_cmp x1 (110386841151603 : Int64)) fun t_64 =>
  if t_64 = (0 : Int32) then (
  ez_bd (ez_gr σ 12 h0 12) fun t_69 =>
  ez_bd (ez_gi σ 12 h0 44) fun t_73 =>
  ez_b2 (z_X12_once σ h0 (1 : Int32) (2 : Int32) (6 : Int32)) fun t_81 σ =>
  ez_bd (ez_is σ 1 t_69 t_73 t_81) fun σ =>
  z_X12_readLine_85  σ h0 x1
  ) else (
  z_X12_readLine_85  σ h0 x1
  )
set_option maxRecDepth 100000 in
noncomputable def z_X12_readLine_24 (σ : ez_H) (h0 : Nat) (x1 : Int64) : Option (Unit × ez_H) :=
  ez_bd (z_X12_isGood σ h0) fun t_25 =>
  if t_25 = (0 : Int32) then (
  some ((), σ)
  ) else (
  ez_b2 (z_X12_goOn σ h0) fun _ σ =>
  ez_let (lg_cmp x1 (7163082329762919027 : Int64)) fun t_40 =>
  if t_40 = (0 : Int32) then (
  ez_bd (ez_gr σ 12 h0 11) fun t_45 =>
  ez_bd (ez_gi σ 12 h0 44) fun t_49 =>
  ez_b2 (z_X12_once σ h0 (0 : Int32) (2 : Int32) (5 : Int32)) fun t_56 σ =>
  ez_bd (ez_is σ 1 t_45 t_49 t_56) fun σ =>
  z_X12_readLine_60  σ h0 x1
  ) else (
  z_X12_readLine_60  σ h0 x1
  )
  )
set_option maxRecDepth 100000 in
noncomputable def z_X12_readLine_20 (σ : ez_H) (h0 : Nat) (x1 : Int64) : Option (Unit × ez_H) :=
  ez_b2 (z_X12_misplaced σ h0) fun _ σ =>
  z_X12_readLine_24  σ h0 x1
set_option maxRecDepth 100000 in
noncomputable def z_X12_readLine (σ : ez_H) (h0 : Nat) : Option (Unit × ez_H) :=
  ez_bd (ez_ob σ 12 h0) fun _ =>
  ez_bd (ez_gl σ 12 h0 10) fun t_1 =>
  ez_bd (ez_gi σ 12 h0 8) fun t_6 =>
  if t_6 = (3 : Int32) then (
  ez_bd (z_X12_isFull σ h0) fun t_14 =>
  if t_14 = (0 : Int32) then (
  z_X12_readLine_24  σ h0 t_1
  ) else (
  z_X12_readLine_20  σ h0 t_1
  )
  ) else (
  z_X12_readLine_20  σ h0 t_1
  )
set_option maxRecDepth 100000 in
noncomputable def z_X12_plan_95 (σ : ez_H) (h0 : Nat) : Option (Int32 × ez_H) :=
  ez_bd (z_X12_isGood σ h0) fun t_96 =>
  if t_96 = (0 : Int32) then (
  some ((-1 : Int32), σ)
  ) else (
  ez_bd (ez_gi σ 12 h0 44) fun t_106 =>
  ez_bd (ez_pf σ 12 h0 43 (.inl t_106)) fun σ =>
  ez_b2 (z_X12_startAnew σ h0) fun _ σ =>
  ez_bd (ez_gr σ 12 h0 14) fun t_117 =>
  ez_bd (ez_gi σ 12 h0 43) fun t_121 =>
  ez_bd (ez_ia σ 1 t_117 t_121) fun t_124 =>
  some (t_124, σ)
  )
set_option maxRecDepth 100000 in
noncomputable def z_X12_plan_74 (k_74 : ez_H → Nat → Option (Int32 × ez_H)) (σ : ez_H) (h0 : Nat) : Option (Int32 × ez_H) :=
  ez_bd (z_X12_isGood σ h0) fun t_75 =>
  if t_75 = (0 : Int32) then (
  z_X12_plan_95  σ h0
  ) else (
  ez_bd (ez_gi σ 12 h0 8) fun t_82 =>
  if t_82 = (0 : Int32) then (
  z_X12_plan_95  σ h0
  ) else (
  ez_b2 (z_X12_readLine σ h0) fun _ σ =>
  k_74 σ h0
  )
  )
set_option maxRecDepth 100000 in
noncomputable def z_X12_plan_20 (k_20 : ez_H → Nat → Int32 → Option (Int32 × ez_H)) (σ : ez_H) (h0 : Nat) (x1 : Int32) : Option (Int32 × ez_H) :=
  ez_bd (ez_gi σ 12 h0 3) fun t_22 =>
  if t_22 ≤ x1 then (
  ez_bd (ez_pf σ 12 h0 2 (.inl (0 : Int32))) fun σ =>
  ez_bd (ez_pf σ 12 h0 7 (.inl (0 : Int32))) fun σ =>
  ez_bd (ez_gi σ 12 h0 43) fun t_59 =>
  ez_let ((1 : Int32) - t_59) fun t_62 =>
  ez_bd (ez_pf σ 12 h0 44 (.inl t_62)) fun σ =>
  ez_b2 (z_X12_clearBank σ h0) fun _ σ =>
  ez_b2 (z_X12_goOn σ h0) fun _ σ =>
  ez_fix (fun _ _ => none) (z_X12_plan_74 ) ez_N σ h0
  ) else (
  ez_bd (ez_gr σ 12 h0 1) fun t_29 =>
  ez_bd (ez_gr σ 12 h0 0) fun t_34 =>
  ez_bd (ez_ia σ 0 t_34 x1) fun t_38 =>
  ez_bd (ez_is σ 0 t_29 x1 (vp_nar .byte t_38)) fun σ =>
  ez_let (x1 + 1) fun t_40 =>
  k_20 σ h0 t_40
  )
set_option maxRecDepth 100000 in
noncomputable def z_X12_plan (σ : ez_H) (h0 : Nat) : Option (Int32 × ez_H) :=
  ez_bd (ez_ob σ 12 h0) fun _ =>
  ez_bd (ez_pf σ 12 h0 4 (.inl (0 : Int32))) fun σ =>
  ez_bd (ez_pf σ 12 h0 5 (.inl (-1 : Int32))) fun σ =>
  ez_bd (ez_gi σ 12 h0 2) fun t_12 =>
  ez_bd (ez_pf σ 12 h0 3 (.inl t_12)) fun σ =>
  ez_fix (fun _ _ _ => none) (z_X12_plan_20 ) ez_N σ h0 (0 : Int32)
set_option maxRecDepth 100000 in
noncomputable def z_X12_rank_30 (σ : ez_H) (k_14 : Nat → Int32 → Int32 → Int32 → Option (Int32)) (h0 : Nat) (x1 : Int32) (x2 : Int32) (x3 : Int32) : Option (Int32) :=
  ez_let (x3 + 1) fun t_30 =>
  k_14 h0 x1 x2 t_30
set_option maxRecDepth 100000 in
noncomputable def z_X12_rank_14 (σ : ez_H) (k_14 : Nat → Int32 → Int32 → Int32 → Option (Int32)) (h0 : Nat) (x1 : Int32) (x2 : Int32) (x3 : Int32) : Option (Int32) :=
  if x1 ≤ x3 then (
  some x2
  ) else (
  ez_bd (z_X12_isLegal σ h0 x3) fun t_21 =>
  if t_21 = (0 : Int32) then (
  z_X12_rank_30 σ k_14 h0 x1 x2 x3
  ) else (
  ez_let (x2 + 1) fun t_27 =>
  z_X12_rank_30 σ k_14 h0 x1 t_27 x3
  )
  )
set_option maxRecDepth 100000 in
noncomputable def z_X12_rank (σ : ez_H) (h0 : Nat) (x1 : Int32) : Option (Int32) :=
  ez_bd (ez_ob σ 12 h0) fun _ =>
  ez_bd (z_X12_isLegal σ h0 x1) fun t_2 =>
  if t_2 = (0 : Int32) then (
  some (-1 : Int32)
  ) else (
  ez_fix (fun _ _ _ _ => none) (z_X12_rank_14 σ) ez_N h0 x1 (0 : Int32) (0 : Int32)
  )
set_option maxRecDepth 100000 in
noncomputable def z_X12_recut_16 (σ : ez_H) : Option (Int32 × ez_H) :=
  some ((-1 : Int32), σ)
set_option maxRecDepth 100000 in
noncomputable def z_X12_recut (σ : ez_H) (h0 : Nat) (x1 : Int32) (x2 : Int32) : Option (Int32 × ez_H) :=
  ez_bd (ez_ob σ 12 h0) fun _ =>
  ez_bd (z_X12_isKey σ h0 x1) fun t_2 =>
  if t_2 = (0 : Int32) then (
  z_X12_recut_16  σ
  ) else (
  ez_bd (z_X12_isLegal σ h0 x2) fun t_10 =>
  if t_10 = (0 : Int32) then (
  z_X12_recut_16  σ
  ) else (
  ez_b2 (z_X12_keepAct σ h0) fun _ σ =>
  ez_bd (z_X12_numberOf σ h0 x1) fun t_24 =>
  ez_b2 (z_X12_cutAnew σ h0 x1 x2) fun _ σ =>
  ez_bd (ez_gr σ 12 h0 53) fun t_35 =>
  ez_let ((40 : Int32) + x1) fun t_41 =>
  ez_bd (ez_is σ 1 t_35 t_41 (0 : Int32)) fun σ =>
  some (t_24, σ)
  )
  )
set_option maxRecDepth 100000 in
noncomputable def z_X12_swapAll_2 (k_2 : ez_H → Nat → Int32 → Option (Unit × ez_H)) (σ : ez_H) (h0 : Nat) (x1 : Int32) : Option (Unit × ez_H) :=
  if (91 : Int32) ≤ x1 then (
  some ((), σ)
  ) else (
  ez_bd (ez_gr σ 12 h0 59) fun t_9 =>
  ez_bd (ez_gi σ 12 h0 60) fun t_15 =>
  ez_let ((91 : Int32) * t_15) fun t_18 =>
  ez_let (t_18 + x1) fun t_20 =>
  ez_bd (ez_ia σ 1 t_9 t_20) fun t_21 =>
  ez_bd (ez_gr σ 12 h0 59) fun t_24 =>
  ez_bd (ez_gi σ 12 h0 60) fun t_30 =>
  ez_let ((91 : Int32) * t_30) fun t_33 =>
  ez_let (t_33 + x1) fun t_35 =>
  ez_bd (ez_gr σ 12 h0 53) fun t_37 =>
  ez_bd (ez_ia σ 1 t_37 x1) fun t_41 =>
  ez_bd (ez_is σ 1 t_24 t_35 t_41) fun σ =>
  ez_bd (ez_gr σ 12 h0 53) fun t_44 =>
  ez_bd (ez_is σ 1 t_44 x1 t_21) fun σ =>
  ez_let (x1 + 1) fun t_50 =>
  k_2 σ h0 t_50
  )
set_option maxRecDepth 100000 in
noncomputable def z_X12_swapAll (σ : ez_H) (h0 : Nat) : Option (Unit × ez_H) :=
  ez_bd (ez_ob σ 12 h0) fun _ =>
  ez_fix (fun _ _ _ => none) (z_X12_swapAll_2 ) ez_N σ h0 (0 : Int32)
set_option maxRecDepth 100000 in
noncomputable def z_X12_redo (σ : ez_H) (h0 : Nat) : Option (Int32 × ez_H) :=
  ez_bd (ez_ob σ 12 h0) fun _ =>
  ez_bd (ez_gi σ 12 h0 61) fun t_1 =>
  if t_1 = (0 : Int32) then (
  some ((0 : Int32), σ)
  ) else (
  ez_b2 (z_X12_swapAll σ h0) fun _ σ =>
  ez_bd (ez_gi σ 12 h0 60) fun t_15 =>
  ez_let (t_15 + (1 : Int32)) fun t_19 =>
  ez_bd (ez_pf σ 12 h0 60 (.inl t_19)) fun σ =>
  ez_bd (ez_gi σ 12 h0 61) fun t_25 =>
  ez_let (t_25 - (1 : Int32)) fun t_29 =>
  ez_bd (ez_pf σ 12 h0 61 (.inl t_29)) fun σ =>
  some ((1 : Int32), σ)
  )
set_option maxRecDepth 100000 in
noncomputable def z_X12_doorsTo_110 (σ : ez_H) (k_8 : Nat → Int32 → Int32 → Int32 → Int32 → Option (Int32)) (k_34 : Nat → Int32 → Int32 → Int32 → Int32 → Int32 → Int32 → Option (Int32)) (h0 : Nat) (x2 : Int32) (x3 : Int32) (x4 : Int32) (x5 : Int32) (x6 : Int32) (x7 : Int32) : Option (Int32) :=
  ez_let (x7 + 1) fun t_110 =>
  k_34 h0 x2 x3 x4 x5 x6 t_110
set_option maxRecDepth 100000 in
noncomputable def z_X12_doorsTo_34 (σ : ez_H) (k_8 : Nat → Int32 → Int32 → Int32 → Int32 → Option (Int32)) (k_34 : Nat → Int32 → Int32 → Int32 → Int32 → Int32 → Int32 → Option (Int32)) (h0 : Nat) (x2 : Int32) (x3 : Int32) (x4 : Int32) (x5 : Int32) (x6 : Int32) (x7 : Int32) : Option (Int32) :=
  ez_bd (ez_gr σ 12 h0 17) fun t_37 =>
  ez_bd (ez_gi σ 12 h0 43) fun t_41 =>
  ez_bd (ez_ia σ 1 t_37 t_41) fun t_44 =>
  if t_44 ≤ x7 then (
  ez_let (x5 + 1) fun t_120 =>
  k_8 h0 x2 x3 x6 t_120
  ) else (
  ez_bd (ez_gi σ 12 h0 43) fun t_51 =>
  ez_let ((8 : Int32) * t_51) fun t_54 =>
  ez_let (t_54 + x7) fun t_57 =>
  ez_bd (ez_gr σ 12 h0 24) fun t_62 =>
  ez_bd (ez_ia σ 1 t_62 t_57) fun t_67 =>
  ez_let ((1 : Int32) <<< (t_67 &&& 31)) fun t_68 =>
  ez_bd (ez_gr σ 12 h0 25) fun t_71 =>
  ez_bd (ez_ia σ 1 t_71 t_57) fun t_76 =>
  ez_let ((1 : Int32) <<< (t_76 &&& 31)) fun t_77 =>
  ez_let (t_68 ||| t_77) fun t_78 =>
  ez_bd (ez_gr σ 12 h0 26) fun t_83 =>
  ez_bd (ez_ia σ 1 t_83 t_57) fun t_88 =>
  ez_bd (z_X12_bit σ x3 t_88) fun t_89 =>
  if t_89 = (0 : Int32) then (
  z_X12_doorsTo_110 σ k_8 k_34 h0 x2 x3 x4 x5 x6 x7
  ) else (
  ez_let (x4 &&& t_78) fun t_99 =>
  if t_99 = (0 : Int32) then (
  z_X12_doorsTo_110 σ k_8 k_34 h0 x2 x3 x4 x5 x6 x7
  ) else (
  ez_let (x6 ||| t_78) fun t_107 =>
  z_X12_doorsTo_110 σ k_8 k_34 h0 x2 x3 x4 x5 t_107 x7
  )
  )
  )
set_option maxRecDepth 100000 in
noncomputable def z_X12_doorsTo_8 (σ : ez_H) (k_8 : Nat → Int32 → Int32 → Int32 → Int32 → Option (Int32)) (h0 : Nat) (x2 : Int32) (x3 : Int32) (x4 : Int32) (x5 : Int32) : Option (Int32) :=
  if (6 : Int32) < x5 then (
  some (100000 : Int32)
  ) else (
  ez_bd (z_X12_bit σ x4 x2) fun t_18 =>
  if t_18 = (0 : Int32) then (
  ez_fix (fun _ _ _ _ _ _ _ => none) (z_X12_doorsTo_34 σ k_8) ez_N h0 x2 x3 x4 x5 x4 (0 : Int32)
  ) else (
  some x5
  )
  )
set_option maxRecDepth 100000 in
noncomputable def z_X12_doorsTo (σ : ez_H) (h0 : Nat) (x1 : Int32) (x2 : Int32) (x3 : Int32) : Option (Int32) :=
  ez_bd (ez_ob σ 12 h0) fun _ =>
  ez_let ((1 : Int32) <<< (x1 &&& 31)) fun t_2 =>
  ez_fix (fun _ _ _ _ _ => none) (z_X12_doorsTo_8 σ) ez_N h0 x2 x3 t_2 (0 : Int32)
set_option maxRecDepth 100000 in
noncomputable def z_X12_otherSide_49 (σ : ez_H) (y0 : Int32) : Option (Int32) :=
  some y0
set_option maxRecDepth 100000 in
noncomputable def z_X12_otherSide (σ : ez_H) (h0 : Nat) (x1 : Int32) (x2 : Int32) : Option (Int32) :=
  ez_bd (ez_ob σ 12 h0) fun _ =>
  ez_bd (ez_gi σ 12 h0 43) fun t_3 =>
  ez_let ((8 : Int32) * t_3) fun t_6 =>
  ez_let (t_6 + x1) fun t_8 =>
  ez_bd (ez_gr σ 12 h0 24) fun t_11 =>
  ez_bd (ez_ia σ 1 t_11 t_8) fun t_15 =>
  if t_15 = x2 then (
  ez_bd (ez_gr σ 12 h0 25) fun t_21 =>
  ez_bd (ez_ia σ 1 t_21 t_8) fun t_25 =>
  z_X12_otherSide_49 σ t_25
  ) else (
  ez_bd (ez_gr σ 12 h0 25) fun t_30 =>
  ez_bd (ez_ia σ 1 t_30 t_8) fun t_34 =>
  if t_34 = x2 then (
  ez_bd (ez_gr σ 12 h0 24) fun t_40 =>
  ez_bd (ez_ia σ 1 t_40 t_8) fun t_44 =>
  z_X12_otherSide_49 σ t_44
  ) else (
  z_X12_otherSide_49 σ (-1 : Int32)
  )
  )
set_option maxRecDepth 100000 in
noncomputable def z_X12_route_21 (σ : ez_H) : Option (Int32 × ez_H) :=
  some ((-1 : Int32), σ)
set_option maxRecDepth 100000 in
noncomputable def z_X12_route_127 (k_64 : ez_H → Nat → Int32 → Int32 → Int32 → Int32 → Option (Int32 × ez_H)) (k_73 : ez_H → Nat → Int32 → Int32 → Int32 → Int32 → Int32 → Option (Int32 × ez_H)) (σ : ez_H) (h0 : Nat) (x2 : Int32) (x3 : Int32) (x4 : Int32) (x5 : Int32) (x6 : Int32) : Option (Int32 × ez_H) :=
  ez_let (x6 + 1) fun t_127 =>
  k_73 σ h0 x2 x3 x4 x5 t_127
set_option maxRecDepth 100000 in
noncomputable def z_X12_route_73 (k_64 : ez_H → Nat → Int32 → Int32 → Int32 → Int32 → Option (Int32 × ez_H)) (k_73 : ez_H → Nat → Int32 → Int32 → Int32 → Int32 → Int32 → Option (Int32 × ez_H)) (σ : ez_H) (h0 : Nat) (x2 : Int32) (x3 : Int32) (x4 : Int32) (x5 : Int32) (x6 : Int32) : Option (Int32 × ez_H) :=
  ez_bd (ez_gr σ 12 h0 26) fun t_75 =>
  ez_bd (ez_gi σ 12 h0 43) fun t_81 =>
  ez_let ((8 : Int32) * t_81) fun t_84 =>
  ez_let (t_84 + x6) fun t_87 =>
  ez_bd (ez_ia σ 1 t_75 t_87) fun t_88 =>
  ez_bd (z_X12_bit σ x3 t_88) fun t_89 =>
  if t_89 = (0 : Int32) then (
  z_X12_route_127 k_64 k_73 σ h0 x2 x3 x4 x5 x6
  ) else (
  ez_bd (z_X12_otherSide σ h0 x6 x4) fun t_100 =>
  if t_100 < (0 : Int32) then (
  z_X12_route_127 k_64 k_73 σ h0 x2 x3 x4 x5 x6
  ) else (
  ez_bd (z_X12_otherSide σ h0 x6 x4) fun t_112 =>
  ez_bd (z_X12_doorsTo σ h0 t_112 x2 x3) fun t_117 =>
  ez_let (x5 - (1 : Int32)) fun t_123 =>
  if t_117 = t_123 then (
  ez_bd (ez_gr σ 12 h0 56) fun t_134 =>
  ez_bd (ez_gi σ 12 h0 57) fun t_138 =>
  ez_bd (ez_is σ 1 t_134 t_138 x6) fun σ =>
  ez_bd (ez_gi σ 12 h0 57) fun t_146 =>
  ez_let (t_146 + (1 : Int32)) fun t_150 =>
  ez_bd (ez_pf σ 12 h0 57 (.inl t_150)) fun σ =>
  ez_let (x5 + (-1)) fun t_154 =>
  ez_bd (z_X12_otherSide σ h0 x6 x4) fun t_162 =>
  k_64 σ h0 x2 x3 t_162 t_154
  ) else (
  z_X12_route_127 k_64 k_73 σ h0 x2 x3 x4 x5 x6
  )
  )
  )
set_option maxRecDepth 100000 in
noncomputable def z_X12_route_64 (k_64 : ez_H → Nat → Int32 → Int32 → Int32 → Int32 → Option (Int32 × ez_H)) (σ : ez_H) (h0 : Nat) (x2 : Int32) (x3 : Int32) (x4 : Int32) (x5 : Int32) : Option (Int32 × ez_H) :=
  if x4 = x2 then (
  ez_bd (ez_gi σ 12 h0 57) fun t_171 =>
  some (t_171, σ)
  ) else (
  ez_fix (fun _ _ _ _ _ _ _ => none) (z_X12_route_73 k_64) ez_N σ h0 x2 x3 x4 x5 (0 : Int32)
  )
set_option maxRecDepth 100000 in
noncomputable def z_X12_route (σ : ez_H) (h0 : Nat) (x1 : Int32) (x2 : Int32) : Option (Int32 × ez_H) :=
  ez_bd (ez_ob σ 12 h0) fun _ =>
  ez_bd (ez_pf σ 12 h0 57 (.inl (0 : Int32))) fun σ =>
  ez_bd (z_X12_isPerson σ h0 x1) fun t_7 =>
  if t_7 = (0 : Int32) then (
  z_X12_route_21  σ
  ) else (
  ez_bd (z_X12_isRoom σ h0 x2) fun t_15 =>
  if t_15 = (0 : Int32) then (
  z_X12_route_21  σ
  ) else (
  ez_bd (z_X12_keysOf σ h0 x1) fun t_26 =>
  ez_bd (z_X12_locksWith σ h0 t_26) fun t_29 =>
  ez_bd (ez_gr σ 12 h0 53) fun t_34 =>
  ez_let ((86 : Int32) + x1) fun t_40 =>
  ez_bd (ez_ia σ 1 t_34 t_40) fun t_41 =>
  ez_bd (z_X12_doorsTo σ h0 t_41 x2 t_29) fun t_49 =>
  if t_49 = (100000 : Int32) then (
  some ((-1 : Int32), σ)
  ) else (
  ez_fix (fun _ _ _ _ _ _ => none) (z_X12_route_64 ) ez_N σ h0 x2 t_29 t_41 t_49
  )
  )
  )
set_option maxRecDepth 100000 in
noncomputable def z_X12_span_16 (σ : ez_H) : Option (Int32) :=
  some (-1 : Int32)
set_option maxRecDepth 100000 in
noncomputable def z_X12_span_23 (σ : ez_H) (k_23 : Nat → Int32 → Int32 → Int32 → Int32 → Option (Int32)) (h0 : Nat) (x1 : Int32) (x2 : Int32) (x3 : Int32) (x4 : Int32) : Option (Int32) :=
  ez_bd (z_X12_wide σ h0) fun t_26 =>
  if t_26 ≤ x4 then (
  some x3
  ) else (
  ez_bd (z_X12_cutOf σ h0 x1 x4) fun t_37 =>
  ez_bd (z_X12_cutOf σ h0 x2 x4) fun t_44 =>
  ez_let (t_37 - t_44) fun t_47 =>
  ez_bd (z_X12_absolute σ t_47) fun t_48 =>
  ez_let (x3 + t_48) fun t_51 =>
  ez_let (x4 + 1) fun t_53 =>
  k_23 h0 x1 x2 t_51 t_53
  )
set_option maxRecDepth 100000 in
noncomputable def z_X12_span (σ : ez_H) (h0 : Nat) (x1 : Int32) (x2 : Int32) : Option (Int32) :=
  ez_bd (ez_ob σ 12 h0) fun _ =>
  ez_bd (z_X12_isKey σ h0 x1) fun t_2 =>
  if t_2 = (0 : Int32) then (
  z_X12_span_16 σ 
  ) else (
  ez_bd (z_X12_isKey σ h0 x2) fun t_10 =>
  if t_10 = (0 : Int32) then (
  z_X12_span_16 σ 
  ) else (
  ez_fix (fun _ _ _ _ _ => none) (z_X12_span_23 σ) ez_N h0 x1 x2 (0 : Int32) (0 : Int32)
  )
  )
set_option maxRecDepth 100000 in
noncomputable def z_X12_strays (σ : ez_H) (h0 : Nat) (x1 : Int32) : Option (Int32 × ez_H) :=
  ez_bd (ez_ob σ 12 h0) fun _ =>
  ez_bd (z_X12_isIn σ x1 (0 : Int32) (2 : Int32)) fun t_3 =>
  if t_3 = (0 : Int32) then (
  some ((-1 : Int32), σ)
  ) else (
  ez_b2 (z_X12_keepNow σ h0) fun _ σ =>
  ez_b2 (z_X12_pinByPlan σ h0) fun _ σ =>
  ez_bd (z_X12_straysBy σ h0 x1) fun t_21 =>
  ez_b2 (z_X12_bringBack σ h0) fun _ σ =>
  some (t_21, σ)
  )
set_option maxRecDepth 100000 in
noncomputable def z_X12_stuck_43 (σ : ez_H) (k_11 : Nat → Int32 → Int32 → Option (Int32)) (h0 : Nat) (x1 : Int32) (x2 : Int32) : Option (Int32) :=
  ez_let (x2 + 1) fun t_43 =>
  k_11 h0 x1 t_43
set_option maxRecDepth 100000 in
noncomputable def z_X12_stuck_11 (σ : ez_H) (k_11 : Nat → Int32 → Int32 → Option (Int32)) (h0 : Nat) (x1 : Int32) (x2 : Int32) : Option (Int32) :=
  ez_bd (z_X12_many σ h0) fun t_13 =>
  if t_13 ≤ x2 then (
  some x1
  ) else (
  ez_bd (z_X12_holderOf σ h0 x2) fun t_21 =>
  if t_21 = (-2 : Int32) then (
  z_X12_stuck_43 σ k_11 h0 x1 x2
  ) else (
  ez_bd (z_X12_numberOf σ h0 x2) fun t_33 =>
  ez_bd (z_X12_openedBy σ h0 t_33) fun t_36 =>
  ez_let (t_36 ^^^ (-1 : Int32)) fun t_40 =>
  ez_let (x1 &&& t_40) fun t_41 =>
  z_X12_stuck_43 σ k_11 h0 t_41 x2
  )
  )
set_option maxRecDepth 100000 in
noncomputable def z_X12_stuck (σ : ez_H) (h0 : Nat) : Option (Int32) :=
  ez_bd (ez_ob σ 12 h0) fun _ =>
  ez_bd (z_X12_bolts σ h0) fun t_2 =>
  ez_let ((1 : Int32) <<< (t_2 &&& 31)) fun t_5 =>
  ez_let (t_5 - (1 : Int32)) fun t_7 =>
  ez_fix (fun _ _ _ => none) (z_X12_stuck_11 σ) ez_N h0 t_7 (0 : Int32)
set_option maxRecDepth 100000 in
noncomputable def z_X12_sure_63 (σ : ez_H) (k_15 : Nat → Int32 → Int32 → Int32 → Int32 → Option (Int32)) (h0 : Nat) (x1 : Int32) (x2 : Int32) (x3 : Int32) (x4 : Int32) : Option (Int32) :=
  ez_let (x4 + 1) fun t_63 =>
  k_15 h0 x1 x2 x3 t_63
set_option maxRecDepth 100000 in
noncomputable def z_X12_sure_55 (σ : ez_H) (k_15 : Nat → Int32 → Int32 → Int32 → Int32 → Option (Int32)) (h0 : Nat) (x1 : Int32) (x2 : Int32) (x4 : Int32) : Option (Int32) :=
  ez_bd (z_X12_cutIn σ h0 x4 x1) fun t_59 =>
  z_X12_sure_63 σ k_15 h0 x1 x2 t_59 x4
set_option maxRecDepth 100000 in
noncomputable def z_X12_sure_15 (σ : ez_H) (k_15 : Nat → Int32 → Int32 → Int32 → Int32 → Option (Int32)) (h0 : Nat) (x1 : Int32) (x2 : Int32) (x3 : Int32) (x4 : Int32) : Option (Int32) :=
  ez_bd (z_X12_bittings σ h0) fun t_18 =>
  if t_18 ≤ x4 then (
  some x3
  ) else (
  ez_bd (z_X12_doesFit σ h0 x4 x2) fun t_28 =>
  if t_28 = (0 : Int32) then (
  z_X12_sure_63 σ k_15 h0 x1 x2 x3 x4
  ) else (
  if x3 < (0 : Int32) then (
  z_X12_sure_55 σ k_15 h0 x1 x2 x4
  ) else (
  ez_bd (z_X12_cutIn σ h0 x4 x1) fun t_45 =>
  if t_45 = x3 then (
  z_X12_sure_55 σ k_15 h0 x1 x2 x4
  ) else (
  some (-2 : Int32)
  )
  )
  )
  )
set_option maxRecDepth 100000 in
noncomputable def z_X12_sure (σ : ez_H) (h0 : Nat) (x1 : Int32) (x2 : Int32) : Option (Int32) :=
  ez_bd (ez_ob σ 12 h0) fun _ =>
  ez_bd (z_X12_isChamber σ h0 x1) fun t_2 =>
  if t_2 = (0 : Int32) then (
  some (-1 : Int32)
  ) else (
  ez_fix (fun _ _ _ _ _ => none) (z_X12_sure_15 σ) ez_N h0 x1 x2 (-1 : Int32) (0 : Int32)
  )
set_option maxRecDepth 100000 in
noncomputable def z_X12_together_188 (k_44 : ez_H → Nat → Int32 → Int32 → Option (Int32 × ez_H)) (k_52 : ez_H → Nat → Int32 → Int32 → Int32 → Option (Int32 × ez_H)) (σ : ez_H) (h0 : Nat) (x1 : Int32) (x2 : Int32) (x3 : Int32) : Option (Int32 × ez_H) :=
  ez_let (x3 + 1) fun t_188 =>
  k_52 σ h0 x1 x2 t_188
set_option maxRecDepth 100000 in
noncomputable def z_X12_together_52 (k_44 : ez_H → Nat → Int32 → Int32 → Option (Int32 × ez_H)) (k_52 : ez_H → Nat → Int32 → Int32 → Int32 → Option (Int32 × ez_H)) (σ : ez_H) (h0 : Nat) (x1 : Int32) (x2 : Int32) (x3 : Int32) : Option (Int32 × ez_H) :=
  if (16 : Int32) ≤ x3 then (
  k_44 σ h0 x1 x2
  ) else (
  ez_nz (4 : Int32) <|
  ez_let (x3 / (4 : Int32)) fun t_60 =>
  ez_nz (4 : Int32) <|
  ez_let (x3 - x3 / (4 : Int32) * (4 : Int32)) fun t_65 =>
  ez_bd (z_X12_isPerson σ h0 t_60) fun t_71 =>
  if t_71 = (0 : Int32) then (
  z_X12_together_188 k_44 k_52 σ h0 x1 x2 x3
  ) else (
  ez_bd (z_X12_isPerson σ h0 t_65) fun t_80 =>
  if t_80 = (0 : Int32) then (
  z_X12_together_188 k_44 k_52 σ h0 x1 x2 x3
  ) else (
  ez_bd (ez_gr σ 12 h0 58) fun t_87 =>
  ez_bd (ez_ia σ 1 t_87 t_60) fun t_92 =>
  ez_bd (ez_gr σ 12 h0 58) fun t_94 =>
  ez_bd (ez_ia σ 1 t_94 t_65) fun t_99 =>
  if t_92 = t_99 then (
  z_X12_together_188 k_44 k_52 σ h0 x1 x2 x3
  ) else (
  ez_bd (ez_gr σ 12 h0 53) fun t_108 =>
  ez_let ((86 : Int32) + t_60) fun t_115 =>
  ez_bd (ez_ia σ 1 t_108 t_115) fun t_116 =>
  ez_bd (ez_gr σ 12 h0 58) fun t_118 =>
  ez_bd (ez_ia σ 1 t_118 t_60) fun t_123 =>
  ez_bd (z_X12_reachBy σ h0 t_116 t_123) fun t_124 =>
  ez_bd (ez_gr σ 12 h0 53) fun t_129 =>
  ez_let ((86 : Int32) + t_65) fun t_136 =>
  ez_bd (ez_ia σ 1 t_129 t_136) fun t_137 =>
  ez_bd (ez_gr σ 12 h0 58) fun t_139 =>
  ez_bd (ez_ia σ 1 t_139 t_65) fun t_144 =>
  ez_bd (z_X12_reachBy σ h0 t_137 t_144) fun t_145 =>
  ez_let (t_124 &&& t_145) fun t_148 =>
  if t_148 = (0 : Int32) then (
  z_X12_together_188 k_44 k_52 σ h0 x1 x2 x3
  ) else (
  ez_bd (ez_gr σ 12 h0 58) fun t_156 =>
  ez_bd (ez_ia σ 1 t_156 t_60) fun t_162 =>
  ez_bd (ez_gr σ 12 h0 58) fun t_164 =>
  ez_bd (ez_ia σ 1 t_164 t_65) fun t_169 =>
  ez_let (t_162 ||| t_169) fun t_170 =>
  ez_bd (ez_is σ 1 t_156 t_60 t_170) fun σ =>
  ez_bd (ez_gr σ 12 h0 58) fun t_173 =>
  ez_bd (ez_gr σ 12 h0 58) fun t_179 =>
  ez_bd (ez_ia σ 1 t_179 t_60) fun t_184 =>
  ez_bd (ez_is σ 1 t_173 t_65 t_184) fun σ =>
  z_X12_together_188 k_44 k_52 σ h0 x1 (1 : Int32) x3
  )
  )
  )
  )
  )
set_option maxRecDepth 100000 in
noncomputable def z_X12_together_44 (k_44 : ez_H → Nat → Int32 → Int32 → Option (Int32 × ez_H)) (σ : ez_H) (h0 : Nat) (x1 : Int32) (x2 : Int32) : Option (Int32 × ez_H) :=
  if x2 = (0 : Int32) then (
  ez_bd (ez_gr σ 12 h0 53) fun t_199 =>
  ez_let ((86 : Int32) + x1) fun t_205 =>
  ez_bd (ez_ia σ 1 t_199 t_205) fun t_206 =>
  ez_bd (ez_gr σ 12 h0 58) fun t_208 =>
  ez_bd (ez_ia σ 1 t_208 x1) fun t_212 =>
  ez_bd (z_X12_reachBy σ h0 t_206 t_212) fun t_213 =>
  some (t_213, σ)
  ) else (
  ez_fix (fun _ _ _ _ _ => none) (z_X12_together_52 k_44) ez_N σ h0 x1 (0 : Int32) (0 : Int32)
  )
set_option maxRecDepth 100000 in
noncomputable def z_X12_together_12 (k_12 : ez_H → Nat → Int32 → Int32 → Option (Int32 × ez_H)) (σ : ez_H) (h0 : Nat) (x1 : Int32) (x2 : Int32) : Option (Int32 × ez_H) :=
  ez_bd (ez_gr σ 12 h0 18) fun t_14 =>
  ez_bd (ez_gi σ 12 h0 43) fun t_18 =>
  ez_bd (ez_ia σ 1 t_14 t_18) fun t_21 =>
  if t_21 ≤ x2 then (
  ez_fix (fun _ _ _ _ => none) (z_X12_together_44 ) ez_N σ h0 x1 (1 : Int32)
  ) else (
  ez_bd (ez_gr σ 12 h0 58) fun t_26 =>
  ez_bd (z_X12_keysOf σ h0 x2) fun t_32 =>
  ez_bd (ez_is σ 1 t_26 x2 t_32) fun σ =>
  ez_let (x2 + 1) fun t_36 =>
  k_12 σ h0 x1 t_36
  )
set_option maxRecDepth 100000 in
noncomputable def z_X12_together (σ : ez_H) (h0 : Nat) (x1 : Int32) : Option (Int32 × ez_H) :=
  ez_bd (ez_ob σ 12 h0) fun _ =>
  ez_bd (z_X12_isPerson σ h0 x1) fun t_2 =>
  if t_2 = (0 : Int32) then (
  some ((-1 : Int32), σ)
  ) else (
  ez_fix (fun _ _ _ _ => none) (z_X12_together_12 ) ez_N σ h0 x1 (0 : Int32)
  )
set_option maxRecDepth 100000 in
noncomputable def z_X12_areBetter_99 (σ : ez_H) (y0 : Int32) : Option (Int32) :=
  ez_nr .boolean y0 <|
  some y0
set_option maxRecDepth 100000 in
noncomputable def z_X12_areBetter_98 (σ : ez_H) : Option (Int32) :=
  z_X12_areBetter_99 σ (0 : Int32)
set_option maxRecDepth 100000 in
noncomputable def z_X12_areBetter (σ : ez_H) (h0 : Nat) (x1 : Int32) (x2 : Int32) (x3 : Int32) (x4 : Int32) : Option (Int32) :=
  ez_bd (ez_ob σ 12 h0) fun _ =>
  ez_bd (z_X12_keysOf σ h0 x1) fun t_2 =>
  ez_let ((1 : Int32) <<< (x3 &&& 31)) fun t_7 =>
  ez_let (t_7 ^^^ (-1 : Int32)) fun t_9 =>
  ez_let (t_2 &&& t_9) fun t_10 =>
  ez_let ((1 : Int32) <<< (x4 &&& 31)) fun t_14 =>
  ez_let (t_10 ||| t_14) fun t_15 =>
  ez_bd (z_X12_keysOf σ h0 x2) fun t_20 =>
  ez_let ((1 : Int32) <<< (x4 &&& 31)) fun t_26 =>
  ez_let (t_26 ^^^ (-1 : Int32)) fun t_28 =>
  ez_let (t_20 &&& t_28) fun t_29 =>
  ez_let ((1 : Int32) <<< (x3 &&& 31)) fun t_32 =>
  ez_let (t_29 ||| t_32) fun t_33 =>
  ez_bd (ez_gr σ 12 h0 53) fun t_38 =>
  ez_let ((86 : Int32) + x1) fun t_44 =>
  ez_bd (ez_ia σ 1 t_38 t_44) fun t_45 =>
  ez_bd (z_X12_reachBy σ h0 t_45 t_15) fun t_48 =>
  ez_bd (z_X12_bitsOf σ t_48) fun t_51 =>
  ez_bd (z_X12_reachOf σ h0 x1) fun t_56 =>
  ez_bd (z_X12_bitsOf σ t_56) fun t_59 =>
  if t_51 ≤ t_59 then (
  z_X12_areBetter_98 σ 
  ) else (
  ez_bd (ez_gr σ 12 h0 53) fun t_67 =>
  ez_let ((86 : Int32) + x2) fun t_73 =>
  ez_bd (ez_ia σ 1 t_67 t_73) fun t_74 =>
  ez_bd (z_X12_reachBy σ h0 t_74 t_33) fun t_77 =>
  ez_bd (z_X12_bitsOf σ t_77) fun t_80 =>
  ez_bd (z_X12_reachOf σ h0 x2) fun t_85 =>
  ez_bd (z_X12_bitsOf σ t_85) fun t_88 =>
  if t_80 ≤ t_88 then (
  z_X12_areBetter_98 σ 
  ) else (
  z_X12_areBetter_99 σ (1 : Int32)
  )
  )
set_option maxRecDepth 100000 in
noncomputable def z_X12_trade_30 (σ : ez_H) : Option (Int32) :=
  some (-1 : Int32)
set_option maxRecDepth 100000 in
noncomputable def z_X12_trade_104 (σ : ez_H) (k_35 : Nat → Int32 → Int32 → Int32 → Int32 → Option (Int32)) (k_47 : Nat → Int32 → Int32 → Int32 → Int32 → Int32 → Option (Int32)) (h0 : Nat) (x1 : Int32) (x2 : Int32) (x3 : Int32) (x4 : Int32) (x5 : Int32) : Option (Int32) :=
  ez_let (x5 + 1) fun t_104 =>
  k_47 h0 x1 x2 x3 x4 t_104
set_option maxRecDepth 100000 in
noncomputable def z_X12_trade_103 (σ : ez_H) (y0 : Int32) : Option (Int32) :=
  some y0
set_option maxRecDepth 100000 in
noncomputable def z_X12_trade_47 (σ : ez_H) (k_35 : Nat → Int32 → Int32 → Int32 → Int32 → Option (Int32)) (k_47 : Nat → Int32 → Int32 → Int32 → Int32 → Int32 → Option (Int32)) (h0 : Nat) (x1 : Int32) (x2 : Int32) (x3 : Int32) (x4 : Int32) (x5 : Int32) : Option (Int32) :=
  ez_bd (z_X12_many σ h0) fun t_50 =>
  if t_50 ≤ x5 then (
  ez_let (x4 + 1) fun t_110 =>
  k_35 h0 x1 x2 x3 t_110
  ) else (
  ez_bd (z_X12_holderOf σ h0 x4) fun t_59 =>
  if t_59 = x1 then (
  ez_bd (z_X12_holderOf σ h0 x5) fun t_69 =>
  if t_69 = x2 then (
  ez_bd (z_X12_areBetter σ h0 x1 x2 x4 x5) fun t_86 =>
  if t_86 = (0 : Int32) then (
  z_X12_trade_104 σ k_35 k_47 h0 x1 x2 x3 x4 x5
  ) else (
  if x3 = (0 : Int32) then (
  z_X12_trade_103 σ x4
  ) else (
  z_X12_trade_103 σ x5
  )
  )
  ) else (
  z_X12_trade_104 σ k_35 k_47 h0 x1 x2 x3 x4 x5
  )
  ) else (
  z_X12_trade_104 σ k_35 k_47 h0 x1 x2 x3 x4 x5
  )
  )
set_option maxRecDepth 100000 in
noncomputable def z_X12_trade_35 (σ : ez_H) (k_35 : Nat → Int32 → Int32 → Int32 → Int32 → Option (Int32)) (h0 : Nat) (x1 : Int32) (x2 : Int32) (x3 : Int32) (x4 : Int32) : Option (Int32) :=
  ez_bd (z_X12_many σ h0) fun t_38 =>
  if t_38 ≤ x4 then (
  some (-1 : Int32)
  ) else (
  ez_fix (fun _ _ _ _ _ _ => none) (z_X12_trade_47 σ k_35) ez_N h0 x1 x2 x3 x4 (0 : Int32)
  )
set_option maxRecDepth 100000 in
noncomputable def z_X12_trade (σ : ez_H) (h0 : Nat) (x1 : Int32) (x2 : Int32) (x3 : Int32) : Option (Int32) :=
  ez_bd (ez_ob σ 12 h0) fun _ =>
  ez_bd (z_X12_isPerson σ h0 x1) fun t_2 =>
  if t_2 = (0 : Int32) then (
  z_X12_trade_30 σ 
  ) else (
  ez_bd (z_X12_isPerson σ h0 x2) fun t_10 =>
  if t_10 = (0 : Int32) then (
  z_X12_trade_30 σ 
  ) else (
  if x1 = x2 then (
  z_X12_trade_30 σ 
  ) else (
  ez_bd (z_X12_isIn σ x3 (0 : Int32) (1 : Int32)) fun t_24 =>
  if t_24 = (0 : Int32) then (
  z_X12_trade_30 σ 
  ) else (
  ez_fix (fun _ _ _ _ _ => none) (z_X12_trade_35 σ) ez_N h0 x1 x2 x3 (0 : Int32)
  )
  )
  )
  )
set_option maxRecDepth 100000 in
noncomputable def z_X12_tried_17 (σ : ez_H) : Option (Int32 × ez_H) :=
  some ((-1 : Int32), σ)
set_option maxRecDepth 100000 in
noncomputable def z_X12_tried_46 (σ : ez_H) (h0 : Nat) (y0 : Nat) (y1 : Int32) (y2 : Int32) : Option (Int32 × ez_H) :=
  ez_bd (ez_is σ 1 y0 y1 y2) fun σ =>
  ez_bd (ez_gr σ 12 h0 64) fun t_48 =>
  ez_bd (ez_gi σ 12 h0 66) fun t_52 =>
  ez_bd (ez_gi σ 12 h0 67) fun t_56 =>
  ez_bd (ez_is σ 1 t_48 t_52 t_56) fun σ =>
  ez_bd (ez_gr σ 12 h0 65) fun t_61 =>
  ez_bd (ez_gi σ 12 h0 66) fun t_65 =>
  ez_bd (ez_is σ 1 t_61 t_65 (-1 : Int32)) fun σ =>
  ez_bd (ez_gi σ 12 h0 66) fun t_72 =>
  ez_let (t_72 + (1 : Int32)) fun t_76 =>
  ez_bd (ez_pf σ 12 h0 66 (.inl t_76)) fun σ =>
  ez_bd (ez_gi σ 12 h0 66) fun t_81 =>
  ez_let (t_81 - (1 : Int32)) fun t_85 =>
  some (t_85, σ)
set_option maxRecDepth 100000 in
noncomputable def z_X12_tried (σ : ez_H) (h0 : Nat) (x1 : Int32) (x2 : Int32) : Option (Int32 × ez_H) :=
  ez_bd (ez_ob σ 12 h0) fun _ =>
  ez_bd (z_X12_isLock σ h0 x1) fun t_2 =>
  if t_2 = (0 : Int32) then (
  z_X12_tried_17  σ
  ) else (
  ez_bd (ez_gi σ 12 h0 66) fun t_9 =>
  if t_9 = (30 : Int32) then (
  z_X12_tried_17  σ
  ) else (
  ez_bd (ez_gr σ 12 h0 62) fun t_20 =>
  ez_bd (ez_gi σ 12 h0 66) fun t_24 =>
  ez_bd (ez_is σ 1 t_20 t_24 x1) fun σ =>
  ez_bd (ez_gr σ 12 h0 63) fun t_30 =>
  ez_bd (ez_gi σ 12 h0 66) fun t_34 =>
  if x2 = (0 : Int32) then (
  z_X12_tried_46  σ h0 t_30 t_34 (0 : Int32)
  ) else (
  z_X12_tried_46  σ h0 t_30 t_34 (1 : Int32)
  )
  )
  )
set_option maxRecDepth 100000 in
noncomputable def z_X12_twin_48 (σ : ez_H) (k_14 : Nat → Int32 → Int32 → Int32 → Option (Int32)) (h0 : Nat) (x1 : Int32) (x2 : Int32) (x3 : Int32) : Option (Int32) :=
  ez_let (x3 + 1) fun t_48 =>
  k_14 h0 x1 x2 t_48
set_option maxRecDepth 100000 in
noncomputable def z_X12_twin_46 (σ : ez_H) (k_14 : Nat → Int32 → Int32 → Int32 → Option (Int32)) (h0 : Nat) (x1 : Int32) (x3 : Int32) : Option (Int32) :=
  z_X12_twin_48 σ k_14 h0 x1 x3 x3
set_option maxRecDepth 100000 in
noncomputable def z_X12_twin_14 (σ : ez_H) (k_14 : Nat → Int32 → Int32 → Int32 → Option (Int32)) (h0 : Nat) (x1 : Int32) (x2 : Int32) (x3 : Int32) : Option (Int32) :=
  ez_bd (z_X12_many σ h0) fun t_16 =>
  if t_16 ≤ x3 then (
  some x2
  ) else (
  if x3 = x1 then (
  z_X12_twin_48 σ k_14 h0 x1 x2 x3
  ) else (
  if x2 < (0 : Int32) then (
  z_X12_twin_46 σ k_14 h0 x1 x3
  ) else (
  ez_bd (z_X12_span σ h0 x1 x3) fun t_34 =>
  ez_bd (z_X12_span σ h0 x1 x2) fun t_40 =>
  if t_40 ≤ t_34 then (
  z_X12_twin_48 σ k_14 h0 x1 x2 x3
  ) else (
  z_X12_twin_46 σ k_14 h0 x1 x3
  )
  )
  )
  )
set_option maxRecDepth 100000 in
noncomputable def z_X12_twin (σ : ez_H) (h0 : Nat) (x1 : Int32) : Option (Int32) :=
  ez_bd (ez_ob σ 12 h0) fun _ =>
  ez_bd (z_X12_isKey σ h0 x1) fun t_2 =>
  if t_2 = (0 : Int32) then (
  some (-1 : Int32)
  ) else (
  ez_fix (fun _ _ _ _ => none) (z_X12_twin_14 σ) ez_N h0 x1 (-1 : Int32) (0 : Int32)
  )
set_option maxRecDepth 100000 in
noncomputable def z_X12_undo (σ : ez_H) (h0 : Nat) : Option (Int32 × ez_H) :=
  ez_bd (ez_ob σ 12 h0) fun _ =>
  ez_bd (ez_gi σ 12 h0 60) fun t_1 =>
  if t_1 = (0 : Int32) then (
  some ((0 : Int32), σ)
  ) else (
  ez_bd (ez_gi σ 12 h0 60) fun t_11 =>
  ez_let (t_11 - (1 : Int32)) fun t_15 =>
  ez_bd (ez_pf σ 12 h0 60 (.inl t_15)) fun σ =>
  ez_bd (ez_gi σ 12 h0 61) fun t_21 =>
  ez_let (t_21 + (1 : Int32)) fun t_25 =>
  ez_bd (ez_pf σ 12 h0 61 (.inl t_25)) fun σ =>
  ez_b2 (z_X12_swapAll σ h0) fun _ σ =>
  some ((1 : Int32), σ)
  )
set_option maxRecDepth 100000 in
noncomputable def z_X12_untell_23 (σ : ez_H) : Option (Int32 × ez_H) :=
  some ((0 : Int32), σ)
set_option maxRecDepth 100000 in
noncomputable def z_X12_untell (σ : ez_H) (h0 : Nat) (x1 : Int32) : Option (Int32 × ez_H) :=
  ez_bd (ez_ob σ 12 h0) fun _ =>
  ez_bd (ez_gi σ 12 h0 66) fun t_3 =>
  ez_let (t_3 - (1 : Int32)) fun t_7 =>
  ez_bd (z_X12_isIn σ x1 (0 : Int32) t_7) fun t_8 =>
  if t_8 = (0 : Int32) then (
  z_X12_untell_23  σ
  ) else (
  ez_bd (ez_gr σ 12 h0 65) fun t_15 =>
  ez_bd (ez_ia σ 1 t_15 x1) fun t_19 =>
  if t_19 < (0 : Int32) then (
  ez_bd (ez_gr σ 12 h0 65) fun t_26 =>
  ez_bd (ez_gi σ 12 h0 67) fun t_31 =>
  ez_bd (ez_is σ 1 t_26 x1 t_31) fun σ =>
  some ((1 : Int32), σ)
  ) else (
  z_X12_untell_23  σ
  )
  )
set_option maxRecDepth 100000 in
noncomputable def z_X12_walk_16 (σ : ez_H) : Option (Int32 × ez_H) :=
  some ((-1 : Int32), σ)
set_option maxRecDepth 100000 in
noncomputable def z_X12_walk_101 (σ : ez_H) : Option (Int32 × ez_H) :=
  some ((-1 : Int32), σ)
set_option maxRecDepth 100000 in
noncomputable def z_X12_walk_88 (σ : ez_H) (h0 : Nat) (x1 : Int32) (x3 : Int32) (x5 : Int32) : Option (Int32 × ez_H) :=
  if x3 < (0 : Int32) then (
  z_X12_walk_101  σ
  ) else (
  ez_bd (z_X12_many σ h0) fun t_95 =>
  if x5 = t_95 then (
  z_X12_walk_101  σ
  ) else (
  ez_b2 (z_X12_keepAct σ h0) fun _ σ =>
  ez_b2 (z_X12_use σ h0 x5) fun _ σ =>
  ez_bd (ez_gr σ 12 h0 53) fun t_114 =>
  ez_let ((86 : Int32) + x1) fun t_120 =>
  ez_bd (ez_is σ 1 t_114 t_120 x3) fun σ =>
  some (x3, σ)
  )
  )
set_option maxRecDepth 100000 in
noncomputable def z_X12_walk_82 (k_52 : ez_H → Nat → Int32 → Int32 → Int32 → Int32 → Option (Int32 × ez_H)) (σ : ez_H) (h0 : Nat) (x1 : Int32) (x3 : Int32) (x4 : Int32) (x5 : Int32) : Option (Int32 × ez_H) :=
  ez_let (x5 + 1) fun t_82 =>
  k_52 σ h0 x1 x3 x4 t_82
set_option maxRecDepth 100000 in
noncomputable def z_X12_walk_52 (k_52 : ez_H → Nat → Int32 → Int32 → Int32 → Int32 → Option (Int32 × ez_H)) (σ : ez_H) (h0 : Nat) (x1 : Int32) (x3 : Int32) (x4 : Int32) (x5 : Int32) : Option (Int32 × ez_H) :=
  ez_bd (z_X12_many σ h0) fun t_55 =>
  if t_55 ≤ x5 then (
  z_X12_walk_88  σ h0 x1 x3 x5
  ) else (
  ez_bd (z_X12_holderOf σ h0 x5) fun t_64 =>
  if t_64 = x1 then (
  ez_bd (z_X12_opensBy σ h0 x5 x4) fun t_76 =>
  if t_76 = (0 : Int32) then (
  z_X12_walk_82 k_52 σ h0 x1 x3 x4 x5
  ) else (
  z_X12_walk_88  σ h0 x1 x3 x5
  )
  ) else (
  z_X12_walk_82 k_52 σ h0 x1 x3 x4 x5
  )
  )
set_option maxRecDepth 100000 in
noncomputable def z_X12_walk (σ : ez_H) (h0 : Nat) (x1 : Int32) (x2 : Int32) : Option (Int32 × ez_H) :=
  ez_bd (ez_ob σ 12 h0) fun _ =>
  ez_bd (z_X12_isPerson σ h0 x1) fun t_2 =>
  if t_2 = (0 : Int32) then (
  z_X12_walk_16  σ
  ) else (
  ez_bd (z_X12_isDoor σ h0 x2) fun t_10 =>
  if t_10 = (0 : Int32) then (
  z_X12_walk_16  σ
  ) else (
  ez_bd (ez_gr σ 12 h0 53) fun t_21 =>
  ez_let ((86 : Int32) + x1) fun t_27 =>
  ez_bd (ez_ia σ 1 t_21 t_27) fun t_28 =>
  ez_bd (z_X12_otherSide σ h0 x2 t_28) fun t_29 =>
  ez_bd (ez_gr σ 12 h0 26) fun t_34 =>
  ez_bd (ez_gi σ 12 h0 43) fun t_40 =>
  ez_let ((8 : Int32) * t_40) fun t_43 =>
  ez_let (t_43 + x2) fun t_45 =>
  ez_bd (ez_ia σ 1 t_34 t_45) fun t_46 =>
  ez_fix (fun _ _ _ _ _ _ => none) (z_X12_walk_52 ) ez_N σ h0 x1 t_29 t_46 (0 : Int32)
  )
  )
