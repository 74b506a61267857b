set_option maxRecDepth 100000 in
noncomputable def z_X6_reset (σ : ez_H) (h0 : Nat) : Option (Unit × ez_H) :=
  ez_bd (ez_ob σ 6 h0) fun _ =>
  ez_bd (ez_pf σ 6 h0 0 (.inl (5 : Int32))) fun σ =>
  ez_bd (ez_pf σ 6 h0 1 (.inl (6 : Int32))) fun σ =>
  ez_bd (ez_pf σ 6 h0 2 (.inl (5 : Int32))) fun σ =>
  some ((), σ)
set_option maxRecDepth 100000 in
noncomputable def z_X6_init (σ : ez_H) (h0 : Nat) : Option (Unit × ez_H) :=
  ez_bd (ez_ob σ 6 h0) fun _ =>
  ez_nw σ (.inl (1, 30, [])) fun t_7 σ =>
  ez_bd (ez_pf σ 6 h0 3 (.inr (.inr (some t_7)))) fun σ =>
  ez_b2 (z_X6_reset σ h0) fun _ σ =>
  some ((), σ)
set_option maxRecDepth 100000 in
noncomputable def z_X0_init (σ : ez_H) (h0 : Nat) : Option (Unit × ez_H) :=
  ez_bd (ez_ob σ 0 h0) fun _ =>
  ez_bd (ez_pf σ 0 h0 0 (.inl (0 : Int32))) fun σ =>
  ez_bd (ez_pf σ 0 h0 1 (.inl (0 : Int32))) fun σ =>
  ez_nw σ (.inl (1, 270, [])) fun t_18 σ =>
  ez_bd (ez_pf σ 0 h0 2 (.inr (.inr (some t_18)))) fun σ =>
  ez_nw σ (.inl (1, 270, [])) fun t_27 σ =>
  ez_bd (ez_pf σ 0 h0 3 (.inr (.inr (some t_27)))) fun σ =>
  ez_nw σ (.inl (1, 31, [])) fun t_35 σ =>
  ez_bd (ez_pf σ 0 h0 4 (.inr (.inr (some t_35)))) fun σ =>
  some ((), σ)
set_option maxRecDepth 100000 in
noncomputable def z_X7_init (σ : ez_H) (h0 : Nat) : Option (Unit × ez_H) :=
  ez_bd (ez_ob σ 7 h0) fun _ =>
  ez_nw σ (.inl (1, 35, [])) fun t_7 σ =>
  ez_bd (ez_pf σ 7 h0 0 (.inr (.inr (some t_7)))) fun σ =>
  some ((), σ)
set_option maxRecDepth 100000 in
noncomputable def z_X3_init (σ : ez_H) (h0 : Nat) : Option (Unit × ez_H) :=
  ez_bd (ez_ob σ 3 h0) fun _ =>
  ez_nw σ (.inr (.inr (.inr (6, [.inl 0, .inl 0, .inl 0, .inr (.inr none)])))) fun t_5 σ =>
  ez_b2 (z_X6_init σ t_5) fun _ σ =>
  ez_bd (ez_pf σ 3 h0 0 (.inr (.inr (some t_5)))) fun σ =>
  ez_nw σ (.inr (.inr (.inr (0, [.inl 0, .inl 0, .inr (.inr none), .inr (.inr none), .inr (.inr none)])))) fun t_16 σ =>
  ez_b2 (z_X0_init σ t_16) fun _ σ =>
  ez_bd (ez_pf σ 3 h0 1 (.inr (.inr (some t_16)))) fun σ =>
  ez_nw σ (.inr (.inr (.inr (7, [.inr (.inr none)])))) fun t_27 σ =>
  ez_b2 (z_X7_init σ t_27) fun _ σ =>
  ez_bd (ez_pf σ 3 h0 2 (.inr (.inr (some t_27)))) fun σ =>
  ez_nw σ (.inl (1, 8, [])) fun t_40 σ =>
  ez_bd (ez_pf σ 3 h0 8 (.inr (.inr (some t_40)))) fun σ =>
  ez_nw σ (.inl (1, 8, [])) fun t_48 σ =>
  ez_bd (ez_pf σ 3 h0 9 (.inr (.inr (some t_48)))) fun σ =>
  ez_nw σ (.inl (1, 8, [])) fun t_56 σ =>
  ez_bd (ez_pf σ 3 h0 10 (.inr (.inr (some t_56)))) fun σ =>
  ez_nw σ (.inl (1, 6, [])) fun t_64 σ =>
  ez_bd (ez_pf σ 3 h0 11 (.inr (.inr (some t_64)))) fun σ =>
  ez_nw σ (.inl (1, 6, [])) fun t_72 σ =>
  ez_bd (ez_pf σ 3 h0 12 (.inr (.inr (some t_72)))) fun σ =>
  some ((), σ)
set_option maxRecDepth 100000 in
noncomputable def z_J0_coder_7d493_s0_14 (σ : ez_H) (y0 : Int32) : Option (Int32) :=
  ez_nr .byte y0 <|
  some y0
set_option maxRecDepth 100000 in
noncomputable def z_J0_coder_7d493_s0 (σ : ez_H) : Option (Int32) :=
  z_J0_coder_7d493_s0_14 σ (0 : Int32)
set_option maxRecDepth 100000 in
noncomputable def z_J0_length_8abf5_s0 (σ : ez_H) : Option (Int32) :=
  ez_bd (z_J0_coder_7d493_s0 σ ) fun t_6 =>
  ez_let ((120 : Int32) >>> (t_6 &&& 31)) fun t_9 =>
  some t_9
set_option maxRecDepth 100000 in
noncomputable def z_J0_isLatin1_aae02_s0_18 (σ : ez_H) (y0 : Int32) : Option (Int32) :=
  ez_nr .boolean y0 <|
  some y0
set_option maxRecDepth 100000 in
noncomputable def z_J0_isLatin1_aae02_s0 (σ : ez_H) : Option (Int32) :=
  z_J0_isLatin1_aae02_s0_18 σ (1 : Int32)
set_option maxRecDepth 100000 in
noncomputable def z_J3_checkIndex_8e157_n0_9 (σ : ez_H) (x0 : Int32) (x1 : Int32) : Option (Int32) :=
  none
set_option maxRecDepth 100000 in
noncomputable def z_J3_checkIndex_8e157_n0 (σ : ez_H) (x0 : Int32) (x1 : Int32) : Option (Int32) :=
  if x0 < (0 : Int32) then (
  z_J3_checkIndex_8e157_n0_9 σ x0 x1
  ) else (
  if x0 < x1 then (
  some x0
  ) else (
  z_J3_checkIndex_8e157_n0_9 σ x0 x1
  )
  )
set_option maxRecDepth 100000 in
noncomputable def z_J3_checkIndex_8e157_e0_9 (σ : ez_H) (x0 : Int32) (x1 : Int32) : Option (Int32) :=
  none
set_option maxRecDepth 100000 in
noncomputable def z_J3_checkIndex_8e157_e0 (σ : ez_H) (x0 : Int32) (x1 : Int32) : Option (Int32) :=
  if x0 < (0 : Int32) then (
  z_J3_checkIndex_8e157_e0_9 σ x0 x1
  ) else (
  if x0 < x1 then (
  some x0
  ) else (
  z_J3_checkIndex_8e157_e0_9 σ x0 x1
  )
  )
set_option maxRecDepth 100000 in
noncomputable def z_J0_checkIndex_df160 (σ : ez_H) (x0 : Int32) (x1 : Int32) : Option (Unit) :=
  ez_bd (z_J3_checkIndex_8e157_e0 σ x0 x1) fun t_5 =>
  some ()
set_option maxRecDepth 100000 in
noncomputable def z_J1_charAt_3b067_v0 (σ : ez_H) (x1 : Int32) : Option (Int32) :=
  ez_bd (z_J0_checkIndex_df160 σ x1 (120 : Int32)) fun _ =>
  ez_bd (ez_tx 0 x1) fun t_8 =>
  ez_let (t_8 &&& (255 : Int32)) fun t_12 =>
  ez_let ((Int32.toUInt32 t_12 % 65536).toInt32) fun t_13 =>
  ez_nr .char t_13 <|
  some t_13
set_option maxRecDepth 100000 in
noncomputable def z_J0_charAt_5068e_s0 (σ : ez_H) (x1 : Int32) : Option (Int32) :=
  ez_bd (z_J0_isLatin1_aae02_s0 σ ) fun t_1 =>
  if t_1 = (0 : Int32) then (
  none
  ) else (
  ez_bd (z_J1_charAt_3b067_v0 σ x1) fun t_12 =>
  ez_nr .char t_12 <|
  some t_12
  )
set_option maxRecDepth 100000 in
noncomputable def z_X9_withLetter (σ : ez_H) (x0 : Int64) (x2 : Int32) : Option (Int64) :=
  ez_let (x0 * (32 : Int64)) fun t_4 =>
  ez_let (x2 - (97 : Int32)) fun t_8 =>
  ez_let (t_8 + (1 : Int32)) fun t_10 =>
  ez_let (Int32.toInt64 t_10) fun t_11 =>
  ez_let (t_4 + t_11) fun t_12 =>
  some t_12
set_option maxRecDepth 100000 in
noncomputable def z_X9_init_78 (k_24 : ez_H → Nat → Int32 → Int64 → Int32 → Option (Unit × ez_H)) (σ : ez_H) (h0 : Nat) (x2 : Int32) (x3 : Int64) (x5 : Int32) : Option (Unit × ez_H) :=
  ez_let (x5 + 1) fun t_78 =>
  k_24 σ h0 x2 x3 t_78
set_option maxRecDepth 100000 in
noncomputable def z_X9_init_24 (k_24 : ez_H → Nat → Int32 → Int64 → Int32 → Option (Unit × ez_H)) (σ : ez_H) (h0 : Nat) (x2 : Int32) (x3 : Int64) (x5 : Int32) : Option (Unit × ez_H) :=
  ez_bd (z_J0_length_8abf5_s0 σ ) fun t_28 =>
  if t_28 ≤ x5 then (
  some ((), σ)
  ) else (
  ez_bd (z_J0_charAt_5068e_s0 σ x5) fun t_38 =>
  if t_38 = (32 : Int32) then (
  if (23 : Int32) ≤ x2 then (
  z_X9_init_78 k_24 σ h0 x2 x3 x5
  ) else (
  ez_bd (ez_gr σ 9 h0 1) fun t_67 =>
  ez_bd (ez_lst σ t_67 x2 x3) fun σ =>
  ez_let (x2 + 1) fun t_73 =>
  z_X9_init_78 k_24 σ h0 t_73 (0 : Int64) x5
  )
  ) else (
  ez_bd (z_X9_withLetter σ x3 t_38) fun t_53 =>
  z_X9_init_78 k_24 σ h0 x2 t_53 x5
  )
  )
set_option maxRecDepth 100000 in
noncomputable def z_X9_init (σ : ez_H) (h0 : Nat) (h1 : Nat) : Option (Unit × ez_H) :=
  ez_bd (ez_ob σ 9 h0) fun _ =>
  ez_bd (ez_pf σ 9 h0 0 (.inr (.inr (some h1)))) fun σ =>
  ez_nw σ (.inr (.inl (23, []))) fun t_12 σ =>
  ez_bd (ez_pf σ 9 h0 1 (.inr (.inr (some t_12)))) fun σ =>
  ez_fix (fun _ _ _ _ _ => none) (z_X9_init_24 ) ez_N σ h0 (0 : Int32) (0 : Int64) (0 : Int32)
set_option maxRecDepth 100000 in
noncomputable def z_X4_init (σ : ez_H) (h0 : Nat) (h1 : Nat) : Option (Unit × ez_H) :=
  ez_bd (ez_ob σ 4 h0) fun _ =>
  ez_nw σ (.inr (.inr (.inr (3, [.inr (.inr none), .inr (.inr none), .inr (.inr none), .inl 0, .inl 0, .inl 0, .inl 0, .inl 0, .inr (.inr none), .inr (.inr none), .inr (.inr none), .inr (.inr none), .inr (.inr none)])))) fun t_5 σ =>
  ez_b2 (z_X3_init σ t_5) fun _ σ =>
  ez_bd (ez_pf σ 4 h0 0 (.inr (.inr (some t_5)))) fun σ =>
  ez_bd (ez_pf σ 4 h0 1 (.inl (0 : Int32))) fun σ =>
  ez_bd (ez_pf σ 4 h0 2 (.inl (-1 : Int32))) fun σ =>
  ez_nw σ (.inr (.inr (.inr (9, [.inr (.inr none), .inr (.inr none), .inl 0, .inl 0, .inl 0, .inl 0, .inl 0, .inr (.inl 0)])))) fun t_26 σ =>
  ez_b2 (z_X9_init σ t_26 h1) fun _ σ =>
  ez_bd (ez_pf σ 4 h0 3 (.inr (.inr (some t_26)))) fun σ =>
  ez_mn σ 5 8 fun t_41 σ =>
  ez_bd (ez_pf σ 4 h0 4 (.inr (.inr (some t_41)))) fun σ =>
  some ((), σ)
set_option maxRecDepth 100000 in
noncomputable def z_X1_init (σ : ez_H) (h0 : Nat) : Option (Unit × ez_H) :=
  ez_bd (ez_ob σ 1 h0) fun _ =>
  ez_nw σ (.inr (.inr (.inl (4, 41, [])))) fun t_7_425 σ =>
  ez_bd (ez_pf σ 1 h0 0 (.inr (.inr (some t_7_425)))) fun σ =>
  ez_bd (ez_gr σ 1 h0 0) fun t_22_432 =>
  ez_nw σ (.inr (.inr (.inr (7, [.inr (.inr none)])))) fun t_26_434 σ =>
  ez_b2 (z_X7_init σ t_26_434) fun _ σ =>
  ez_bd (ez_rs σ t_22_432 (0 : Int32) t_26_434) fun σ =>
  ez_bd (ez_gr σ 1 h0 0) fun t_22_442 =>
  ez_nw σ (.inr (.inr (.inr (7, [.inr (.inr none)])))) fun t_26_444 σ =>
  ez_b2 (z_X7_init σ t_26_444) fun _ σ =>
  ez_bd (ez_rs σ t_22_442 (1 : Int32) t_26_444) fun σ =>
  ez_bd (ez_gr σ 1 h0 0) fun t_22_452 =>
  ez_nw σ (.inr (.inr (.inr (7, [.inr (.inr none)])))) fun t_26_454 σ =>
  ez_b2 (z_X7_init σ t_26_454) fun _ σ =>
  ez_bd (ez_rs σ t_22_452 (2 : Int32) t_26_454) fun σ =>
  ez_bd (ez_gr σ 1 h0 0) fun t_22_462 =>
  ez_nw σ (.inr (.inr (.inr (7, [.inr (.inr none)])))) fun t_26_464 σ =>
  ez_b2 (z_X7_init σ t_26_464) fun _ σ =>
  ez_bd (ez_rs σ t_22_462 (3 : Int32) t_26_464) fun σ =>
  ez_bd (ez_gr σ 1 h0 0) fun t_22_472 =>
  ez_nw σ (.inr (.inr (.inr (7, [.inr (.inr none)])))) fun t_26_474 σ =>
  ez_b2 (z_X7_init σ t_26_474) fun _ σ =>
  ez_bd (ez_rs σ t_22_472 (4 : Int32) t_26_474) fun σ =>
  ez_bd (ez_gr σ 1 h0 0) fun t_22_482 =>
  ez_nw σ (.inr (.inr (.inr (7, [.inr (.inr none)])))) fun t_26_484 σ =>
  ez_b2 (z_X7_init σ t_26_484) fun _ σ =>
  ez_bd (ez_rs σ t_22_482 (5 : Int32) t_26_484) fun σ =>
  ez_bd (ez_gr σ 1 h0 0) fun t_22_492 =>
  ez_nw σ (.inr (.inr (.inr (7, [.inr (.inr none)])))) fun t_26_494 σ =>
  ez_b2 (z_X7_init σ t_26_494) fun _ σ =>
  ez_bd (ez_rs σ t_22_492 (6 : Int32) t_26_494) fun σ =>
  ez_bd (ez_gr σ 1 h0 0) fun t_22_502 =>
  ez_nw σ (.inr (.inr (.inr (7, [.inr (.inr none)])))) fun t_26_504 σ =>
  ez_b2 (z_X7_init σ t_26_504) fun _ σ =>
  ez_bd (ez_rs σ t_22_502 (7 : Int32) t_26_504) fun σ =>
  ez_bd (ez_gr σ 1 h0 0) fun t_22_512 =>
  ez_nw σ (.inr (.inr (.inr (7, [.inr (.inr none)])))) fun t_26_514 σ =>
  ez_b2 (z_X7_init σ t_26_514) fun _ σ =>
  ez_bd (ez_rs σ t_22_512 (8 : Int32) t_26_514) fun σ =>
  ez_bd (ez_gr σ 1 h0 0) fun t_22_522 =>
  ez_nw σ (.inr (.inr (.inr (7, [.inr (.inr none)])))) fun t_26_524 σ =>
  ez_b2 (z_X7_init σ t_26_524) fun _ σ =>
  ez_bd (ez_rs σ t_22_522 (9 : Int32) t_26_524) fun σ =>
  ez_bd (ez_gr σ 1 h0 0) fun t_22_532 =>
  ez_nw σ (.inr (.inr (.inr (7, [.inr (.inr none)])))) fun t_26_534 σ =>
  ez_b2 (z_X7_init σ t_26_534) fun _ σ =>
  ez_bd (ez_rs σ t_22_532 (10 : Int32) t_26_534) fun σ =>
  ez_bd (ez_gr σ 1 h0 0) fun t_22_542 =>
  ez_nw σ (.inr (.inr (.inr (7, [.inr (.inr none)])))) fun t_26_544 σ =>
  ez_b2 (z_X7_init σ t_26_544) fun _ σ =>
  ez_bd (ez_rs σ t_22_542 (11 : Int32) t_26_544) fun σ =>
  ez_bd (ez_gr σ 1 h0 0) fun t_22_552 =>
  ez_nw σ (.inr (.inr (.inr (7, [.inr (.inr none)])))) fun t_26_554 σ =>
  ez_b2 (z_X7_init σ t_26_554) fun _ σ =>
  ez_bd (ez_rs σ t_22_552 (12 : Int32) t_26_554) fun σ =>
  ez_bd (ez_gr σ 1 h0 0) fun t_22_562 =>
  ez_nw σ (.inr (.inr (.inr (7, [.inr (.inr none)])))) fun t_26_564 σ =>
  ez_b2 (z_X7_init σ t_26_564) fun _ σ =>
  ez_bd (ez_rs σ t_22_562 (13 : Int32) t_26_564) fun σ =>
  ez_bd (ez_gr σ 1 h0 0) fun t_22_572 =>
  ez_nw σ (.inr (.inr (.inr (7, [.inr (.inr none)])))) fun t_26_574 σ =>
  ez_b2 (z_X7_init σ t_26_574) fun _ σ =>
  ez_bd (ez_rs σ t_22_572 (14 : Int32) t_26_574) fun σ =>
  ez_bd (ez_gr σ 1 h0 0) fun t_22_582 =>
  ez_nw σ (.inr (.inr (.inr (7, [.inr (.inr none)])))) fun t_26_584 σ =>
  ez_b2 (z_X7_init σ t_26_584) fun _ σ =>
  ez_bd (ez_rs σ t_22_582 (15 : Int32) t_26_584) fun σ =>
  ez_bd (ez_gr σ 1 h0 0) fun t_22_592 =>
  ez_nw σ (.inr (.inr (.inr (7, [.inr (.inr none)])))) fun t_26_594 σ =>
  ez_b2 (z_X7_init σ t_26_594) fun _ σ =>
  ez_bd (ez_rs σ t_22_592 (16 : Int32) t_26_594) fun σ =>
  ez_bd (ez_gr σ 1 h0 0) fun t_22_602 =>
  ez_nw σ (.inr (.inr (.inr (7, [.inr (.inr none)])))) fun t_26_604 σ =>
  ez_b2 (z_X7_init σ t_26_604) fun _ σ =>
  ez_bd (ez_rs σ t_22_602 (17 : Int32) t_26_604) fun σ =>
  ez_bd (ez_gr σ 1 h0 0) fun t_22_612 =>
  ez_nw σ (.inr (.inr (.inr (7, [.inr (.inr none)])))) fun t_26_614 σ =>
  ez_b2 (z_X7_init σ t_26_614) fun _ σ =>
  ez_bd (ez_rs σ t_22_612 (18 : Int32) t_26_614) fun σ =>
  ez_bd (ez_gr σ 1 h0 0) fun t_22_622 =>
  ez_nw σ (.inr (.inr (.inr (7, [.inr (.inr none)])))) fun t_26_624 σ =>
  ez_b2 (z_X7_init σ t_26_624) fun _ σ =>
  ez_bd (ez_rs σ t_22_622 (19 : Int32) t_26_624) fun σ =>
  ez_bd (ez_gr σ 1 h0 0) fun t_22_632 =>
  ez_nw σ (.inr (.inr (.inr (7, [.inr (.inr none)])))) fun t_26_634 σ =>
  ez_b2 (z_X7_init σ t_26_634) fun _ σ =>
  ez_bd (ez_rs σ t_22_632 (20 : Int32) t_26_634) fun σ =>
  ez_bd (ez_gr σ 1 h0 0) fun t_22_642 =>
  ez_nw σ (.inr (.inr (.inr (7, [.inr (.inr none)])))) fun t_26_644 σ =>
  ez_b2 (z_X7_init σ t_26_644) fun _ σ =>
  ez_bd (ez_rs σ t_22_642 (21 : Int32) t_26_644) fun σ =>
  ez_bd (ez_gr σ 1 h0 0) fun t_22_652 =>
  ez_nw σ (.inr (.inr (.inr (7, [.inr (.inr none)])))) fun t_26_654 σ =>
  ez_b2 (z_X7_init σ t_26_654) fun _ σ =>
  ez_bd (ez_rs σ t_22_652 (22 : Int32) t_26_654) fun σ =>
  ez_bd (ez_gr σ 1 h0 0) fun t_22_662 =>
  ez_nw σ (.inr (.inr (.inr (7, [.inr (.inr none)])))) fun t_26_664 σ =>
  ez_b2 (z_X7_init σ t_26_664) fun _ σ =>
  ez_bd (ez_rs σ t_22_662 (23 : Int32) t_26_664) fun σ =>
  ez_bd (ez_gr σ 1 h0 0) fun t_22_672 =>
  ez_nw σ (.inr (.inr (.inr (7, [.inr (.inr none)])))) fun t_26_674 σ =>
  ez_b2 (z_X7_init σ t_26_674) fun _ σ =>
  ez_bd (ez_rs σ t_22_672 (24 : Int32) t_26_674) fun σ =>
  ez_bd (ez_gr σ 1 h0 0) fun t_22_682 =>
  ez_nw σ (.inr (.inr (.inr (7, [.inr (.inr none)])))) fun t_26_684 σ =>
  ez_b2 (z_X7_init σ t_26_684) fun _ σ =>
  ez_bd (ez_rs σ t_22_682 (25 : Int32) t_26_684) fun σ =>
  ez_bd (ez_gr σ 1 h0 0) fun t_22_692 =>
  ez_nw σ (.inr (.inr (.inr (7, [.inr (.inr none)])))) fun t_26_694 σ =>
  ez_b2 (z_X7_init σ t_26_694) fun _ σ =>
  ez_bd (ez_rs σ t_22_692 (26 : Int32) t_26_694) fun σ =>
  ez_bd (ez_gr σ 1 h0 0) fun t_22_702 =>
  ez_nw σ (.inr (.inr (.inr (7, [.inr (.inr none)])))) fun t_26_704 σ =>
  ez_b2 (z_X7_init σ t_26_704) fun _ σ =>
  ez_bd (ez_rs σ t_22_702 (27 : Int32) t_26_704) fun σ =>
  ez_bd (ez_gr σ 1 h0 0) fun t_22_712 =>
  ez_nw σ (.inr (.inr (.inr (7, [.inr (.inr none)])))) fun t_26_714 σ =>
  ez_b2 (z_X7_init σ t_26_714) fun _ σ =>
  ez_bd (ez_rs σ t_22_712 (28 : Int32) t_26_714) fun σ =>
  ez_bd (ez_gr σ 1 h0 0) fun t_22_722 =>
  ez_nw σ (.inr (.inr (.inr (7, [.inr (.inr none)])))) fun t_26_724 σ =>
  ez_b2 (z_X7_init σ t_26_724) fun _ σ =>
  ez_bd (ez_rs σ t_22_722 (29 : Int32) t_26_724) fun σ =>
  ez_bd (ez_gr σ 1 h0 0) fun t_22_732 =>
  ez_nw σ (.inr (.inr (.inr (7, [.inr (.inr none)])))) fun t_26_734 σ =>
  ez_b2 (z_X7_init σ t_26_734) fun _ σ =>
  ez_bd (ez_rs σ t_22_732 (30 : Int32) t_26_734) fun σ =>
  ez_bd (ez_gr σ 1 h0 0) fun t_22_742 =>
  ez_nw σ (.inr (.inr (.inr (7, [.inr (.inr none)])))) fun t_26_744 σ =>
  ez_b2 (z_X7_init σ t_26_744) fun _ σ =>
  ez_bd (ez_rs σ t_22_742 (31 : Int32) t_26_744) fun σ =>
  ez_bd (ez_gr σ 1 h0 0) fun t_22_752 =>
  ez_nw σ (.inr (.inr (.inr (7, [.inr (.inr none)])))) fun t_26_754 σ =>
  ez_b2 (z_X7_init σ t_26_754) fun _ σ =>
  ez_bd (ez_rs σ t_22_752 (32 : Int32) t_26_754) fun σ =>
  ez_bd (ez_gr σ 1 h0 0) fun t_22_762 =>
  ez_nw σ (.inr (.inr (.inr (7, [.inr (.inr none)])))) fun t_26_764 σ =>
  ez_b2 (z_X7_init σ t_26_764) fun _ σ =>
  ez_bd (ez_rs σ t_22_762 (33 : Int32) t_26_764) fun σ =>
  ez_bd (ez_gr σ 1 h0 0) fun t_22_772 =>
  ez_nw σ (.inr (.inr (.inr (7, [.inr (.inr none)])))) fun t_26_774 σ =>
  ez_b2 (z_X7_init σ t_26_774) fun _ σ =>
  ez_bd (ez_rs σ t_22_772 (34 : Int32) t_26_774) fun σ =>
  ez_bd (ez_gr σ 1 h0 0) fun t_22_782 =>
  ez_nw σ (.inr (.inr (.inr (7, [.inr (.inr none)])))) fun t_26_784 σ =>
  ez_b2 (z_X7_init σ t_26_784) fun _ σ =>
  ez_bd (ez_rs σ t_22_782 (35 : Int32) t_26_784) fun σ =>
  ez_bd (ez_gr σ 1 h0 0) fun t_22_792 =>
  ez_nw σ (.inr (.inr (.inr (7, [.inr (.inr none)])))) fun t_26_794 σ =>
  ez_b2 (z_X7_init σ t_26_794) fun _ σ =>
  ez_bd (ez_rs σ t_22_792 (36 : Int32) t_26_794) fun σ =>
  ez_bd (ez_gr σ 1 h0 0) fun t_22_802 =>
  ez_nw σ (.inr (.inr (.inr (7, [.inr (.inr none)])))) fun t_26_804 σ =>
  ez_b2 (z_X7_init σ t_26_804) fun _ σ =>
  ez_bd (ez_rs σ t_22_802 (37 : Int32) t_26_804) fun σ =>
  ez_bd (ez_gr σ 1 h0 0) fun t_22_812 =>
  ez_nw σ (.inr (.inr (.inr (7, [.inr (.inr none)])))) fun t_26_814 σ =>
  ez_b2 (z_X7_init σ t_26_814) fun _ σ =>
  ez_bd (ez_rs σ t_22_812 (38 : Int32) t_26_814) fun σ =>
  ez_bd (ez_gr σ 1 h0 0) fun t_22_822 =>
  ez_nw σ (.inr (.inr (.inr (7, [.inr (.inr none)])))) fun t_26_824 σ =>
  ez_b2 (z_X7_init σ t_26_824) fun _ σ =>
  ez_bd (ez_rs σ t_22_822 (39 : Int32) t_26_824) fun σ =>
  ez_bd (ez_gr σ 1 h0 0) fun t_22_832 =>
  ez_nw σ (.inr (.inr (.inr (7, [.inr (.inr none)])))) fun t_26_834 σ =>
  ez_b2 (z_X7_init σ t_26_834) fun _ σ =>
  ez_bd (ez_rs σ t_22_832 (40 : Int32) t_26_834) fun σ =>
  some ((), σ)
set_option maxRecDepth 100000 in
noncomputable def z_X8_init (σ : ez_H) (h0 : Nat) (h1 : Nat) : Option (Unit × ez_H) :=
  ez_bd (ez_ob σ 8 h0) fun _ =>
  ez_bd (ez_pf σ 8 h0 0 (.inr (.inr (some h1)))) fun σ =>
  ez_bd (ez_gr σ 3 h1 0) fun t_11 =>
  ez_bd (ez_pf σ 8 h0 1 (.inr (.inr (some t_11)))) fun σ =>
  ez_nw σ (.inl (1, 10, [])) fun t_20 σ =>
  ez_bd (ez_pf σ 8 h0 2 (.inr (.inr (some t_20)))) fun σ =>
  ez_nw σ (.inl (1, 6, [])) fun t_28 σ =>
  ez_bd (ez_pf σ 8 h0 3 (.inr (.inr (some t_28)))) fun σ =>
  ez_nw σ (.inl (1, 384, [])) fun t_37 σ =>
  ez_bd (ez_pf σ 8 h0 4 (.inr (.inr (some t_37)))) fun σ =>
  ez_nw σ (.inl (1, 384, [])) fun t_46 σ =>
  ez_bd (ez_pf σ 8 h0 5 (.inr (.inr (some t_46)))) fun σ =>
  ez_nw σ (.inl (1, 384, [])) fun t_55 σ =>
  ez_bd (ez_pf σ 8 h0 6 (.inr (.inr (some t_55)))) fun σ =>
  ez_nw σ (.inl (1, 384, [])) fun t_64 σ =>
  ez_bd (ez_pf σ 8 h0 7 (.inr (.inr (some t_64)))) fun σ =>
  ez_nw σ (.inl (1, 384, [])) fun t_73 σ =>
  ez_bd (ez_pf σ 8 h0 8 (.inr (.inr (some t_73)))) fun σ =>
  ez_nw σ (.inl (1, 384, [])) fun t_82 σ =>
  ez_bd (ez_pf σ 8 h0 9 (.inr (.inr (some t_82)))) fun σ =>
  ez_nw σ (.inl (1, 64, [])) fun t_90 σ =>
  ez_bd (ez_pf σ 8 h0 10 (.inr (.inr (some t_90)))) fun σ =>
  ez_nw σ (.inl (1, 64, [])) fun t_98 σ =>
  ez_bd (ez_pf σ 8 h0 11 (.inr (.inr (some t_98)))) fun σ =>
  ez_nw σ (.inl (1, 64, [])) fun t_106 σ =>
  ez_bd (ez_pf σ 8 h0 12 (.inr (.inr (some t_106)))) fun σ =>
  some ((), σ)
set_option maxRecDepth 100000 in
noncomputable def z_X2_init (σ : ez_H) (h0 : Nat) (h1 : Nat) (h2 : Nat) : Option (Unit × ez_H) :=
  ez_bd (ez_ob σ 2 h0) fun _ =>
  ez_bd (ez_pf σ 2 h0 0 (.inr (.inr (some h1)))) fun σ =>
  ez_bd (ez_pf σ 2 h0 1 (.inr (.inr (some h2)))) fun σ =>
  ez_nw σ (.inl (1, 6, [])) fun t_17 σ =>
  ez_bd (ez_pf σ 2 h0 2 (.inr (.inr (some t_17)))) fun σ =>
  ez_nw σ (.inl (1, 4, [])) fun t_24 σ =>
  ez_bd (ez_pf σ 2 h0 3 (.inr (.inr (some t_24)))) fun σ =>
  ez_nw σ (.inl (1, 6, [])) fun t_32 σ =>
  ez_bd (ez_pf σ 2 h0 4 (.inr (.inr (some t_32)))) fun σ =>
  ez_bd (ez_pf σ 2 h0 5 (.inl (0 : Int32))) fun σ =>
  some ((), σ)
set_option maxRecDepth 100000 in
noncomputable def z_X5_init (σ : ez_H) (h0 : Nat) (h1 : Nat) (h2 : Nat) : Option (Unit × ez_H) :=
  ez_bd (ez_ob σ 5 h0) fun _ =>
  ez_bd (ez_pf σ 5 h0 0 (.inr (.inr (some h1)))) fun σ =>
  ez_bd (ez_pf σ 5 h0 1 (.inr (.inr (some h2)))) fun σ =>
  ez_bd (ez_gr σ 3 h1 0) fun t_16 =>
  ez_bd (ez_pf σ 5 h0 2 (.inr (.inr (some t_16)))) fun σ =>
  ez_nw σ (.inl (1, 48, [])) fun t_25 σ =>
  ez_bd (ez_pf σ 5 h0 3 (.inr (.inr (some t_25)))) fun σ =>
  ez_bd (ez_pf σ 5 h0 4 (.inl (0 : Int32))) fun σ =>
  some ((), σ)
set_option maxRecDepth 100000 in
noncomputable def z_X10_init (σ : ez_H) (h0 : Nat) : Option (Unit × ez_H) :=
  ez_bd (ez_ob σ 10 h0) fun _ =>
  ez_nw σ (.inl (1, 30, [])) fun t_7 σ =>
  ez_bd (ez_pf σ 10 h0 0 (.inr (.inr (some t_7)))) fun σ =>
  ez_nw σ (.inl (3, 30, [])) fun t_15 σ =>
  ez_bd (ez_pf σ 10 h0 1 (.inr (.inr (some t_15)))) fun σ =>
  ez_nw σ (.inl (1, 30, [])) fun t_23 σ =>
  ez_bd (ez_pf σ 10 h0 2 (.inr (.inr (some t_23)))) fun σ =>
  ez_nw σ (.inl (1, 30, [])) fun t_31 σ =>
  ez_bd (ez_pf σ 10 h0 3 (.inr (.inr (some t_31)))) fun σ =>
  ez_bd (ez_pf σ 10 h0 4 (.inl (0 : Int32))) fun σ =>
  ez_bd (ez_pf σ 10 h0 5 (.inl (0 : Int32))) fun σ =>
  some ((), σ)
set_option maxRecDepth 100000 in
noncomputable def z_X11_init (σ : ez_H) (h0 : Nat) : Option (Unit × ez_H) :=
  ez_bd (ez_ob σ 11 h0) fun _ =>
  ez_nw σ (.inl (0, 1600, [])) fun t_8_128 σ =>
  ez_bd (ez_pf σ 11 h0 0 (.inr (.inr (some t_8_128)))) fun σ =>
  ez_bd (ez_pf σ 11 h0 1 (.inl (0 : Int32))) fun σ =>
  ez_nw σ (.inr (.inr (.inr (4, [.inr (.inr none), .inl 0, .inl 0, .inr (.inr none), .inr (.inr none), .inl 0])))) fun t_19_134 σ =>
  ez_bd (ez_gr σ 11 h0 0) fun t_24_137 =>
  ez_b2 (z_X4_init σ t_19_134 t_24_137) fun _ σ =>
  ez_bd (ez_pf σ 11 h0 2 (.inr (.inr (some t_19_134)))) fun σ =>
  ez_nw σ (.inr (.inr (.inr (3, [.inr (.inr none), .inr (.inr none), .inr (.inr none), .inl 0, .inl 0, .inl 0, .inl 0, .inl 0, .inr (.inr none), .inr (.inr none), .inr (.inr none), .inr (.inr none), .inr (.inr none)])))) fun t_34_141 σ =>
  ez_b2 (z_X3_init σ t_34_141) fun _ σ =>
  ez_bd (ez_pf σ 11 h0 3 (.inr (.inr (some t_34_141)))) fun σ =>
  ez_bd (ez_gr σ 11 h0 3) fun t_46_147 =>
  ez_bd (ez_gr σ 3 t_46_147 0) fun t_49_148 =>
  ez_bd (ez_pf σ 11 h0 4 (.inr (.inr (some t_49_148)))) fun σ =>
  ez_nw σ (.inr (.inr (.inr (7, [.inr (.inr none)])))) fun t_56_151 σ =>
  ez_b2 (z_X7_init σ t_56_151) fun _ σ =>
  ez_bd (ez_pf σ 11 h0 5 (.inr (.inr (some t_56_151)))) fun σ =>
  ez_nw σ (.inr (.inr (.inr (7, [.inr (.inr none)])))) fun t_67_156 σ =>
  ez_b2 (z_X7_init σ t_67_156) fun _ σ =>
  ez_bd (ez_pf σ 11 h0 6 (.inr (.inr (some t_67_156)))) fun σ =>
  ez_nw σ (.inr (.inr (.inr (1, [.inr (.inr none), .inl 0, .inl 0, .inl 0])))) fun t_78_161 σ =>
  ez_b2 (z_X1_init σ t_78_161) fun _ σ =>
  ez_bd (ez_pf σ 11 h0 7 (.inr (.inr (some t_78_161)))) fun σ =>
  ez_nw σ (.inr (.inr (.inl (4, 3, [])))) fun t_90_167 σ =>
  ez_bd (ez_pf σ 11 h0 8 (.inr (.inr (some t_90_167)))) fun σ =>
  ez_bd (ez_gr σ 11 h0 8) fun t_104_174 =>
  ez_nw σ (.inr (.inr (.inr (7, [.inr (.inr none)])))) fun t_108_176 σ =>
  ez_b2 (z_X7_init σ t_108_176) fun _ σ =>
  ez_bd (ez_rs σ t_104_174 (0 : Int32) t_108_176) fun σ =>
  ez_bd (ez_gr σ 11 h0 8) fun t_104_184 =>
  ez_nw σ (.inr (.inr (.inr (7, [.inr (.inr none)])))) fun t_108_186 σ =>
  ez_b2 (z_X7_init σ t_108_186) fun _ σ =>
  ez_bd (ez_rs σ t_104_184 (1 : Int32) t_108_186) fun σ =>
  ez_bd (ez_gr σ 11 h0 8) fun t_104_194 =>
  ez_nw σ (.inr (.inr (.inr (7, [.inr (.inr none)])))) fun t_108_196 σ =>
  ez_b2 (z_X7_init σ t_108_196) fun _ σ =>
  ez_bd (ez_rs σ t_104_194 (2 : Int32) t_108_196) fun σ =>
  ez_bd (ez_pf σ 11 h0 9 (.inl (0 : Int32))) fun σ =>
  ez_nw σ (.inr (.inr (.inr (8, [.inr (.inr none), .inr (.inr none), .inr (.inr none), .inr (.inr none), .inr (.inr none), .inr (.inr none), .inr (.inr none), .inr (.inr none), .inr (.inr none), .inr (.inr none), .inr (.inr none), .inr (.inr none), .inr (.inr none)])))) fun t_128_207 σ =>
  ez_bd (ez_gr σ 11 h0 3) fun t_133_210 =>
  ez_b2 (z_X8_init σ t_128_207 t_133_210) fun _ σ =>
  ez_bd (ez_pf σ 11 h0 10 (.inr (.inr (some t_128_207)))) fun σ =>
  ez_nw σ (.inr (.inr (.inr (8, [.inr (.inr none), .inr (.inr none), .inr (.inr none), .inr (.inr none), .inr (.inr none), .inr (.inr none), .inr (.inr none), .inr (.inr none), .inr (.inr none), .inr (.inr none), .inr (.inr none), .inr (.inr none), .inr (.inr none)])))) fun t_143_214 σ =>
  ez_bd (ez_gr σ 11 h0 3) fun t_148_217 =>
  ez_b2 (z_X8_init σ t_143_214 t_148_217) fun _ σ =>
  ez_bd (ez_pf σ 11 h0 11 (.inr (.inr (some t_143_214)))) fun σ =>
  ez_nw σ (.inr (.inr (.inr (2, [.inr (.inr none), .inr (.inr none), .inr (.inr none), .inr (.inr none), .inr (.inr none), .inl 0])))) fun t_158_221 σ =>
  ez_bd (ez_gr σ 11 h0 3) fun t_163_224 =>
  ez_bd (ez_gr σ 11 h0 5) fun t_167_226 =>
  ez_b2 (z_X2_init σ t_158_221 t_163_224 t_167_226) fun _ σ =>
  ez_bd (ez_pf σ 11 h0 12 (.inr (.inr (some t_158_221)))) fun σ =>
  ez_nw σ (.inr (.inr (.inr (5, [.inr (.inr none), .inr (.inr none), .inr (.inr none), .inr (.inr none), .inl 0])))) fun t_177_230 σ =>
  ez_bd (ez_gr σ 11 h0 3) fun t_182_233 =>
  ez_bd (ez_gr σ 11 h0 5) fun t_186_235 =>
  ez_b2 (z_X5_init σ t_177_230 t_182_233 t_186_235) fun _ σ =>
  ez_bd (ez_pf σ 11 h0 13 (.inr (.inr (some t_177_230)))) fun σ =>
  ez_nw σ (.inr (.inr (.inr (10, [.inr (.inr none), .inr (.inr none), .inr (.inr none), .inr (.inr none), .inl 0, .inl 0])))) fun t_196_239 σ =>
  ez_b2 (z_X10_init σ t_196_239) fun _ σ =>
  ez_bd (ez_pf σ 11 h0 14 (.inr (.inr (some t_196_239)))) fun σ =>
  ez_nw σ (.inl (1, 60, [])) fun t_209_245 σ =>
  ez_bd (ez_pf σ 11 h0 15 (.inr (.inr (some t_209_245)))) fun σ =>
  some ((), σ)
set_option maxRecDepth 100000 in
noncomputable def z_X12_clearBank_113 (k_113 : ez_H → Nat → Int32 → Option (Unit × ez_H)) (σ : ez_H) (h0 : Nat) (x1 : Int32) : Option (Unit × ez_H) :=
  if (6 : Int32) ≤ x1 then (
  ez_bd (ez_gi σ 12 h0 44) fun t_160 =>
  ez_let ((560 : Int32) * t_160) fun t_163 =>
  ez_bd (ez_pf σ 12 h0 45 (.inl t_163)) fun σ =>
  some ((), σ)
  ) else (
  ez_bd (ez_gr σ 12 h0 29) fun t_120 =>
  ez_bd (ez_gi σ 12 h0 44) fun t_126 =>
  ez_let ((6 : Int32) * t_126) fun t_129 =>
  ez_let (t_129 + x1) fun t_131 =>
  ez_bd (ez_is σ 1 t_120 t_131 (0 : Int32)) fun σ =>
  ez_bd (ez_gr σ 12 h0 30) fun t_135 =>
  ez_bd (ez_gi σ 12 h0 44) fun t_141 =>
  ez_let ((6 : Int32) * t_141) fun t_144 =>
  ez_let (t_144 + x1) fun t_146 =>
  ez_bd (ez_is σ 1 t_135 t_146 (0 : Int32)) fun σ =>
  ez_let (x1 + 1) fun t_149 =>
  k_113 σ h0 t_149
  )
set_option maxRecDepth 100000 in
noncomputable def z_X12_clearBank (σ : ez_H) (h0 : Nat) : Option (Unit × ez_H) :=
  ez_bd (ez_ob σ 12 h0) fun _ =>
  ez_bd (ez_gr σ 12 h0 11) fun t_1 =>
  ez_bd (ez_gi σ 12 h0 44) fun t_5 =>
  ez_bd (ez_is σ 1 t_1 t_5 (5 : Int32)) fun σ =>
  ez_bd (ez_gr σ 12 h0 12) fun t_11 =>
  ez_bd (ez_gi σ 12 h0 44) fun t_15 =>
  ez_bd (ez_is σ 1 t_11 t_15 (6 : Int32)) fun σ =>
  ez_bd (ez_gr σ 12 h0 13) fun t_22 =>
  ez_bd (ez_gi σ 12 h0 44) fun t_26 =>
  ez_bd (ez_is σ 1 t_22 t_26 (5 : Int32)) fun σ =>
  ez_bd (ez_gr σ 12 h0 14) fun t_32 =>
  ez_bd (ez_gi σ 12 h0 44) fun t_36 =>
  ez_bd (ez_is σ 1 t_32 t_36 (0 : Int32)) fun σ =>
  ez_bd (ez_gr σ 12 h0 15) fun t_42 =>
  ez_bd (ez_gi σ 12 h0 44) fun t_46 =>
  ez_bd (ez_is σ 1 t_42 t_46 (0 : Int32)) fun σ =>
  ez_bd (ez_gr σ 12 h0 16) fun t_52 =>
  ez_bd (ez_gi σ 12 h0 44) fun t_56 =>
  ez_bd (ez_is σ 1 t_52 t_56 (0 : Int32)) fun σ =>
  ez_bd (ez_gr σ 12 h0 17) fun t_62 =>
  ez_bd (ez_gi σ 12 h0 44) fun t_66 =>
  ez_bd (ez_is σ 1 t_62 t_66 (0 : Int32)) fun σ =>
  ez_bd (ez_gr σ 12 h0 18) fun t_72 =>
  ez_bd (ez_gi σ 12 h0 44) fun t_76 =>
  ez_bd (ez_is σ 1 t_72 t_76 (0 : Int32)) fun σ =>
  ez_bd (ez_gr σ 12 h0 19) fun t_82 =>
  ez_bd (ez_gi σ 12 h0 44) fun t_86 =>
  ez_bd (ez_is σ 1 t_82 t_86 (0 : Int32)) fun σ =>
  ez_bd (ez_gr σ 12 h0 20) fun t_92 =>
  ez_bd (ez_gi σ 12 h0 44) fun t_96 =>
  ez_bd (ez_is σ 1 t_92 t_96 (0 : Int32)) fun σ =>
  ez_bd (ez_gr σ 12 h0 21) fun t_102 =>
  ez_bd (ez_gi σ 12 h0 44) fun t_106 =>
  ez_bd (ez_is σ 1 t_102 t_106 (0 : Int32)) fun σ =>
  ez_fix (fun _ _ _ => none) (z_X12_clearBank_113 ) ez_N σ h0 (0 : Int32)
set_option maxRecDepth 100000 in
noncomputable def z_X12_many (σ : ez_H) (h0 : Nat) : Option (Int32) :=
  ez_bd (ez_ob σ 12 h0) fun _ =>
  ez_bd (ez_gr σ 12 h0 14) fun t_1 =>
  ez_bd (ez_gi σ 12 h0 43) fun t_5 =>
  ez_bd (ez_ia σ 1 t_1 t_5) fun t_8 =>
  some t_8
set_option maxRecDepth 100000 in
noncomputable def z_X12_bolts (σ : ez_H) (h0 : Nat) : Option (Int32) :=
  ez_bd (ez_ob σ 12 h0) fun _ =>
  ez_bd (ez_gr σ 12 h0 15) fun t_1 =>
  ez_bd (ez_gi σ 12 h0 43) fun t_5 =>
  ez_bd (ez_ia σ 1 t_1 t_5) fun t_8 =>
  some t_8
set_option maxRecDepth 100000 in
noncomputable def z_X12_startAnew_232 (k_232 : ez_H → Nat → Int32 → Option (Unit × ez_H)) (σ : ez_H) (h0 : Nat) (x1 : Int32) : Option (Unit × ez_H) :=
  if (3 : Int32) ≤ x1 then (
  some ((), σ)
  ) else (
  ez_bd (ez_gr σ 12 h0 69) fun t_238 =>
  ez_bd (ez_is σ 3 t_238 x1 (vp_nar .boolean (0 : Int32))) fun σ =>
  ez_let (x1 + 1) fun t_244 =>
  k_232 σ h0 t_244
  )
set_option maxRecDepth 100000 in
noncomputable def z_X12_startAnew_153 (k_153 : ez_H → Nat → Int32 → Option (Unit × ez_H)) (σ : ez_H) (h0 : Nat) (x1 : Int32) : Option (Unit × ez_H) :=
  ez_bd (ez_gr σ 12 h0 18) fun t_155 =>
  ez_bd (ez_gi σ 12 h0 43) fun t_159 =>
  ez_bd (ez_ia σ 1 t_155 t_159) fun t_162 =>
  if t_162 ≤ x1 then (
  ez_bd (ez_gr σ 12 h0 53) fun t_195 =>
  ez_bd (ez_gr σ 12 h0 20) fun t_201 =>
  ez_bd (ez_gi σ 12 h0 43) fun t_205 =>
  ez_bd (ez_ia σ 1 t_201 t_205) fun t_208 =>
  ez_bd (ez_is σ 1 t_195 (90 : Int32) t_208) fun σ =>
  ez_bd (ez_pf σ 12 h0 60 (.inl (0 : Int32))) fun σ =>
  ez_bd (ez_pf σ 12 h0 61 (.inl (0 : Int32))) fun σ =>
  ez_bd (ez_pf σ 12 h0 66 (.inl (0 : Int32))) fun σ =>
  ez_bd (ez_pf σ 12 h0 57 (.inl (0 : Int32))) fun σ =>
  ez_fix (fun _ _ _ => none) (z_X12_startAnew_232 ) ez_N σ h0 (0 : Int32)
  ) else (
  ez_bd (ez_gr σ 12 h0 53) fun t_167 =>
  ez_let ((86 : Int32) + x1) fun t_173 =>
  ez_bd (ez_gr σ 12 h0 27) fun t_175 =>
  ez_bd (ez_gi σ 12 h0 43) fun t_180 =>
  ez_let ((4 : Int32) * t_180) fun t_183 =>
  ez_let (t_183 + x1) fun t_185 =>
  ez_bd (ez_ia σ 1 t_175 t_185) fun t_186 =>
  ez_bd (ez_is σ 1 t_167 t_173 t_186) fun σ =>
  ez_let (x1 + 1) fun t_188 =>
  k_153 σ h0 t_188
  )
set_option maxRecDepth 100000 in
noncomputable def z_X12_startAnew_112 (k_112 : ez_H → Nat → Int32 → Option (Unit × ez_H)) (σ : ez_H) (h0 : Nat) (x1 : Int32) : Option (Unit × ez_H) :=
  ez_bd (z_X12_bolts σ h0) fun t_114 =>
  ez_let (t_114 * (5 : Int32)) fun t_118 =>
  if t_118 ≤ x1 then (
  ez_fix (fun _ _ _ => none) (z_X12_startAnew_153 ) ez_N σ h0 (0 : Int32)
  ) else (
  ez_bd (ez_gr σ 12 h0 53) fun t_123 =>
  ez_let ((56 : Int32) + x1) fun t_129 =>
  ez_bd (ez_gr σ 12 h0 23) fun t_131 =>
  ez_bd (ez_gi σ 12 h0 43) fun t_137 =>
  ez_let ((30 : Int32) * t_137) fun t_140 =>
  ez_let (t_140 + x1) fun t_142 =>
  ez_bd (ez_ia σ 1 t_131 t_142) fun t_143 =>
  ez_bd (ez_is σ 1 t_123 t_129 t_143) fun σ =>
  ez_let (x1 + 1) fun t_145 =>
  k_112 σ h0 t_145
  )
set_option maxRecDepth 100000 in
noncomputable def z_X12_startAnew_72 (k_72 : ez_H → Nat → Int32 → Option (Unit × ez_H)) (σ : ez_H) (h0 : Nat) (x1 : Int32) : Option (Unit × ez_H) :=
  ez_bd (z_X12_many σ h0) fun t_74 =>
  ez_let (t_74 * (5 : Int32)) fun t_78 =>
  if t_78 ≤ x1 then (
  ez_fix (fun _ _ _ => none) (z_X12_startAnew_112 ) ez_N σ h0 (0 : Int32)
  ) else (
  ez_bd (ez_gr σ 12 h0 53) fun t_83 =>
  ez_let ((0 : Int32) + x1) fun t_88 =>
  ez_bd (ez_gr σ 12 h0 22) fun t_90 =>
  ez_bd (ez_gi σ 12 h0 43) fun t_96 =>
  ez_let ((40 : Int32) * t_96) fun t_99 =>
  ez_let (t_99 + x1) fun t_101 =>
  ez_bd (ez_ia σ 1 t_90 t_101) fun t_102 =>
  ez_bd (ez_is σ 1 t_83 t_88 t_102) fun σ =>
  ez_let (x1 + 1) fun t_104 =>
  k_72 σ h0 t_104
  )
set_option maxRecDepth 100000 in
noncomputable def z_X12_startAnew_63 (k_23 : ez_H → Nat → Int32 → Option (Unit × ez_H)) (σ : ez_H) (h0 : Nat) (x1 : Int32) (y0 : Nat) (y1 : Int32) (y2 : Int32) : Option (Unit × ez_H) :=
  ez_bd (ez_is σ 1 y0 y1 y2) fun σ =>
  ez_let (x1 + 1) fun t_64 =>
  k_23 σ h0 t_64
set_option maxRecDepth 100000 in
noncomputable def z_X12_startAnew_23 (k_23 : ez_H → Nat → Int32 → Option (Unit × ez_H)) (σ : ez_H) (h0 : Nat) (x1 : Int32) : Option (Unit × ez_H) :=
  if (8 : Int32) ≤ x1 then (
  ez_fix (fun _ _ _ => none) (z_X12_startAnew_72 ) ez_N σ h0 (0 : Int32)
  ) else (
  ez_bd (ez_gr σ 12 h0 53) fun t_30 =>
  ez_let ((48 : Int32) + x1) fun t_36 =>
  ez_bd (z_X12_many σ h0) fun t_39 =>
  if t_39 ≤ x1 then (
  z_X12_startAnew_63 k_23 σ h0 x1 t_30 t_36 (-1 : Int32)
  ) else (
  ez_bd (ez_gr σ 12 h0 28) fun t_46 =>
  ez_bd (ez_gi σ 12 h0 43) fun t_52 =>
  ez_let ((8 : Int32) * t_52) fun t_55 =>
  ez_let (t_55 + x1) fun t_57 =>
  ez_bd (ez_ia σ 1 t_46 t_57) fun t_58 =>
  z_X12_startAnew_63 k_23 σ h0 x1 t_30 t_36 t_58
  )
  )
set_option maxRecDepth 100000 in
noncomputable def z_X12_startAnew_2 (k_2 : ez_H → Nat → Int32 → Option (Unit × ez_H)) (σ : ez_H) (h0 : Nat) (x1 : Int32) : Option (Unit × ez_H) :=
  if (91 : Int32) ≤ x1 then (
  ez_fix (fun _ _ _ => none) (z_X12_startAnew_23 ) ez_N σ h0 (0 : Int32)
  ) else (
  ez_bd (ez_gr σ 12 h0 53) fun t_9 =>
  ez_bd (ez_is σ 1 t_9 x1 (0 : Int32)) fun σ =>
  ez_let (x1 + 1) fun t_15 =>
  k_2 σ h0 t_15
  )
set_option maxRecDepth 100000 in
noncomputable def z_X12_startAnew (σ : ez_H) (h0 : Nat) : Option (Unit × ez_H) :=
  ez_bd (ez_ob σ 12 h0) fun _ =>
  ez_fix (fun _ _ _ => none) (z_X12_startAnew_2 ) ez_N σ h0 (0 : Int32)
set_option maxRecDepth 100000 in
noncomputable def z_X12_init (σ : ez_H) (h0 : Nat) : Option (Unit × ez_H) :=
  ez_bd (ez_ob σ 12 h0) fun _ =>
  ez_nw σ (.inl (0, 1620, [])) fun t_8 σ =>
  ez_bd (ez_pf σ 12 h0 0 (.inr (.inr (some t_8)))) fun σ =>
  ez_nw σ (.inl (0, 1600, [])) fun t_17 σ =>
  ez_bd (ez_pf σ 12 h0 1 (.inr (.inr (some t_17)))) fun σ =>
  ez_bd (ez_pf σ 12 h0 5 (.inl (-1 : Int32))) fun σ =>
  ez_nw σ (.inl (1, 2, [])) fun t_29 σ =>
  ez_bd (ez_pf σ 12 h0 11 (.inr (.inr (some t_29)))) fun σ =>
  ez_nw σ (.inl (1, 2, [])) fun t_36 σ =>
  ez_bd (ez_pf σ 12 h0 12 (.inr (.inr (some t_36)))) fun σ =>
  ez_nw σ (.inl (1, 2, [])) fun t_43 σ =>
  ez_bd (ez_pf σ 12 h0 13 (.inr (.inr (some t_43)))) fun σ =>
  ez_nw σ (.inl (1, 2, [])) fun t_50 σ =>
  ez_bd (ez_pf σ 12 h0 14 (.inr (.inr (some t_50)))) fun σ =>
  ez_nw σ (.inl (1, 2, [])) fun t_57 σ =>
  ez_bd (ez_pf σ 12 h0 15 (.inr (.inr (some t_57)))) fun σ =>
  ez_nw σ (.inl (1, 2, [])) fun t_64 σ =>
  ez_bd (ez_pf σ 12 h0 16 (.inr (.inr (some t_64)))) fun σ =>
  ez_nw σ (.inl (1, 2, [])) fun t_71 σ =>
  ez_bd (ez_pf σ 12 h0 17 (.inr (.inr (some t_71)))) fun σ =>
  ez_nw σ (.inl (1, 2, [])) fun t_78 σ =>
  ez_bd (ez_pf σ 12 h0 18 (.inr (.inr (some t_78)))) fun σ =>
  ez_nw σ (.inl (1, 2, [])) fun t_85 σ =>
  ez_bd (ez_pf σ 12 h0 19 (.inr (.inr (some t_85)))) fun σ =>
  ez_nw σ (.inl (1, 2, [])) fun t_92 σ =>
  ez_bd (ez_pf σ 12 h0 20 (.inr (.inr (some t_92)))) fun σ =>
  ez_nw σ (.inl (1, 2, [])) fun t_99 σ =>
  ez_bd (ez_pf σ 12 h0 21 (.inr (.inr (some t_99)))) fun σ =>
  ez_nw σ (.inl (1, 80, [])) fun t_107 σ =>
  ez_bd (ez_pf σ 12 h0 22 (.inr (.inr (some t_107)))) fun σ =>
  ez_nw σ (.inl (1, 60, [])) fun t_115 σ =>
  ez_bd (ez_pf σ 12 h0 23 (.inr (.inr (some t_115)))) fun σ =>
  ez_nw σ (.inl (1, 16, [])) fun t_123 σ =>
  ez_bd (ez_pf σ 12 h0 24 (.inr (.inr (some t_123)))) fun σ =>
  ez_nw σ (.inl (1, 16, [])) fun t_131 σ =>
  ez_bd (ez_pf σ 12 h0 25 (.inr (.inr (some t_131)))) fun σ =>
  ez_nw σ (.inl (1, 16, [])) fun t_139 σ =>
  ez_bd (ez_pf σ 12 h0 26 (.inr (.inr (some t_139)))) fun σ =>
  ez_nw σ (.inl (1, 8, [])) fun t_147 σ =>
  ez_bd (ez_pf σ 12 h0 27 (.inr (.inr (some t_147)))) fun σ =>
  ez_nw σ (.inl (1, 16, [])) fun t_155 σ =>
  ez_bd (ez_pf σ 12 h0 28 (.inr (.inr (some t_155)))) fun σ =>
  ez_nw σ (.inl (1, 12, [])) fun t_163 σ =>
  ez_bd (ez_pf σ 12 h0 29 (.inr (.inr (some t_163)))) fun σ =>
  ez_nw σ (.inl (1, 12, [])) fun t_171 σ =>
  ez_bd (ez_pf σ 12 h0 30 (.inr (.inr (some t_171)))) fun σ =>
  ez_nw σ (.inl (1, 2, [])) fun t_178 σ =>
  ez_bd (ez_pf σ 12 h0 31 (.inr (.inr (some t_178)))) fun σ =>
  ez_nw σ (.inl (1, 2, [])) fun t_185 σ =>
  ez_bd (ez_pf σ 12 h0 32 (.inr (.inr (some t_185)))) fun σ =>
  ez_nw σ (.inr (.inl (16, []))) fun t_193 σ =>
  ez_bd (ez_pf σ 12 h0 33 (.inr (.inr (some t_193)))) fun σ =>
  ez_nw σ (.inr (.inl (12, []))) fun t_201 σ =>
  ez_bd (ez_pf σ 12 h0 34 (.inr (.inr (some t_201)))) fun σ =>
  ez_nw σ (.inr (.inl (12, []))) fun t_209 σ =>
  ez_bd (ez_pf σ 12 h0 35 (.inr (.inr (some t_209)))) fun σ =>
  ez_nw σ (.inr (.inl (16, []))) fun t_217 σ =>
  ez_bd (ez_pf σ 12 h0 36 (.inr (.inr (some t_217)))) fun σ =>
  ez_nw σ (.inr (.inl (8, []))) fun t_225 σ =>
  ez_bd (ez_pf σ 12 h0 37 (.inr (.inr (some t_225)))) fun σ =>
  ez_nw σ (.inl (1, 1120, [])) fun t_234 σ =>
  ez_bd (ez_pf σ 12 h0 38 (.inr (.inr (some t_234)))) fun σ =>
  ez_nw σ (.inl (1, 1120, [])) fun t_243 σ =>
  ez_bd (ez_pf σ 12 h0 39 (.inr (.inr (some t_243)))) fun σ =>
  ez_nw σ (.inl (1, 90, [])) fun t_251 σ =>
  ez_bd (ez_pf σ 12 h0 40 (.inr (.inr (some t_251)))) fun σ =>
  ez_nw σ (.inl (1, 90, [])) fun t_259 σ =>
  ez_bd (ez_pf σ 12 h0 41 (.inr (.inr (some t_259)))) fun σ =>
  ez_nw σ (.inl (1, 60, [])) fun t_267 σ =>
  ez_bd (ez_pf σ 12 h0 42 (.inr (.inr (some t_267)))) fun σ =>
  ez_nw σ (.inl (1, 91, [])) fun t_275 σ =>
  ez_bd (ez_pf σ 12 h0 53 (.inr (.inr (some t_275)))) fun σ =>
  ez_nw σ (.inl (1, 91, [])) fun t_283 σ =>
  ez_bd (ez_pf σ 12 h0 54 (.inr (.inr (some t_283)))) fun σ =>
  ez_nw σ (.inl (1, 60, [])) fun t_291 σ =>
  ez_bd (ez_pf σ 12 h0 55 (.inr (.inr (some t_291)))) fun σ =>
  ez_nw σ (.inl (1, 6, [])) fun t_299 σ =>
  ez_bd (ez_pf σ 12 h0 56 (.inr (.inr (some t_299)))) fun σ =>
  ez_nw σ (.inl (1, 4, [])) fun t_306 σ =>
  ez_bd (ez_pf σ 12 h0 58 (.inr (.inr (some t_306)))) fun σ =>
  ez_nw σ (.inl (1, 3731, [])) fun t_315 σ =>
  ez_bd (ez_pf σ 12 h0 59 (.inr (.inr (some t_315)))) fun σ =>
  ez_nw σ (.inl (1, 30, [])) fun t_323 σ =>
  ez_bd (ez_pf σ 12 h0 62 (.inr (.inr (some t_323)))) fun σ =>
  ez_nw σ (.inl (1, 30, [])) fun t_331 σ =>
  ez_bd (ez_pf σ 12 h0 63 (.inr (.inr (some t_331)))) fun σ =>
  ez_nw σ (.inl (1, 30, [])) fun t_339 σ =>
  ez_bd (ez_pf σ 12 h0 64 (.inr (.inr (some t_339)))) fun σ =>
  ez_nw σ (.inl (1, 30, [])) fun t_347 σ =>
  ez_bd (ez_pf σ 12 h0 65 (.inr (.inr (some t_347)))) fun σ =>
  ez_nw σ (.inl (1, 273, [])) fun t_356 σ =>
  ez_bd (ez_pf σ 12 h0 68 (.inr (.inr (some t_356)))) fun σ =>
  ez_nw σ (.inl (3, 3, [])) fun t_363 σ =>
  ez_bd (ez_pf σ 12 h0 69 (.inr (.inr (some t_363)))) fun σ =>
  ez_b2 (z_X12_clearBank σ h0) fun _ σ =>
  ez_b2 (z_X12_startAnew σ h0) fun _ σ =>
  some ((), σ)
set_option maxRecDepth 100000 in
noncomputable def z_X1_redoable (σ : ez_H) (h0 : Nat) : Option (Int32) :=
  ez_bd (ez_ob σ 1 h0) fun _ =>
  ez_bd (ez_gi σ 1 h0 3) fun t_1 =>
  ez_bd (ez_gi σ 1 h0 2) fun t_5 =>
  ez_let (t_1 - t_5) fun t_8 =>
  some t_8
set_option maxRecDepth 100000 in
noncomputable def z_X1_undoable (σ : ez_H) (h0 : Nat) : Option (Int32) :=
  ez_bd (ez_ob σ 1 h0) fun _ =>
  ez_bd (ez_gi σ 1 h0 2) fun t_1 =>
  some t_1
set_option maxRecDepth 100000 in
noncomputable def z_X7_look_20 (σ : ez_H) (y0 : Int32) : Option (Int32) :=
  some y0
set_option maxRecDepth 100000 in
noncomputable def z_X7_look_19 (σ : ez_H) : Option (Int32) :=
  z_X7_look_20 σ (0 : Int32)
set_option maxRecDepth 100000 in
noncomputable def z_X7_look (σ : ez_H) (h0 : Nat) (x1 : Int32) : Option (Int32) :=
  ez_bd (ez_ob σ 7 h0) fun _ =>
  if x1 < (0 : Int32) then (
  z_X7_look_19 σ 
  ) else (
  if (35 : Int32) ≤ x1 then (
  z_X7_look_19 σ 
  ) else (
  ez_bd (ez_gr σ 7 h0 0) fun t_11 =>
  ez_bd (ez_ia σ 1 t_11 x1) fun t_15 =>
  z_X7_look_20 σ t_15
  )
  )
set_option maxRecDepth 100000 in
noncomputable def z_X7_seed (σ : ez_H) (h0 : Nat) : Option (Int32) :=
  ez_bd (ez_ob σ 7 h0) fun _ =>
  ez_bd (z_X7_look σ h0 (34 : Int32)) fun t_3 =>
  some t_3
set_option maxRecDepth 100000 in
noncomputable def z_X11_about (σ : ez_H) (h0 : Nat) (x1 : Int32) : Option (Int32) :=
  ez_bd (ez_ob σ 11 h0) fun _ =>
  if x1 = 0 then (
  ez_bd (ez_gr σ 11 h0 3) fun t_81 =>
  ez_bd (ez_gi σ 3 t_81 3) fun t_84 =>
  some t_84
  ) else (
  if x1 = 1 then (
  ez_bd (ez_gr σ 11 h0 3) fun t_89 =>
  ez_bd (ez_gi σ 3 t_89 4) fun t_92 =>
  some t_92
  ) else (
  if x1 = 2 then (
  ez_bd (ez_gr σ 11 h0 3) fun t_97 =>
  ez_bd (ez_gi σ 3 t_97 5) fun t_100 =>
  some t_100
  ) else (
  if x1 = 3 then (
  ez_bd (ez_gr σ 11 h0 3) fun t_105 =>
  ez_bd (ez_gi σ 3 t_105 6) fun t_108 =>
  some t_108
  ) else (
  if x1 = 4 then (
  ez_bd (ez_gr σ 11 h0 3) fun t_113 =>
  ez_bd (ez_gi σ 3 t_113 7) fun t_116 =>
  some t_116
  ) else (
  if x1 = 5 then (
  ez_bd (ez_gr σ 11 h0 4) fun t_121 =>
  ez_bd (ez_gi σ 6 t_121 0) fun t_124 =>
  some t_124
  ) else (
  if x1 = 6 then (
  ez_bd (ez_gr σ 11 h0 4) fun t_129 =>
  ez_bd (ez_gi σ 6 t_129 1) fun t_132 =>
  some t_132
  ) else (
  if x1 = 7 then (
  ez_bd (ez_gr σ 11 h0 4) fun t_137 =>
  ez_bd (ez_gi σ 6 t_137 2) fun t_140 =>
  some t_140
  ) else (
  if x1 = 8 then (
  ez_bd (ez_gr σ 11 h0 5) fun t_145 =>
  ez_bd (z_X7_seed σ t_145) fun t_148 =>
  some t_148
  ) else (
  if x1 = 9 then (
  ez_bd (ez_gr σ 11 h0 7) fun t_153 =>
  ez_bd (z_X1_undoable σ t_153) fun t_156 =>
  some t_156
  ) else (
  if x1 = 10 then (
  ez_bd (ez_gr σ 11 h0 7) fun t_161 =>
  ez_bd (z_X1_redoable σ t_161) fun t_164 =>
  some t_164
  ) else (
  if x1 = 11 then (
  ez_bd (ez_gr σ 11 h0 14) fun t_169 =>
  ez_bd (ez_gi σ 10 t_169 4) fun t_172 =>
  some t_172
  ) else (
  if x1 = 12 then (
  ez_bd (ez_gr σ 11 h0 14) fun t_177 =>
  ez_bd (ez_gi σ 10 t_177 5) fun t_180 =>
  some t_180
  ) else (
  if x1 = 13 then (
  ez_bd (ez_gi σ 11 h0 1) fun t_185 =>
  some t_185
  ) else (
  if x1 = 14 then (
  ez_bd (ez_gr σ 11 h0 3) fun t_190 =>
  ez_bd (ez_gr σ 3 t_190 1) fun t_193 =>
  ez_bd (ez_gi σ 0 t_193 0) fun t_196 =>
  some t_196
  ) else (
  if x1 = 15 then (
  ez_bd (ez_gr σ 11 h0 12) fun t_201 =>
  ez_bd (ez_gi σ 2 t_201 5) fun t_204 =>
  some t_204
  ) else (
  some (-1 : Int32)
  ))))))))))))))))
set_option maxRecDepth 100000 in
noncomputable def z_X8_isMarked_10 (σ : ez_H) : Option (Int32 × ez_H) :=
  some ((0 : Int32), σ)
set_option maxRecDepth 100000 in
noncomputable def z_X8_isMarked_27 (σ : ez_H) (h0 : Nat) (x1 : Int32) (x2 : Int32) (y0 : Int32) : Option (Int32 × ez_H) :=
  ez_bd (ez_gr σ 8 h0 2) fun t_29 =>
  ez_bd (ez_is σ 1 t_29 x1 x2) fun σ =>
  ez_nr .boolean y0 <|
  some (y0, σ)
set_option maxRecDepth 100000 in
noncomputable def z_X8_isMarked (σ : ez_H) (h0 : Nat) (x1 : Int32) (x2 : Int32) : Option (Int32 × ez_H) :=
  ez_bd (ez_ob σ 8 h0) fun _ =>
  if x1 < (0 : Int32) then (
  z_X8_isMarked_10  σ
  ) else (
  if x1 < (10 : Int32) then (
  ez_bd (ez_gr σ 8 h0 2) fun t_13 =>
  ez_bd (ez_ia σ 1 t_13 x1) fun t_17 =>
  if t_17 = x2 then (
  z_X8_isMarked_27  σ h0 x1 x2 (1 : Int32)
  ) else (
  z_X8_isMarked_27  σ h0 x1 x2 (0 : Int32)
  )
  ) else (
  z_X8_isMarked_10  σ
  )
  )
set_option maxRecDepth 100000 in
noncomputable def z_X7_pins (σ : ez_H) (h0 : Nat) (x1 : Int32) : Option (Int32) :=
  ez_bd (ez_ob σ 7 h0) fun _ =>
  ez_let ((24 : Int32) + x1) fun t_4 =>
  ez_bd (z_X7_look σ h0 t_4) fun t_5 =>
  some t_5
set_option maxRecDepth 100000 in
noncomputable def z_J7_fill_53178_5 (k_5 : ez_H → Nat → Int32 → Int32 → Int32 → Option (Unit × ez_H)) (σ : ez_H) (h0 : Nat) (x1 : Int32) (x2 : Int32) (x3 : Int32) : Option (Unit × ez_H) :=
  if x3 ≤ x2 then (
  some ((), σ)
  ) else (
  ez_bd (ez_is σ 1 h0 x2 x1) fun σ =>
  ez_let (x2 + 1) fun t_14 =>
  k_5 σ h0 x1 t_14 x3
  )
set_option maxRecDepth 100000 in
noncomputable def z_J7_fill_53178 (σ : ez_H) (h0 : Nat) (x1 : Int32) : Option (Unit × ez_H) :=
  ez_bd (ez_ln σ 1 h0) fun t_3 =>
  ez_fix (fun _ _ _ _ _ => none) (z_J7_fill_53178_5 ) ez_N σ h0 x1 (0 : Int32) t_3
set_option maxRecDepth 100000 in
noncomputable def z_X6_notch (σ : ez_H) (x0 : Int32) (x1 : Int32) : Option (Int32) :=
  ez_let (x0 * (6 : Int32)) fun t_4 =>
  ez_let (t_4 + x1) fun t_6 =>
  ez_let ((1 : Int32) <<< (t_6 &&& 31)) fun t_7 =>
  some t_7
set_option maxRecDepth 100000 in
noncomputable def z_X8_allowIn_50 (k_2 : ez_H → Nat → Int32 → Nat → Int32 → Option (Unit × ez_H)) (k_14 : ez_H → Nat → Int32 → Nat → Int32 → Int32 → Int32 → Option (Unit × ez_H)) (σ : ez_H) (h0 : Nat) (x1 : Int32) (h2 : Nat) (x3 : Int32) (x4 : Int32) (x5 : Int32) : Option (Unit × ez_H) :=
  ez_let (x5 + 1) fun t_50 =>
  k_14 σ h0 x1 h2 x3 x4 t_50
set_option maxRecDepth 100000 in
noncomputable def z_X8_allowIn_14 (k_2 : ez_H → Nat → Int32 → Nat → Int32 → Option (Unit × ez_H)) (k_14 : ez_H → Nat → Int32 → Nat → Int32 → Int32 → Int32 → Option (Unit × ez_H)) (σ : ez_H) (h0 : Nat) (x1 : Int32) (h2 : Nat) (x3 : Int32) (x4 : Int32) (x5 : Int32) : Option (Unit × ez_H) :=
  ez_bd (ez_gr σ 8 h0 0) fun t_17 =>
  ez_bd (ez_gi σ 3 t_17 4) fun t_20 =>
  if t_20 ≤ x5 then (
  ez_bd (ez_gr σ 8 h0 3) fun t_57 =>
  ez_bd (ez_is σ 1 t_57 x3 x4) fun σ =>
  ez_let (x3 + 1) fun t_64 =>
  k_2 σ h0 x1 h2 t_64
  ) else (
  ez_bd (z_X7_pins σ h2 x5) fun t_29 =>
  ez_bd (z_X6_notch σ x1 x3) fun t_34 =>
  ez_let (t_29 &&& t_34) fun t_37 =>
  if t_37 = (0 : Int32) then (
  z_X8_allowIn_50 k_2 k_14 σ h0 x1 h2 x3 x4 x5
  ) else (
  ez_let ((1 : Int32) <<< (x5 &&& 31)) fun t_46 =>
  ez_let (x4 ||| t_46) fun t_47 =>
  z_X8_allowIn_50 k_2 k_14 σ h0 x1 h2 x3 t_47 x5
  )
  )
set_option maxRecDepth 100000 in
noncomputable def z_X8_allowIn_2 (k_2 : ez_H → Nat → Int32 → Nat → Int32 → Option (Unit × ez_H)) (σ : ez_H) (h0 : Nat) (x1 : Int32) (h2 : Nat) (x3 : Int32) : Option (Unit × ez_H) :=
  if (6 : Int32) ≤ x3 then (
  some ((), σ)
  ) else (
  ez_fix (fun _ _ _ _ _ _ _ => none) (z_X8_allowIn_14 k_2) ez_N σ h0 x1 h2 x3 (0 : Int32) (0 : Int32)
  )
set_option maxRecDepth 100000 in
noncomputable def z_X8_allowIn (σ : ez_H) (h0 : Nat) (x1 : Int32) (h2 : Nat) : Option (Unit × ez_H) :=
  ez_bd (ez_ob σ 8 h0) fun _ =>
  ez_fix (fun _ _ _ _ _ => none) (z_X8_allowIn_2 ) ez_N σ h0 x1 h2 (0 : Int32)
set_option maxRecDepth 100000 in
noncomputable def z_X8_add_21 (σ : ez_H) : Option (Unit × ez_H) :=
  some ((), σ)
set_option maxRecDepth 100000 in
noncomputable def z_X8_add_94 (σ : ez_H) (h0 : Nat) (x3 : Int32) (x6 : Int32) (y0 : Nat) (y1 : Int32) (y2 : Int32) : Option (Unit × ez_H) :=
  ez_bd (ez_is σ 1 y0 y1 y2) fun σ =>
  ez_bd (ez_gr σ 8 h0 7) fun t_96 =>
  ez_bd (ez_ia σ 1 t_96 x6) fun t_102 =>
  ez_let (t_102 + x3) fun t_104 =>
  ez_bd (ez_is σ 1 t_96 x6 t_104) fun σ =>
  some ((), σ)
set_option maxRecDepth 100000 in
noncomputable def z_X8_add_67 (σ : ez_H) (h0 : Nat) (x3 : Int32) (x5 : Int32) (x6 : Int32) (x7 : Int32) (y0 : Nat) (y1 : Int32) (y2 : Int32) : Option (Unit × ez_H) :=
  ez_bd (ez_is σ 1 y0 y1 y2) fun σ =>
  ez_bd (ez_gr σ 8 h0 9) fun t_69 =>
  if x7 = (0 : Int32) then (
  ez_bd (ez_gr σ 8 h0 9) fun t_85 =>
  ez_bd (ez_ia σ 1 t_85 x6) fun t_90 =>
  ez_let (t_90 ||| x5) fun t_93 =>
  z_X8_add_94  σ h0 x3 x6 t_69 x6 t_93
  ) else (
  z_X8_add_94  σ h0 x3 x6 t_69 x6 x5
  )
set_option maxRecDepth 100000 in
noncomputable def z_X8_add_37 (σ : ez_H) (h0 : Nat) (x3 : Int32) (x4 : Int32) (x5 : Int32) (x6 : Int32) (y0 : Int32) : Option (Unit × ez_H) :=
  ez_bd (ez_gr σ 8 h0 8) fun t_40 =>
  if y0 = (0 : Int32) then (
  ez_bd (ez_gr σ 8 h0 8) fun t_56 =>
  ez_bd (ez_ia σ 1 t_56 x6) fun t_61 =>
  ez_let (if x4 < t_61 then x4 else t_61) fun t_64 =>
  z_X8_add_67  σ h0 x3 x5 x6 y0 t_40 x6 t_64
  ) else (
  z_X8_add_67  σ h0 x3 x5 x6 y0 t_40 x6 x4
  )
set_option maxRecDepth 100000 in
noncomputable def z_X8_add (σ : ez_H) (h0 : Nat) (x1 : Int32) (x2 : Int32) (x3 : Int32) (x4 : Int32) (x5 : Int32) : Option (Unit × ez_H) :=
  ez_bd (ez_ob σ 8 h0) fun _ =>
  ez_let (x1 * (64 : Int32)) fun t_3 =>
  ez_let (t_3 + x2) fun t_5 =>
  if t_5 < (0 : Int32) then (
  z_X8_add_21  σ
  ) else (
  if t_5 < (384 : Int32) then (
  ez_bd (ez_gr σ 8 h0 7) fun t_23 =>
  ez_bd (ez_ia σ 1 t_23 t_5) fun t_28 =>
  if t_28 = (0 : Int32) then (
  z_X8_add_37  σ h0 x3 x4 x5 t_5 (1 : Int32)
  ) else (
  z_X8_add_37  σ h0 x3 x4 x5 t_5 (0 : Int32)
  )
  ) else (
  z_X8_add_21  σ
  )
  )
set_option maxRecDepth 100000 in
noncomputable def z_X8_changeOver (σ : ez_H) (h0 : Nat) : Option (Unit × ez_H) :=
  ez_bd (ez_ob σ 8 h0) fun _ =>
  ez_bd (ez_gr σ 8 h0 4) fun t_1 =>
  ez_bd (ez_gr σ 8 h0 7) fun t_7 =>
  ez_bd (ez_pf σ 8 h0 4 (.inr (.inr (some t_7)))) fun σ =>
  ez_bd (ez_pf σ 8 h0 7 (.inr (.inr (some t_1)))) fun σ =>
  ez_bd (ez_gr σ 8 h0 5) fun t_19 =>
  ez_bd (ez_gr σ 8 h0 8) fun t_25 =>
  ez_bd (ez_pf σ 8 h0 5 (.inr (.inr (some t_25)))) fun σ =>
  ez_bd (ez_pf σ 8 h0 8 (.inr (.inr (some t_19)))) fun σ =>
  ez_bd (ez_gr σ 8 h0 6) fun t_37 =>
  ez_bd (ez_gr σ 8 h0 9) fun t_43 =>
  ez_bd (ez_pf σ 8 h0 6 (.inr (.inr (some t_43)))) fun σ =>
  ez_bd (ez_pf σ 8 h0 9 (.inr (.inr (some t_37)))) fun σ =>
  some ((), σ)
set_option maxRecDepth 100000 in
noncomputable def z_X6_lowest (σ : ez_H) (h0 : Nat) (x1 : Int32) : Option (Int32) :=
  ez_bd (ez_ob σ 6 h0) fun _ =>
  ez_bd (ez_gi σ 6 h0 2) fun t_3 =>
  ez_let (x1 - t_3) fun t_6 =>
  ez_let (if (0 : Int32) < t_6 then t_6 else (0 : Int32)) fun t_7 =>
  some t_7
set_option maxRecDepth 100000 in
noncomputable def z_X6_highest (σ : ez_H) (h0 : Nat) (x1 : Int32) : Option (Int32) :=
  ez_bd (ez_ob σ 6 h0) fun _ =>
  ez_bd (ez_gi σ 6 h0 1) fun t_1 =>
  ez_let (t_1 - (1 : Int32)) fun t_5 =>
  ez_bd (ez_gi σ 6 h0 2) fun t_8 =>
  ez_let (x1 + t_8) fun t_11 =>
  ez_let (if t_11 < t_5 then t_11 else t_5) fun t_12 =>
  some t_12
set_option maxRecDepth 100000 in
noncomputable def z_X8_addChamber_121 (k_10 : ez_H → Nat → Int32 → Int32 → Option (Unit × ez_H)) (σ : ez_H) (h0 : Nat) (x1 : Int32) (x2 : Int32) : Option (Unit × ez_H) :=
  ez_let (x2 + 1) fun t_121 =>
  k_10 σ h0 x1 t_121
set_option maxRecDepth 100000 in
noncomputable def z_X8_addChamber_41 (k_10 : ez_H → Nat → Int32 → Int32 → Option (Unit × ez_H)) (k_41 : ez_H → Nat → Int32 → Int32 → Int32 → Int32 → Option (Unit × ez_H)) (σ : ez_H) (h0 : Nat) (x1 : Int32) (x2 : Int32) (x3 : Int32) (x4 : Int32) : Option (Unit × ez_H) :=
  ez_bd (ez_gr σ 8 h0 1) fun t_44 =>
  ez_bd (z_X6_highest σ t_44 x3) fun t_48 =>
  if t_48 < x4 then (
  z_X8_addChamber_121 k_10 σ h0 x1 x2
  ) else (
  if (6 : Int32) ≤ x4 then (
  z_X8_addChamber_121 k_10 σ h0 x1 x2
  ) else (
  ez_nz (64 : Int32) <|
  ez_let (x2 - x2 / (64 : Int32) * (64 : Int32)) fun t_67 =>
  ez_bd (ez_gr σ 8 h0 3) fun t_69 =>
  ez_bd (ez_ia σ 1 t_69 x4) fun t_74 =>
  ez_let (t_67 &&& t_74) fun t_75 =>
  ez_bd (ez_gr σ 8 h0 4) fun t_77 =>
  ez_bd (ez_ia σ 1 t_77 x2) fun t_81 =>
  ez_bd (ez_gr σ 8 h0 5) fun t_83 =>
  ez_bd (ez_ia σ 1 t_83 x2) fun t_87 =>
  ez_bd (ez_gr σ 8 h0 1) fun t_89 =>
  ez_bd (ez_gi σ 6 t_89 1) fun t_92 =>
  ez_let (t_87 * t_92) fun t_95 =>
  ez_let (t_95 + x4) fun t_98 =>
  ez_bd (ez_gr σ 8 h0 6) fun t_100 =>
  ez_bd (ez_ia σ 1 t_100 x2) fun t_104 =>
  ez_bd (z_X6_notch σ x1 x4) fun t_108 =>
  ez_let (t_104 ||| t_108) fun t_111 =>
  ez_b2 (z_X8_add σ h0 x4 t_75 t_81 t_98 t_111) fun _ σ =>
  ez_let (x4 + 1) fun t_115 =>
  k_41 σ h0 x1 x2 x3 t_115
  )
  )
set_option maxRecDepth 100000 in
noncomputable def z_X8_addChamber_10 (k_10 : ez_H → Nat → Int32 → Int32 → Option (Unit × ez_H)) (σ : ez_H) (h0 : Nat) (x1 : Int32) (x2 : Int32) : Option (Unit × ez_H) :=
  if (384 : Int32) ≤ x2 then (
  ez_b2 (z_X8_changeOver σ h0) fun _ σ =>
  some ((), σ)
  ) else (
  ez_bd (ez_gr σ 8 h0 4) fun t_18 =>
  ez_bd (ez_ia σ 1 t_18 x2) fun t_22 =>
  if t_22 ≤ (0 : Int32) then (
  z_X8_addChamber_121 k_10 σ h0 x1 x2
  ) else (
  ez_nz (64 : Int32) <|
  ez_let (x2 / (64 : Int32)) fun t_29 =>
  ez_bd (ez_gr σ 8 h0 1) fun t_32 =>
  ez_bd (z_X6_lowest σ t_32 t_29) fun t_36 =>
  ez_fix (fun _ _ _ _ _ _ => none) (z_X8_addChamber_41 k_10) ez_N σ h0 x1 x2 t_29 t_36
  )
  )
set_option maxRecDepth 100000 in
noncomputable def z_X8_addChamber (σ : ez_H) (h0 : Nat) (x1 : Int32) : Option (Unit × ez_H) :=
  ez_bd (ez_ob σ 8 h0) fun _ =>
  ez_bd (ez_gr σ 8 h0 7) fun t_1 =>
  ez_b2 (z_J7_fill_53178 σ t_1 (0 : Int32)) fun _ σ =>
  ez_fix (fun _ _ _ _ => none) (z_X8_addChamber_10 ) ez_N σ h0 x1 (0 : Int32)
set_option maxRecDepth 100000 in
noncomputable def z_X8_gather_127 (k_10 : ez_H → Nat → Int32 → Option (Unit × ez_H)) (σ : ez_H) (h0 : Nat) (x1 : Int32) : Option (Unit × ez_H) :=
  ez_let (x1 + 1) fun t_127 =>
  k_10 σ h0 t_127
set_option maxRecDepth 100000 in
noncomputable def z_X8_gather_111 (k_10 : ez_H → Nat → Int32 → Option (Unit × ez_H)) (σ : ez_H) (h0 : Nat) (x1 : Int32) (x2 : Int32) (y0 : Nat) (y1 : Int32) (y2 : Int32) : Option (Unit × ez_H) :=
  ez_bd (ez_is σ 1 y0 y1 y2) fun σ =>
  ez_bd (ez_gr σ 8 h0 10) fun t_113 =>
  ez_bd (ez_ia σ 1 t_113 x2) fun t_118 =>
  ez_bd (ez_gr σ 8 h0 4) fun t_120 =>
  ez_bd (ez_ia σ 1 t_120 x1) fun t_124 =>
  ez_let (t_118 + t_124) fun t_125 =>
  ez_bd (ez_is σ 1 t_113 x2 t_125) fun σ =>
  z_X8_gather_127 k_10 σ h0 x1
set_option maxRecDepth 100000 in
noncomputable def z_X8_gather_79 (k_10 : ez_H → Nat → Int32 → Option (Unit × ez_H)) (σ : ez_H) (h0 : Nat) (x1 : Int32) (x2 : Int32) (x3 : Int32) (y0 : Nat) (y1 : Int32) (y2 : Int32) : Option (Unit × ez_H) :=
  ez_bd (ez_is σ 1 y0 y1 y2) fun σ =>
  ez_bd (ez_gr σ 8 h0 12) fun t_81 =>
  if x3 = (0 : Int32) then (
  ez_bd (ez_gr σ 8 h0 12) fun t_99 =>
  ez_bd (ez_ia σ 1 t_99 x2) fun t_103 =>
  ez_bd (ez_gr σ 8 h0 6) fun t_105 =>
  ez_bd (ez_ia σ 1 t_105 x1) fun t_109 =>
  ez_let (t_103 ||| t_109) fun t_110 =>
  z_X8_gather_111 k_10 σ h0 x1 x2 t_81 x2 t_110
  ) else (
  ez_bd (ez_gr σ 8 h0 6) fun t_90 =>
  ez_bd (ez_ia σ 1 t_90 x1) fun t_94 =>
  z_X8_gather_111 k_10 σ h0 x1 x2 t_81 x2 t_94
  )
set_option maxRecDepth 100000 in
noncomputable def z_X8_gather_45 (k_10 : ez_H → Nat → Int32 → Option (Unit × ez_H)) (σ : ez_H) (h0 : Nat) (x1 : Int32) (x2 : Int32) (y0 : Int32) : Option (Unit × ez_H) :=
  ez_bd (ez_gr σ 8 h0 11) fun t_47 =>
  if y0 = (0 : Int32) then (
  ez_bd (ez_gr σ 8 h0 11) fun t_65 =>
  ez_bd (ez_ia σ 1 t_65 x2) fun t_69 =>
  ez_bd (ez_gr σ 8 h0 5) fun t_71 =>
  ez_bd (ez_ia σ 1 t_71 x1) fun t_75 =>
  ez_let (if t_75 < t_69 then t_75 else t_69) fun t_76 =>
  z_X8_gather_79 k_10 σ h0 x1 x2 y0 t_47 x2 t_76
  ) else (
  ez_bd (ez_gr σ 8 h0 5) fun t_56 =>
  ez_bd (ez_ia σ 1 t_56 x1) fun t_60 =>
  z_X8_gather_79 k_10 σ h0 x1 x2 y0 t_47 x2 t_60
  )
set_option maxRecDepth 100000 in
noncomputable def z_X8_gather_10 (k_10 : ez_H → Nat → Int32 → Option (Unit × ez_H)) (σ : ez_H) (h0 : Nat) (x1 : Int32) : Option (Unit × ez_H) :=
  if (384 : Int32) ≤ x1 then (
  some ((), σ)
  ) else (
  ez_nz (64 : Int32) <|
  ez_let (x1 - x1 / (64 : Int32) * (64 : Int32)) fun t_20 =>
  ez_bd (ez_gr σ 8 h0 4) fun t_23 =>
  ez_bd (ez_ia σ 1 t_23 x1) fun t_27 =>
  if t_27 ≤ (0 : Int32) then (
  z_X8_gather_127 k_10 σ h0 x1
  ) else (
  ez_bd (ez_gr σ 8 h0 10) fun t_32 =>
  ez_bd (ez_ia σ 1 t_32 t_20) fun t_36 =>
  if t_36 = (0 : Int32) then (
  z_X8_gather_45 k_10 σ h0 x1 t_20 (1 : Int32)
  ) else (
  z_X8_gather_45 k_10 σ h0 x1 t_20 (0 : Int32)
  )
  )
  )
set_option maxRecDepth 100000 in
noncomputable def z_X8_gather (σ : ez_H) (h0 : Nat) : Option (Unit × ez_H) :=
  ez_bd (ez_ob σ 8 h0) fun _ =>
  ez_bd (ez_gr σ 8 h0 10) fun t_1 =>
  ez_b2 (z_J7_fill_53178 σ t_1 (0 : Int32)) fun _ σ =>
  ez_fix (fun _ _ _ => none) (z_X8_gather_10 ) ez_N σ h0 (0 : Int32)
set_option maxRecDepth 100000 in
noncomputable def z_X8_take_149 (k_149 : ez_H → Nat → Nat → Int32 → Option (Unit × ez_H)) (σ : ez_H) (h0 : Nat) (h1 : Nat) (x3 : Int32) : Option (Unit × ez_H) :=
  ez_bd (ez_gr σ 8 h0 1) fun t_151 =>
  ez_bd (ez_gi σ 6 t_151 0) fun t_154 =>
  if t_154 ≤ x3 then (
  ez_b2 (z_X8_gather σ h0) fun _ σ =>
  some ((), σ)
  ) else (
  ez_b2 (z_X8_allowIn σ h0 x3 h1) fun _ σ =>
  ez_b2 (z_X8_addChamber σ h0 x3) fun _ σ =>
  ez_let (x3 + 1) fun t_171 =>
  k_149 σ h0 h1 t_171
  )
set_option maxRecDepth 100000 in
noncomputable def z_X8_take_143 (σ : ez_H) (h0 : Nat) (h1 : Nat) : Option (Unit × ez_H) :=
  ez_b2 (z_X8_changeOver σ h0) fun _ σ =>
  ez_fix (fun _ _ _ _ => none) (z_X8_take_149 ) ez_N σ h0 h1 (1 : Int32)
set_option maxRecDepth 100000 in
noncomputable def z_X8_take_102 (k_102 : ez_H → Nat → Nat → Int32 → Option (Unit × ez_H)) (σ : ez_H) (h0 : Nat) (h1 : Nat) (x3 : Int32) : Option (Unit × ez_H) :=
  ez_bd (ez_gr σ 8 h0 1) fun t_104 =>
  ez_bd (ez_gi σ 6 t_104 1) fun t_107 =>
  if t_107 ≤ x3 then (
  z_X8_take_143  σ h0 h1
  ) else (
  if (6 : Int32) ≤ x3 then (
  z_X8_take_143  σ h0 h1
  ) else (
  ez_bd (ez_gr σ 8 h0 3) fun t_122 =>
  ez_bd (ez_ia σ 1 t_122 x3) fun t_126 =>
  ez_bd (z_X6_notch σ (0 : Int32) x3) fun t_131 =>
  ez_b2 (z_X8_add σ h0 x3 t_126 (1 : Int32) x3 t_131) fun _ σ =>
  ez_let (x3 + 1) fun t_137 =>
  k_102 σ h0 h1 t_137
  )
  )
set_option maxRecDepth 100000 in
noncomputable def z_X8_take_54 (k_54 : ez_H → Nat → Nat → Int32 → Int32 → Option (Unit × ez_H)) (σ : ez_H) (h0 : Nat) (h1 : Nat) (x2 : Int32) (x3 : Int32) : Option (Unit × ez_H) :=
  if (6 : Int32) ≤ x3 then (
  if x2 = (0 : Int32) then (
  ez_bd (ez_gr σ 8 h0 7) fun t_87 =>
  ez_b2 (z_J7_fill_53178 σ t_87 (0 : Int32)) fun _ σ =>
  ez_b2 (z_X8_allowIn σ h0 (0 : Int32) h1) fun _ σ =>
  ez_fix (fun _ _ _ _ => none) (z_X8_take_102 ) ez_N σ h0 h1 (0 : Int32)
  ) else (
  some ((), σ)
  )
  ) else (
  ez_let ((4 : Int32) + x3) fun t_64 =>
  ez_bd (z_X7_pins σ h1 x3) fun t_67 =>
  ez_b2 (z_X8_isMarked σ h0 t_64 t_67) fun t_70 σ =>
  ez_let (x2 &&& t_70) fun t_73 =>
  ez_let (x3 + 1) fun t_75 =>
  k_54 σ h0 h1 t_73 t_75
  )
set_option maxRecDepth 100000 in
noncomputable def z_X8_take (σ : ez_H) (h0 : Nat) (h1 : Nat) : Option (Unit × ez_H) :=
  ez_bd (ez_ob σ 8 h0) fun _ =>
  ez_bd (ez_gr σ 8 h0 1) fun t_3 =>
  ez_bd (ez_gi σ 6 t_3 0) fun t_6 =>
  ez_b2 (z_X8_isMarked σ h0 (0 : Int32) t_6) fun t_9 σ =>
  ez_bd (ez_gr σ 8 h0 1) fun t_15 =>
  ez_bd (ez_gi σ 6 t_15 1) fun t_18 =>
  ez_b2 (z_X8_isMarked σ h0 (1 : Int32) t_18) fun t_21 σ =>
  ez_let (t_9 &&& t_21) fun t_24 =>
  ez_bd (ez_gr σ 8 h0 1) fun t_28 =>
  ez_bd (ez_gi σ 6 t_28 2) fun t_31 =>
  ez_b2 (z_X8_isMarked σ h0 (2 : Int32) t_31) fun t_34 σ =>
  ez_let (t_24 &&& t_34) fun t_37 =>
  ez_bd (ez_gr σ 8 h0 0) fun t_41 =>
  ez_bd (ez_gi σ 3 t_41 4) fun t_44 =>
  ez_b2 (z_X8_isMarked σ h0 (3 : Int32) t_44) fun t_47 σ =>
  ez_let (t_37 &&& t_47) fun t_50 =>
  ez_fix (fun _ _ _ _ _ => none) (z_X8_take_54 ) ez_N σ h0 h1 t_50 (0 : Int32)
set_option maxRecDepth 100000 in
noncomputable def z_X10_knownAt_95 (σ : ez_H) (x3 : Int32) : Option (Int32) :=
  some x3
set_option maxRecDepth 100000 in
noncomputable def z_X10_knownAt_89 (σ : ez_H) (k_5 : Nat → Int32 → Int32 → Int32 → Int32 → Option (Int32)) (h0 : Nat) (x1 : Int32) (x2 : Int32) (x3 : Int32) (x4 : Int32) : Option (Int32) :=
  ez_let (x4 + 1) fun t_89 =>
  k_5 h0 x1 x2 x3 t_89
set_option maxRecDepth 100000 in
noncomputable def z_X10_knownAt_48 (σ : ez_H) (k_5 : Nat → Int32 → Int32 → Int32 → Int32 → Option (Int32)) (h0 : Nat) (x1 : Int32) (x2 : Int32) (x3 : Int32) (x4 : Int32) (y0 : Int32) : Option (Int32) :=
  ez_bd (ez_gr σ 10 h0 1) fun t_51 =>
  ez_bd (ez_ia σ 3 t_51 x4) fun t_56 =>
  if t_56 = x2 then (
  ez_bd (ez_gr σ 10 h0 2) fun t_62 =>
  ez_bd (ez_ia σ 1 t_62 x4) fun t_67 =>
  if x1 < t_67 then (
  z_X10_knownAt_89 σ k_5 h0 x1 x2 x3 x4
  ) else (
  if y0 = (0 : Int32) then (
  ez_bd (ez_gr σ 10 h0 0) fun t_80 =>
  ez_bd (ez_ia σ 1 t_80 x4) fun t_85 =>
  ez_let ((1 : Int32) <<< (t_85 &&& 31)) fun t_86 =>
  ez_let (x3 ||| t_86) fun t_87 =>
  z_X10_knownAt_89 σ k_5 h0 x1 x2 t_87 x4
  ) else (
  z_X10_knownAt_89 σ k_5 h0 x1 x2 x3 x4
  )
  )
  ) else (
  z_X10_knownAt_89 σ k_5 h0 x1 x2 x3 x4
  )
set_option maxRecDepth 100000 in
noncomputable def z_X10_knownAt_47 (σ : ez_H) (k_5 : Nat → Int32 → Int32 → Int32 → Int32 → Option (Int32)) (h0 : Nat) (x1 : Int32) (x2 : Int32) (x3 : Int32) (x4 : Int32) : Option (Int32) :=
  z_X10_knownAt_48 σ k_5 h0 x1 x2 x3 x4 (0 : Int32)
set_option maxRecDepth 100000 in
noncomputable def z_X10_knownAt_5 (σ : ez_H) (k_5 : Nat → Int32 → Int32 → Int32 → Int32 → Option (Int32)) (h0 : Nat) (x1 : Int32) (x2 : Int32) (x3 : Int32) (x4 : Int32) : Option (Int32) :=
  ez_bd (ez_gi σ 10 h0 4) fun t_8 =>
  if t_8 ≤ x4 then (
  z_X10_knownAt_95 σ x3
  ) else (
  if (30 : Int32) ≤ x4 then (
  z_X10_knownAt_95 σ x3
  ) else (
  ez_bd (ez_gr σ 10 h0 3) fun t_22 =>
  ez_bd (ez_ia σ 1 t_22 x4) fun t_27 =>
  if t_27 = (-1 : Int32) then (
  z_X10_knownAt_47 σ k_5 h0 x1 x2 x3 x4
  ) else (
  ez_bd (ez_gr σ 10 h0 3) fun t_33 =>
  ez_bd (ez_ia σ 1 t_33 x4) fun t_38 =>
  if x1 < t_38 then (
  z_X10_knownAt_47 σ k_5 h0 x1 x2 x3 x4
  ) else (
  z_X10_knownAt_48 σ k_5 h0 x1 x2 x3 x4 (1 : Int32)
  )
  )
  )
  )
set_option maxRecDepth 100000 in
noncomputable def z_X10_knownAt (σ : ez_H) (h0 : Nat) (x1 : Int32) (x2 : Int32) : Option (Int32) :=
  ez_bd (ez_ob σ 10 h0) fun _ =>
  ez_fix (fun _ _ _ _ _ => none) (z_X10_knownAt_5 σ) ez_N h0 x1 x2 (0 : Int32) (0 : Int32)
set_option maxRecDepth 100000 in
noncomputable def z_X8_isSuch_27 (σ : ez_H) (y0 : Int32) : Option (Int32) :=
  ez_nr .boolean y0 <|
  some y0
set_option maxRecDepth 100000 in
noncomputable def z_X8_isSuch_26 (σ : ez_H) : Option (Int32) :=
  z_X8_isSuch_27 σ (0 : Int32)
set_option maxRecDepth 100000 in
noncomputable def z_X8_isSuch (σ : ez_H) (h0 : Nat) (x1 : Int32) (x2 : Int32) (x3 : Int32) : Option (Int32) :=
  ez_bd (ez_ob σ 8 h0) fun _ =>
  ez_bd (ez_gr σ 8 h0 10) fun t_1 =>
  ez_bd (ez_ia σ 1 t_1 x1) fun t_5 =>
  if t_5 ≤ (0 : Int32) then (
  z_X8_isSuch_26 σ 
  ) else (
  ez_let (x1 &&& x2) fun t_11 =>
  if t_11 = x2 then (
  ez_let (x1 &&& x3) fun t_18 =>
  if t_18 = (0 : Int32) then (
  z_X8_isSuch_27 σ (1 : Int32)
  ) else (
  z_X8_isSuch_26 σ 
  )
  ) else (
  z_X8_isSuch_26 σ 
  )
  )
set_option maxRecDepth 100000 in
noncomputable def z_X8_total_33 (σ : ez_H) (k_5 : Nat → Int32 → Int32 → Int32 → Int32 → Option (Int32)) (h0 : Nat) (x1 : Int32) (x2 : Int32) (x3 : Int32) (x4 : Int32) : Option (Int32) :=
  ez_let (x4 + 1) fun t_33 =>
  k_5 h0 x1 x2 x3 t_33
set_option maxRecDepth 100000 in
noncomputable def z_X8_total_5 (σ : ez_H) (k_5 : Nat → Int32 → Int32 → Int32 → Int32 → Option (Int32)) (h0 : Nat) (x1 : Int32) (x2 : Int32) (x3 : Int32) (x4 : Int32) : Option (Int32) :=
  if (64 : Int32) ≤ x4 then (
  some x3
  ) else (
  ez_bd (z_X8_isSuch σ h0 x4 x1 x2) fun t_17 =>
  if t_17 = (0 : Int32) then (
  z_X8_total_33 σ k_5 h0 x1 x2 x3 x4
  ) else (
  ez_bd (ez_gr σ 8 h0 10) fun t_25 =>
  ez_bd (ez_ia σ 1 t_25 x4) fun t_30 =>
  ez_let (x3 + t_30) fun t_31 =>
  z_X8_total_33 σ k_5 h0 x1 x2 t_31 x4
  )
  )
set_option maxRecDepth 100000 in
noncomputable def z_X8_total (σ : ez_H) (h0 : Nat) (x1 : Int32) (x2 : Int32) : Option (Int32) :=
  ez_bd (ez_ob σ 8 h0) fun _ =>
  ez_fix (fun _ _ _ _ _ => none) (z_X8_total_5 σ) ez_N h0 x1 x2 (0 : Int32) (0 : Int32)
set_option maxRecDepth 100000 in
noncomputable def z_X11_fits (σ : ez_H) (h0 : Nat) (x1 : Int32) : Option (Int32 × ez_H) :=
  ez_bd (ez_ob σ 11 h0) fun _ =>
  ez_bd (ez_gr σ 11 h0 11) fun t_1 =>
  ez_bd (ez_gr σ 11 h0 3) fun t_5 =>
  ez_bd (ez_gr σ 3 t_5 2) fun t_8 =>
  ez_b2 (z_X8_take σ t_1 t_8) fun _ σ =>
  ez_bd (ez_gr σ 11 h0 11) fun t_15 =>
  ez_bd (ez_gr σ 11 h0 14) fun t_19 =>
  ez_bd (z_X10_knownAt σ t_19 x1 (1 : Int32)) fun t_24 =>
  ez_bd (ez_gr σ 11 h0 14) fun t_28 =>
  ez_bd (z_X10_knownAt σ t_28 x1 (0 : Int32)) fun t_33 =>
  ez_bd (z_X8_total σ t_15 t_24 t_33) fun t_36 =>
  some (t_36, σ)
set_option maxRecDepth 100000 in
noncomputable def z_X11_ask_9 (σ : ez_H) : Option (Int32 × ez_H) :=
  some ((-1 : Int32), σ)
set_option maxRecDepth 100000 in
noncomputable def z_X11_ask_139 (σ : ez_H) (y0 : Int32) : Option (Int32 × ez_H) :=
  some (y0, σ)
set_option maxRecDepth 100000 in
noncomputable def z_X11_ask_132 (σ : ez_H) (x6 : Int32) : Option (Int32 × ez_H) :=
  z_X11_ask_139  σ x6
set_option maxRecDepth 100000 in
noncomputable def z_X11_ask_116 (k_54 : ez_H → Nat → Int32 → Int32 → Int32 → Int32 → Int32 → Int32 → Int32 → Option (Int32 × ez_H)) (σ : ez_H) (h0 : Nat) (x1 : Int32) (x3 : Int32) (x4 : Int32) (x5 : Int32) (x6 : Int32) (x7 : Int32) (x8 : Int32) : Option (Int32 × ez_H) :=
  ez_let (x8 + 1) fun t_116 =>
  k_54 σ h0 x1 x3 x4 x5 x6 x7 t_116
set_option maxRecDepth 100000 in
noncomputable def z_X11_ask_108 (k_54 : ez_H → Nat → Int32 → Int32 → Int32 → Int32 → Int32 → Int32 → Int32 → Option (Int32 × ez_H)) (σ : ez_H) (h0 : Nat) (x1 : Int32) (x3 : Int32) (x4 : Int32) (x5 : Int32) (x8 : Int32) (x10 : Int32) : Option (Int32 × ez_H) :=
  z_X11_ask_116 k_54 σ h0 x1 x3 x4 x5 x8 x10 x8
set_option maxRecDepth 100000 in
noncomputable def z_X11_ask_54 (k_54 : ez_H → Nat → Int32 → Int32 → Int32 → Int32 → Int32 → Int32 → Int32 → Option (Int32 × ez_H)) (σ : ez_H) (h0 : Nat) (x1 : Int32) (x3 : Int32) (x4 : Int32) (x5 : Int32) (x6 : Int32) (x7 : Int32) (x8 : Int32) : Option (Int32 × ez_H) :=
  ez_bd (ez_gr σ 11 h0 3) fun t_57 =>
  ez_bd (ez_gi σ 3 t_57 4) fun t_60 =>
  if t_60 ≤ x8 then (
  if x1 = (0 : Int32) then (
  z_X11_ask_132  σ x6
  ) else (
  if x6 = (-1 : Int32) then (
  z_X11_ask_132  σ x6
  ) else (
  z_X11_ask_139  σ x7
  )
  )
  ) else (
  ez_bd (ez_gr σ 11 h0 11) fun t_67 =>
  ez_let ((1 : Int32) <<< (x8 &&& 31)) fun t_75 =>
  ez_let (x4 ||| t_75) fun t_76 =>
  ez_bd (z_X8_total σ t_67 t_76 x5) fun t_79 =>
  ez_let (x3 - t_79) fun t_89 =>
  ez_let (if t_79 < t_89 then t_89 else t_79) fun t_90 =>
  if x6 = (-1 : Int32) then (
  z_X11_ask_108 k_54 σ h0 x1 x3 x4 x5 x8 t_90
  ) else (
  if x7 ≤ t_90 then (
  z_X11_ask_116 k_54 σ h0 x1 x3 x4 x5 x6 x7 x8
  ) else (
  z_X11_ask_108 k_54 σ h0 x1 x3 x4 x5 x8 t_90
  )
  )
  )
set_option maxRecDepth 100000 in
noncomputable def z_X11_ask (σ : ez_H) (h0 : Nat) (x1 : Int32) (x2 : Int32) : Option (Int32 × ez_H) :=
  ez_bd (ez_ob σ 11 h0) fun _ =>
  if x1 < (0 : Int32) then (
  z_X11_ask_9  σ
  ) else (
  if x1 ≤ (1 : Int32) then (
  ez_b2 (z_X11_fits σ h0 x2) fun t_13 σ =>
  if t_13 = (0 : Int32) then (
  some ((-1 : Int32), σ)
  ) else (
  ez_bd (ez_gr σ 11 h0 14) fun t_24 =>
  ez_bd (z_X10_knownAt σ t_24 x2 (1 : Int32)) fun t_29 =>
  ez_bd (ez_gr σ 11 h0 14) fun t_35 =>
  ez_bd (z_X10_knownAt σ t_35 x2 (0 : Int32)) fun t_40 =>
  ez_fix (fun _ _ _ _ _ _ _ _ _ => none) (z_X11_ask_54 ) ez_N σ h0 x1 t_13 t_29 t_40 (-1 : Int32) (0 : Int32) (0 : Int32)
  )
  ) else (
  z_X11_ask_9  σ
  )
  )
set_option maxRecDepth 100000 in
noncomputable def z_X7_copyFrom (σ : ez_H) (h0 : Nat) (h1 : Nat) : Option (Unit × ez_H) :=
  ez_bd (ez_ob σ 7 h0) fun _ =>
  ez_bd (ez_gr σ 7 h1 0) fun t_1 =>
  ez_bd (ez_gr σ 7 h0 0) fun t_6 =>
  ez_bd (ez_cp σ t_1 t_6 (35 : Int32)) fun σ =>
  some ((), σ)
set_option maxRecDepth 100000 in
noncomputable def z_X1_forget (σ : ez_H) (h0 : Nat) : Option (Unit × ez_H) :=
  ez_bd (ez_ob σ 1 h0) fun _ =>
  ez_bd (ez_pf σ 1 h0 1 (.inl (0 : Int32))) fun σ =>
  ez_bd (ez_pf σ 1 h0 2 (.inl (0 : Int32))) fun σ =>
  ez_bd (ez_pf σ 1 h0 3 (.inl (0 : Int32))) fun σ =>
  some ((), σ)
set_option maxRecDepth 100000 in
noncomputable def z_X7_holder (σ : ez_H) (h0 : Nat) (x1 : Int32) : Option (Int32) :=
  ez_bd (ez_ob σ 7 h0) fun _ =>
  ez_let ((16 : Int32) + x1) fun t_4 =>
  ez_bd (z_X7_look σ h0 t_4) fun t_5 =>
  some t_5
set_option maxRecDepth 100000 in
noncomputable def z_X7_heldBy_41 (σ : ez_H) (x3 : Int32) : Option (Int32) :=
  some x3
set_option maxRecDepth 100000 in
noncomputable def z_X7_heldBy_35 (σ : ez_H) (k_5 : Nat → Int32 → Int32 → Int32 → Int32 → Option (Int32)) (h0 : Nat) (x1 : Int32) (x2 : Int32) (x3 : Int32) (x4 : Int32) : Option (Int32) :=
  ez_let (x4 + 1) fun t_35 =>
  k_5 h0 x1 x2 x3 t_35
set_option maxRecDepth 100000 in
noncomputable def z_X7_heldBy_5 (σ : ez_H) (k_5 : Nat → Int32 → Int32 → Int32 → Int32 → Option (Int32)) (h0 : Nat) (x1 : Int32) (x2 : Int32) (x3 : Int32) (x4 : Int32) : Option (Int32) :=
  if x2 ≤ x4 then (
  z_X7_heldBy_41 σ x3
  ) else (
  if (8 : Int32) ≤ x4 then (
  z_X7_heldBy_41 σ x3
  ) else (
  ez_bd (z_X7_holder σ h0 x4) fun t_21 =>
  if t_21 = x1 then (
  ez_let ((1 : Int32) <<< (x4 &&& 31)) fun t_32 =>
  ez_let (x3 ||| t_32) fun t_33 =>
  z_X7_heldBy_35 σ k_5 h0 x1 x2 t_33 x4
  ) else (
  z_X7_heldBy_35 σ k_5 h0 x1 x2 x3 x4
  )
  )
  )
set_option maxRecDepth 100000 in
noncomputable def z_X7_heldBy (σ : ez_H) (h0 : Nat) (x1 : Int32) (x2 : Int32) : Option (Int32) :=
  ez_bd (ez_ob σ 7 h0) fun _ =>
  ez_fix (fun _ _ _ _ _ => none) (z_X7_heldBy_5 σ) ez_N h0 x1 x2 (0 : Int32) (0 : Int32)
set_option maxRecDepth 100000 in
noncomputable def z_J6_bitCount_0f7a4 (σ : ez_H) (x0 : Int32) : Option (Int32) :=
  ez_let ((Int32.toUInt32 x0 >>> (Int32.toUInt32 (1 : Int32) &&& Int32.toUInt32 31)).toInt32) fun t_3 =>
  ez_let (t_3 &&& (1431655765 : Int32)) fun t_7 =>
  ez_let (x0 - t_7) fun t_8 =>
  ez_let (t_8 &&& (858993459 : Int32)) fun t_14 =>
  ez_let ((Int32.toUInt32 t_8 >>> (Int32.toUInt32 (2 : Int32) &&& Int32.toUInt32 31)).toInt32) fun t_17 =>
  ez_let (t_17 &&& (858993459 : Int32)) fun t_21 =>
  ez_let (t_14 + t_21) fun t_22 =>
  ez_let ((Int32.toUInt32 t_22 >>> (Int32.toUInt32 (4 : Int32) &&& Int32.toUInt32 31)).toInt32) fun t_27 =>
  ez_let (t_22 + t_27) fun t_28 =>
  ez_let (t_28 &&& (252645135 : Int32)) fun t_32 =>
  ez_let ((Int32.toUInt32 t_32 >>> (Int32.toUInt32 (8 : Int32) &&& Int32.toUInt32 31)).toInt32) fun t_38 =>
  ez_let (t_32 + t_38) fun t_39 =>
  ez_let ((Int32.toUInt32 t_39 >>> (Int32.toUInt32 (16 : Int32) &&& Int32.toUInt32 31)).toInt32) fun t_45 =>
  ez_let (t_39 + t_45) fun t_46 =>
  ez_let (t_46 &&& (63 : Int32)) fun t_51 =>
  some t_51
set_option maxRecDepth 100000 in
noncomputable def z_X11_back_20 (σ : ez_H) : Option (Int32 × ez_H) :=
  some ((-1 : Int32), σ)
set_option maxRecDepth 100000 in
noncomputable def z_X11_back (σ : ez_H) (h0 : Nat) (x1 : Int32) : Option (Int32 × ez_H) :=
  ez_bd (ez_ob σ 11 h0) fun _ =>
  if x1 < (0 : Int32) then (
  z_X11_back_20  σ
  ) else (
  if (3 : Int32) ≤ x1 then (
  z_X11_back_20  σ
  ) else (
  ez_bd (ez_gi σ 11 h0 9) fun t_10 =>
  ez_let (t_10 >>> (x1 &&& 31)) fun t_14 =>
  ez_let (t_14 &&& (1 : Int32)) fun t_16 =>
  if t_16 = (0 : Int32) then (
  z_X11_back_20  σ
  ) else (
  ez_bd (ez_gr σ 11 h0 5) fun t_23 =>
  ez_bd (ez_gr σ 11 h0 8) fun t_27 =>
  ez_bd (ez_ra σ 4 t_27 x1) fun t_31 =>
  ez_b2 (z_X7_copyFrom σ t_23 t_31) fun _ σ =>
  ez_bd (ez_gr σ 11 h0 7) fun t_36 =>
  ez_b2 (z_X1_forget σ t_36) fun _ σ =>
  ez_bd (ez_gr σ 11 h0 5) fun t_43 =>
  ez_bd (ez_gr σ 11 h0 3) fun t_49 =>
  ez_bd (ez_gi σ 3 t_49 3) fun t_52 =>
  ez_bd (z_X7_heldBy σ t_43 (-2 : Int32) t_52) fun t_55 =>
  ez_bd (z_J6_bitCount_0f7a4 σ t_55) fun t_58 =>
  some (t_58, σ)
  )
  )
  )
set_option maxRecDepth 100000 in
noncomputable def z_X3_allRooms (σ : ez_H) (h0 : Nat) : Option (Int32) :=
  ez_bd (ez_ob σ 3 h0) fun _ =>
  ez_bd (ez_gi σ 3 h0 5) fun t_2 =>
  ez_let ((1 : Int32) <<< (t_2 &&& 31)) fun t_5 =>
  ez_let (t_5 - (1 : Int32)) fun t_7 =>
  some t_7
set_option maxRecDepth 100000 in
noncomputable def z_X7_room (σ : ez_H) (h0 : Nat) (x1 : Int32) : Option (Int32) :=
  ez_bd (ez_ob σ 7 h0) fun _ =>
  ez_let ((30 : Int32) + x1) fun t_4 =>
  ez_bd (z_X7_look σ h0 t_4) fun t_5 =>
  some t_5
set_option maxRecDepth 100000 in
noncomputable def z_X7_bits (σ : ez_H) (h0 : Nat) (x1 : Int32) : Option (Int32) :=
  ez_bd (ez_ob σ 7 h0) fun _ =>
  ez_bd (z_X7_look σ h0 x1) fun t_2 =>
  some t_2
set_option maxRecDepth 100000 in
noncomputable def z_X6_fitsIn_13 (σ : ez_H) (y0 : Int32) : Option (Int32) :=
  ez_nr .boolean y0 <|
  some y0
set_option maxRecDepth 100000 in
noncomputable def z_X6_fitsIn (σ : ez_H) (x0 : Int32) (x1 : Int32) : Option (Int32) :=
  ez_let (x1 ^^^ (-1 : Int32)) fun t_3 =>
  ez_let (x0 &&& t_3) fun t_4 =>
  if t_4 = (0 : Int32) then (
  z_X6_fitsIn_13 σ (1 : Int32)
  ) else (
  z_X6_fitsIn_13 σ (0 : Int32)
  )
set_option maxRecDepth 100000 in
noncomputable def z_X2_locksFor_74 (σ : ez_H) (k_4 : Nat → Int32 → Int32 → Int32 → Option (Int32)) (h0 : Nat) (x1 : Int32) (x2 : Int32) (x3 : Int32) : Option (Int32) :=
  ez_let (x3 + 1) fun t_74 =>
  k_4 h0 x1 x2 t_74
set_option maxRecDepth 100000 in
noncomputable def z_X2_locksFor_68 (σ : ez_H) (k_4 : Nat → Int32 → Int32 → Int32 → Option (Int32)) (k_18 : Nat → Int32 → Int32 → Int32 → Int32 → Option (Int32)) (h0 : Nat) (x1 : Int32) (x2 : Int32) (x3 : Int32) (x4 : Int32) : Option (Int32) :=
  ez_let (x4 + 1) fun t_68 =>
  k_18 h0 x1 x2 x3 t_68
set_option maxRecDepth 100000 in
noncomputable def z_X2_locksFor_18 (σ : ez_H) (k_4 : Nat → Int32 → Int32 → Int32 → Option (Int32)) (k_18 : Nat → Int32 → Int32 → Int32 → Int32 → Option (Int32)) (h0 : Nat) (x1 : Int32) (x2 : Int32) (x3 : Int32) (x4 : Int32) : Option (Int32) :=
  ez_bd (ez_gr σ 2 h0 0) fun t_21 =>
  ez_bd (ez_gi σ 3 t_21 4) fun t_24 =>
  if t_24 ≤ x4 then (
  z_X2_locksFor_74 σ k_4 h0 x1 x2 x3
  ) else (
  ez_let (x1 >>> (x3 &&& 31)) fun t_32 =>
  ez_let (t_32 &&& (1 : Int32)) fun t_34 =>
  if t_34 = (0 : Int32) then (
  z_X2_locksFor_74 σ k_4 h0 x1 x2 x3
  ) else (
  ez_bd (ez_gr σ 2 h0 1) fun t_39 =>
  ez_bd (z_X7_bits σ t_39 x3) fun t_43 =>
  ez_bd (ez_gr σ 2 h0 1) fun t_47 =>
  ez_bd (z_X7_pins σ t_47 x4) fun t_52 =>
  ez_bd (z_X6_fitsIn σ t_43 t_52) fun t_55 =>
  if t_55 = (0 : Int32) then (
  z_X2_locksFor_68 σ k_4 k_18 h0 x1 x2 x3 x4
  ) else (
  ez_let ((1 : Int32) <<< (x4 &&& 31)) fun t_65 =>
  ez_let (x2 ||| t_65) fun t_66 =>
  z_X2_locksFor_68 σ k_4 k_18 h0 x1 t_66 x3 x4
  )
  )
  )
set_option maxRecDepth 100000 in
noncomputable def z_X2_locksFor_4 (σ : ez_H) (k_4 : Nat → Int32 → Int32 → Int32 → Option (Int32)) (h0 : Nat) (x1 : Int32) (x2 : Int32) (x3 : Int32) : Option (Int32) :=
  ez_bd (ez_gr σ 2 h0 0) fun t_6 =>
  ez_bd (ez_gi σ 3 t_6 3) fun t_9 =>
  if t_9 ≤ x3 then (
  some x2
  ) else (
  ez_fix (fun _ _ _ _ _ => none) (z_X2_locksFor_18 σ k_4) ez_N h0 x1 x2 x3 (0 : Int32)
  )
set_option maxRecDepth 100000 in
noncomputable def z_X2_locksFor (σ : ez_H) (h0 : Nat) (x1 : Int32) : Option (Int32) :=
  ez_bd (ez_ob σ 2 h0) fun _ =>
  ez_fix (fun _ _ _ _ => none) (z_X2_locksFor_4 σ) ez_N h0 x1 (0 : Int32) (0 : Int32)
set_option maxRecDepth 100000 in
noncomputable def z_X3_look_17 (σ : ez_H) (y0 : Int32) : Option (Int32) :=
  some y0
set_option maxRecDepth 100000 in
noncomputable def z_X3_look_16 (σ : ez_H) : Option (Int32) :=
  z_X3_look_17 σ (0 : Int32)
set_option maxRecDepth 100000 in
noncomputable def z_X3_look (σ : ez_H) (h0 : Nat) (x1 : Int32) : Option (Int32) :=
  if x1 < (0 : Int32) then (
  z_X3_look_16 σ 
  ) else (
  ez_bd (ez_ln σ 1 h0) fun t_6 =>
  if t_6 ≤ x1 then (
  z_X3_look_16 σ 
  ) else (
  ez_bd (ez_ia σ 1 h0 x1) fun t_12 =>
  z_X3_look_17 σ t_12
  )
  )
set_option maxRecDepth 100000 in
noncomputable def z_X3_doorFrom (σ : ez_H) (h0 : Nat) (x1 : Int32) : Option (Int32) :=
  ez_bd (ez_ob σ 3 h0) fun _ =>
  ez_bd (ez_gr σ 3 h0 8) fun t_1 =>
  ez_bd (z_X3_look σ t_1 x1) fun t_5 =>
  some t_5
set_option maxRecDepth 100000 in
noncomputable def z_X3_doorTo (σ : ez_H) (h0 : Nat) (x1 : Int32) : Option (Int32) :=
  ez_bd (ez_ob σ 3 h0) fun _ =>
  ez_bd (ez_gr σ 3 h0 9) fun t_1 =>
  ez_bd (z_X3_look σ t_1 x1) fun t_5 =>
  some t_5
set_option maxRecDepth 100000 in
noncomputable def z_X3_doorLock (σ : ez_H) (h0 : Nat) (x1 : Int32) : Option (Int32) :=
  ez_bd (ez_ob σ 3 h0) fun _ =>
  ez_bd (ez_gr σ 3 h0 10) fun t_1 =>
  ez_bd (z_X3_look σ t_1 x1) fun t_5 =>
  some t_5
set_option maxRecDepth 100000 in
noncomputable def z_X2_flood_82 (σ : ez_H) (k_7 : Nat → Int32 → Int32 → Int32 → Option (Int32)) (k_17 : Nat → Int32 → Int32 → Int32 → Int32 → Option (Int32)) (h0 : Nat) (x2 : Int32) (x3 : Int32) (x4 : Int32) (x5 : Int32) : Option (Int32) :=
  ez_let (x5 + 1) fun t_82 =>
  k_17 h0 x2 x3 x4 t_82
set_option maxRecDepth 100000 in
noncomputable def z_X2_flood_17 (σ : ez_H) (k_7 : Nat → Int32 → Int32 → Int32 → Option (Int32)) (k_17 : Nat → Int32 → Int32 → Int32 → Int32 → Option (Int32)) (h0 : Nat) (x2 : Int32) (x3 : Int32) (x4 : Int32) (x5 : Int32) : Option (Int32) :=
  ez_bd (ez_gr σ 2 h0 0) fun t_20 =>
  ez_bd (ez_gi σ 3 t_20 6) fun t_23 =>
  if t_23 ≤ x5 then (
  ez_let (x4 + 1) fun t_88 =>
  k_7 h0 x2 x3 t_88
  ) else (
  ez_bd (ez_gr σ 2 h0 0) fun t_31 =>
  ez_bd (z_X3_doorFrom σ t_31 x5) fun t_36 =>
  ez_let ((1 : Int32) <<< (t_36 &&& 31)) fun t_39 =>
  ez_bd (ez_gr σ 2 h0 0) fun t_42 =>
  ez_bd (z_X3_doorTo σ t_42 x5) fun t_47 =>
  ez_let ((1 : Int32) <<< (t_47 &&& 31)) fun t_50 =>
  ez_let (t_39 ||| t_50) fun t_51 =>
  ez_bd (ez_gr σ 2 h0 0) fun t_56 =>
  ez_bd (z_X3_doorLock σ t_56 x5) fun t_61 =>
  ez_let (x2 >>> (t_61 &&& 31)) fun t_64 =>
  ez_let (t_64 &&& (1 : Int32)) fun t_66 =>
  if t_66 = (0 : Int32) then (
  z_X2_flood_82 σ k_7 k_17 h0 x2 x3 x4 x5
  ) else (
  ez_let (x3 &&& t_51) fun t_73 =>
  if t_73 = (0 : Int32) then (
  z_X2_flood_82 σ k_7 k_17 h0 x2 x3 x4 x5
  ) else (
  ez_let (x3 ||| t_51) fun t_80 =>
  z_X2_flood_82 σ k_7 k_17 h0 x2 t_80 x4 x5
  )
  )
  )
set_option maxRecDepth 100000 in
noncomputable def z_X2_flood_7 (σ : ez_H) (k_7 : Nat → Int32 → Int32 → Int32 → Option (Int32)) (h0 : Nat) (x2 : Int32) (x3 : Int32) (x4 : Int32) : Option (Int32) :=
  if (6 : Int32) ≤ x4 then (
  some x3
  ) else (
  ez_fix (fun _ _ _ _ _ => none) (z_X2_flood_17 σ k_7) ez_N h0 x2 x3 x4 (0 : Int32)
  )
set_option maxRecDepth 100000 in
noncomputable def z_X2_flood (σ : ez_H) (h0 : Nat) (x1 : Int32) (x2 : Int32) : Option (Int32) :=
  ez_bd (ez_ob σ 2 h0) fun _ =>
  ez_let ((1 : Int32) <<< (x1 &&& 31)) fun t_2 =>
  ez_fix (fun _ _ _ _ => none) (z_X2_flood_7 σ) ez_N h0 x2 t_2 (0 : Int32)
set_option maxRecDepth 100000 in
noncomputable def z_X2_reachWith (σ : ez_H) (h0 : Nat) (x1 : Int32) (x2 : Int32) : Option (Int32) :=
  ez_bd (ez_ob σ 2 h0) fun _ =>
  ez_bd (ez_gr σ 2 h0 1) fun t_2 =>
  ez_bd (z_X7_room σ t_2 x1) fun t_6 =>
  ez_bd (z_X2_locksFor σ h0 x2) fun t_11 =>
  ez_bd (z_X2_flood σ h0 t_6 t_11) fun t_14 =>
  some t_14
set_option maxRecDepth 100000 in
noncomputable def z_X2_reachOf (σ : ez_H) (h0 : Nat) (x1 : Int32) : Option (Int32) :=
  ez_bd (ez_ob σ 2 h0) fun _ =>
  ez_bd (ez_gr σ 2 h0 1) fun t_3 =>
  ez_bd (ez_gr σ 2 h0 0) fun t_8 =>
  ez_bd (ez_gi σ 3 t_8 3) fun t_11 =>
  ez_bd (z_X7_heldBy σ t_3 x1 t_11) fun t_14 =>
  ez_bd (z_X2_reachWith σ h0 x1 t_14) fun t_17 =>
  some t_17
set_option maxRecDepth 100000 in
noncomputable def z_X11_barred_10 (σ : ez_H) (k_10 : Nat → Int32 → Int32 → Option (Int32)) (h0 : Nat) (x1 : Int32) (x2 : Int32) : Option (Int32) :=
  ez_bd (ez_gr σ 11 h0 3) fun t_12 =>
  ez_bd (ez_gi σ 3 t_12 7) fun t_15 =>
  if t_15 ≤ x2 then (
  some x1
  ) else (
  ez_bd (ez_gr σ 11 h0 12) fun t_23 =>
  ez_bd (z_X2_reachOf σ t_23 x2) fun t_27 =>
  ez_let (t_27 ^^^ (-1 : Int32)) fun t_31 =>
  ez_let (x1 &&& t_31) fun t_32 =>
  ez_let (x2 + 1) fun t_34 =>
  k_10 h0 t_32 t_34
  )
set_option maxRecDepth 100000 in
noncomputable def z_X11_barred (σ : ez_H) (h0 : Nat) : Option (Int32) :=
  ez_bd (ez_ob σ 11 h0) fun _ =>
  ez_bd (ez_gr σ 11 h0 3) fun t_1 =>
  ez_bd (z_X3_allRooms σ t_1) fun t_4 =>
  ez_fix (fun _ _ _ => none) (z_X11_barred_10 σ) ez_N h0 t_4 (0 : Int32)
set_option maxRecDepth 100000 in
noncomputable def z_X11_best_48 (σ : ez_H) (k_6 : Nat → Int32 → Int32 → Int32 → Option (Int32)) (h0 : Nat) (x1 : Int32) (x2 : Int32) (x3 : Int32) : Option (Int32) :=
  ez_let (x3 + 1) fun t_48 =>
  k_6 h0 x1 x2 t_48
set_option maxRecDepth 100000 in
noncomputable def z_X11_best_43 (σ : ez_H) (k_6 : Nat → Int32 → Int32 → Int32 → Option (Int32)) (h0 : Nat) (x3 : Int32) (x4 : Int32) : Option (Int32) :=
  z_X11_best_48 σ k_6 h0 x3 x4 x3
set_option maxRecDepth 100000 in
noncomputable def z_X11_best_6 (σ : ez_H) (k_6 : Nat → Int32 → Int32 → Int32 → Option (Int32)) (h0 : Nat) (x1 : Int32) (x2 : Int32) (x3 : Int32) : Option (Int32) :=
  ez_bd (ez_gr σ 11 h0 3) fun t_8 =>
  ez_bd (ez_gi σ 3 t_8 3) fun t_11 =>
  if t_11 ≤ x3 then (
  some x1
  ) else (
  ez_bd (ez_gr σ 11 h0 12) fun t_18 =>
  ez_let ((1 : Int32) <<< (x3 &&& 31)) fun t_23 =>
  ez_bd (z_X2_locksFor σ t_18 t_23) fun t_24 =>
  ez_bd (z_J6_bitCount_0f7a4 σ t_24) fun t_27 =>
  if x1 = (-1 : Int32) then (
  z_X11_best_43 σ k_6 h0 x3 t_27
  ) else (
  if t_27 ≤ x2 then (
  z_X11_best_48 σ k_6 h0 x1 x2 x3
  ) else (
  z_X11_best_43 σ k_6 h0 x3 t_27
  )
  )
  )
set_option maxRecDepth 100000 in
noncomputable def z_X11_best (σ : ez_H) (h0 : Nat) : Option (Int32) :=
  ez_bd (ez_ob σ 11 h0) fun _ =>
  ez_fix (fun _ _ _ _ => none) (z_X11_best_6 σ) ez_N h0 (-1 : Int32) (0 : Int32) (0 : Int32)
set_option maxRecDepth 100000 in
noncomputable def z_X6_depthsAt (σ : ez_H) (x0 : Int32) (x1 : Int32) : Option (Int32) :=
  ez_let (x1 * (6 : Int32)) fun t_4 =>
  ez_let (x0 >>> (t_4 &&& 31)) fun t_5 =>
  ez_let (t_5 &&& (63 : Int32)) fun t_8 =>
  some t_8
set_option maxRecDepth 100000 in
noncomputable def z_X6_everythingBut_36 (σ : ez_H) (k_4 : Nat → Int32 → Int32 → Int32 → Option (Int32)) (h0 : Nat) (x1 : Int32) (x2 : Int32) (x3 : Int32) : Option (Int32) :=
  ez_let (x3 + 1) fun t_36 =>
  k_4 h0 x1 x2 t_36
set_option maxRecDepth 100000 in
noncomputable def z_X6_everythingBut_4 (σ : ez_H) (k_4 : Nat → Int32 → Int32 → Int32 → Option (Int32)) (h0 : Nat) (x1 : Int32) (x2 : Int32) (x3 : Int32) : Option (Int32) :=
  ez_bd (ez_gi σ 6 h0 0) fun t_6 =>
  if t_6 ≤ x3 then (
  some x2
  ) else (
  ez_bd (z_X6_depthsAt σ x1 x3) fun t_14 =>
  if t_14 = (0 : Int32) then (
  ez_bd (ez_gi σ 6 h0 1) fun t_23 =>
  ez_let ((1 : Int32) <<< (t_23 &&& 31)) fun t_26 =>
  ez_let (t_26 - (1 : Int32)) fun t_28 =>
  ez_let (x3 * (6 : Int32)) fun t_32 =>
  ez_let (t_28 <<< (t_32 &&& 31)) fun t_33 =>
  ez_let (x2 ||| t_33) fun t_34 =>
  z_X6_everythingBut_36 σ k_4 h0 x1 t_34 x3
  ) else (
  z_X6_everythingBut_36 σ k_4 h0 x1 x2 x3
  )
  )
set_option maxRecDepth 100000 in
noncomputable def z_X6_everythingBut (σ : ez_H) (h0 : Nat) (x1 : Int32) : Option (Int32) :=
  ez_bd (ez_ob σ 6 h0) fun _ =>
  ez_fix (fun _ _ _ _ => none) (z_X6_everythingBut_4 σ) ez_N h0 x1 (0 : Int32) (0 : Int32)
set_option maxRecDepth 100000 in
noncomputable def z_X6_everything (σ : ez_H) (h0 : Nat) : Option (Int32) :=
  ez_bd (ez_ob σ 6 h0) fun _ =>
  ez_bd (z_X6_everythingBut σ h0 (0 : Int32)) fun t_2 =>
  some t_2
set_option maxRecDepth 100000 in
noncomputable def z_X6_onwardAt_30 (σ : ez_H) (y0 : Int32) : Option (Int32) :=
  some y0
set_option maxRecDepth 100000 in
noncomputable def z_X6_onwardAt_29 (σ : ez_H) : Option (Int32) :=
  z_X6_onwardAt_30 σ (0 : Int32)
set_option maxRecDepth 100000 in
noncomputable def z_X6_onwardAt (σ : ez_H) (h0 : Nat) (x1 : Int32) (x2 : Int32) : Option (Int32) :=
  ez_bd (ez_ob σ 6 h0) fun _ =>
  ez_let (x1 * (6 : Int32)) fun t_3 =>
  ez_let (t_3 + x2) fun t_5 =>
  if t_5 < (0 : Int32) then (
  z_X6_onwardAt_29 σ 
  ) else (
  ez_bd (ez_gr σ 6 h0 3) fun t_13 =>
  ez_bd (ez_ln σ 1 t_13) fun t_16 =>
  if t_16 ≤ t_5 then (
  z_X6_onwardAt_29 σ 
  ) else (
  ez_bd (ez_gr σ 6 h0 3) fun t_21 =>
  ez_bd (ez_ia σ 1 t_21 t_5) fun t_25 =>
  z_X6_onwardAt_30 σ t_25
  )
  )
set_option maxRecDepth 100000 in
noncomputable def z_X6_waysFrom_52 (σ : ez_H) (k_18 : Nat → Int32 → Int32 → Int32 → Int32 → Int32 → Option (Int32)) (h0 : Nat) (x1 : Int32) (x2 : Int32) (x3 : Int32) (x4 : Int32) (x5 : Int32) : Option (Int32) :=
  ez_let (x5 + 1) fun t_52 =>
  k_18 h0 x1 x2 x3 x4 t_52
set_option maxRecDepth 100000 in
noncomputable def z_X6_waysFrom_18 (σ : ez_H) (k_18 : Nat → Int32 → Int32 → Int32 → Int32 → Int32 → Option (Int32)) (h0 : Nat) (x1 : Int32) (x2 : Int32) (x3 : Int32) (x4 : Int32) (x5 : Int32) : Option (Int32) :=
  ez_bd (ez_gi σ 6 h0 1) fun t_21 =>
  if t_21 ≤ x5 then (
  some x4
  ) else (
  ez_let (x5 - x2) fun t_30 =>
  ez_let (if 0 ≤ t_30 then t_30 else 0 - t_30) fun t_31 =>
  if x3 < t_31 then (
  z_X6_waysFrom_52 σ k_18 h0 x1 x2 x3 x4 x5
  ) else (
  ez_let (x1 + (1 : Int32)) fun t_43 =>
  ez_bd (z_X6_onwardAt σ h0 t_43 x5) fun t_46 =>
  ez_let (x4 + t_46) fun t_49 =>
  z_X6_waysFrom_52 σ k_18 h0 x1 x2 x3 t_49 x5
  )
  )
set_option maxRecDepth 100000 in
noncomputable def z_X6_waysFrom (σ : ez_H) (h0 : Nat) (x1 : Int32) (x2 : Int32) (x3 : Int32) : Option (Int32) :=
  ez_bd (ez_ob σ 6 h0) fun _ =>
  ez_let (x1 + (1 : Int32)) fun t_2 =>
  ez_bd (ez_gi σ 6 h0 0) fun t_4 =>
  if t_2 < t_4 then (
  ez_fix (fun _ _ _ _ _ _ => none) (z_X6_waysFrom_18 σ) ez_N h0 x1 x2 x3 (0 : Int32) (0 : Int32)
  ) else (
  some (1 : Int32)
  )
set_option maxRecDepth 100000 in
noncomputable def z_X6_putOnward_31 (σ : ez_H) : Option (Unit × ez_H) :=
  some ((), σ)
set_option maxRecDepth 100000 in
noncomputable def z_X6_putOnward (σ : ez_H) (h0 : Nat) (x1 : Int32) (x2 : Int32) (x3 : Int32) : Option (Unit × ez_H) :=
  ez_bd (ez_ob σ 6 h0) fun _ =>
  ez_let (x1 * (6 : Int32)) fun t_3 =>
  ez_let (t_3 + x2) fun t_5 =>
  if t_5 < (0 : Int32) then (
  z_X6_putOnward_31  σ
  ) else (
  ez_bd (ez_gr σ 6 h0 3) fun t_16 =>
  ez_bd (ez_ln σ 1 t_16) fun t_19 =>
  if t_19 ≤ t_5 then (
  z_X6_putOnward_31  σ
  ) else (
  ez_bd (ez_gr σ 6 h0 3) fun t_24 =>
  ez_bd (ez_is σ 1 t_24 t_5 x3) fun σ =>
  z_X6_putOnward_31  σ
  )
  )
set_option maxRecDepth 100000 in
noncomputable def z_X6_howMany_70 (k_70 : ez_H → Nat → Int32 → Int32 → Option (Int32 × ez_H)) (σ : ez_H) (h0 : Nat) (x3 : Int32) (x4 : Int32) : Option (Int32 × ez_H) :=
  ez_bd (ez_gi σ 6 h0 1) fun t_73 =>
  if t_73 ≤ x4 then (
  some (x3, σ)
  ) else (
  ez_bd (z_X6_onwardAt σ h0 (0 : Int32) x4) fun t_84 =>
  ez_let (x3 + t_84) fun t_87 =>
  ez_let (x4 + 1) fun t_89 =>
  k_70 σ h0 t_87 t_89
  )
set_option maxRecDepth 100000 in
noncomputable def z_X6_howMany_50 (k_7 : ez_H → Nat → Int32 → Int32 → Int32 → Option (Int32 × ez_H)) (k_14 : ez_H → Nat → Int32 → Int32 → Int32 → Int32 → Option (Int32 × ez_H)) (σ : ez_H) (h0 : Nat) (x1 : Int32) (x2 : Int32) (x3 : Int32) (x4 : Int32) (y0 : Nat) (y1 : Int32) (y2 : Int32) (y3 : Int32) : Option (Int32 × ez_H) :=
  ez_b2 (z_X6_putOnward σ y0 y1 y2 y3) fun _ σ =>
  ez_let (x4 + 1) fun t_53 =>
  k_14 σ h0 x1 x2 x3 t_53
set_option maxRecDepth 100000 in
noncomputable def z_X6_howMany_14 (k_7 : ez_H → Nat → Int32 → Int32 → Int32 → Option (Int32 × ez_H)) (k_14 : ez_H → Nat → Int32 → Int32 → Int32 → Int32 → Option (Int32 × ez_H)) (σ : ez_H) (h0 : Nat) (x1 : Int32) (x2 : Int32) (x3 : Int32) (x4 : Int32) : Option (Int32 × ez_H) :=
  ez_bd (ez_gi σ 6 h0 1) fun t_17 =>
  if t_17 ≤ x4 then (
  ez_let (x3 + (-1)) fun t_59 =>
  k_7 σ h0 x1 x2 t_59
  ) else (
  ez_bd (z_X6_notch σ x3 x4) fun t_31 =>
  ez_let (x1 &&& t_31) fun t_34 =>
  if t_34 = (0 : Int32) then (
  z_X6_howMany_50 k_7 k_14 σ h0 x1 x2 x3 x4 h0 x3 x4 (0 : Int32)
  ) else (
  ez_bd (z_X6_waysFrom σ h0 x3 x4 x2) fun t_47 =>
  z_X6_howMany_50 k_7 k_14 σ h0 x1 x2 x3 x4 h0 x3 x4 t_47
  )
  )
set_option maxRecDepth 100000 in
noncomputable def z_X6_howMany_7 (k_7 : ez_H → Nat → Int32 → Int32 → Int32 → Option (Int32 × ez_H)) (σ : ez_H) (h0 : Nat) (x1 : Int32) (x2 : Int32) (x3 : Int32) : Option (Int32 × ez_H) :=
  if x3 < (0 : Int32) then (
  ez_fix (fun _ _ _ _ => none) (z_X6_howMany_70 ) ez_N σ h0 (0 : Int32) (0 : Int32)
  ) else (
  ez_fix (fun _ _ _ _ _ _ => none) (z_X6_howMany_14 k_7) ez_N σ h0 x1 x2 x3 (0 : Int32)
  )
set_option maxRecDepth 100000 in
noncomputable def z_X6_howMany (σ : ez_H) (h0 : Nat) (x1 : Int32) (x2 : Int32) : Option (Int32 × ez_H) :=
  ez_bd (ez_ob σ 6 h0) fun _ =>
  ez_bd (ez_gi σ 6 h0 0) fun t_1 =>
  ez_let (t_1 - (1 : Int32)) fun t_5 =>
  ez_fix (fun _ _ _ _ _ => none) (z_X6_howMany_7 ) ez_N σ h0 x1 x2 t_5
set_option maxRecDepth 100000 in
noncomputable def z_X6_nth_17 (σ : ez_H) : Option (Int32 × ez_H) :=
  some ((0 : Int32), σ)
set_option maxRecDepth 100000 in
noncomputable def z_X6_nth_87 (k_38 : ez_H → Nat → Int32 → Int32 → Int32 → Int32 → Int32 → Option (Int32 × ez_H)) (σ : ez_H) (h0 : Nat) (x3 : Int32) (x4 : Int32) (x7 : Int32) (x8 : Int32) : Option (Int32 × ez_H) :=
  ez_bd (z_X6_notch σ x7 x8) fun t_93 =>
  ez_let (x4 ||| t_93) fun t_96 =>
  ez_bd (z_X6_lowest σ h0 x8) fun t_102 =>
  ez_bd (z_X6_highest σ h0 x8) fun t_110 =>
  ez_let (x7 + 1) fun t_115 =>
  k_38 σ h0 x3 t_96 t_102 t_110 t_115
set_option maxRecDepth 100000 in
noncomputable def z_X6_nth_51 (k_38 : ez_H → Nat → Int32 → Int32 → Int32 → Int32 → Int32 → Option (Int32 × ez_H)) (k_51 : ez_H → Nat → Int32 → Int32 → Int32 → Int32 → Int32 → Option (Int32 × ez_H)) (σ : ez_H) (h0 : Nat) (x3 : Int32) (x4 : Int32) (x6 : Int32) (x7 : Int32) (x8 : Int32) : Option (Int32 × ez_H) :=
  if x6 ≤ x8 then (
  z_X6_nth_87 k_38 σ h0 x3 x4 x7 x8
  ) else (
  ez_bd (z_X6_onwardAt σ h0 x7 x8) fun t_64 =>
  if x3 < t_64 then (
  z_X6_nth_87 k_38 σ h0 x3 x4 x7 x8
  ) else (
  ez_bd (z_X6_onwardAt σ h0 x7 x8) fun t_76 =>
  ez_let (x3 - t_76) fun t_79 =>
  ez_let (x8 + 1) fun t_81 =>
  k_51 σ h0 t_79 x4 x6 x7 t_81
  )
  )
set_option maxRecDepth 100000 in
noncomputable def z_X6_nth_38 (k_38 : ez_H → Nat → Int32 → Int32 → Int32 → Int32 → Int32 → Option (Int32 × ez_H)) (σ : ez_H) (h0 : Nat) (x3 : Int32) (x4 : Int32) (x5 : Int32) (x6 : Int32) (x7 : Int32) : Option (Int32 × ez_H) :=
  ez_bd (ez_gi σ 6 h0 0) fun t_41 =>
  if t_41 ≤ x7 then (
  some (x4, σ)
  ) else (
  ez_fix (fun _ _ _ _ _ _ _ => none) (z_X6_nth_51 k_38) ez_N σ h0 x3 x4 x6 x7 x5
  )
set_option maxRecDepth 100000 in
noncomputable def z_X6_nth (σ : ez_H) (h0 : Nat) (x1 : Int32) (x2 : Int32) : Option (Int32 × ez_H) :=
  ez_bd (ez_ob σ 6 h0) fun _ =>
  if x2 < (0 : Int32) then (
  z_X6_nth_17  σ
  ) else (
  ez_bd (ez_gi σ 6 h0 2) fun t_8 =>
  ez_b2 (z_X6_howMany σ h0 x1 t_8) fun t_11 σ =>
  if x2 < t_11 then (
  ez_bd (ez_gi σ 6 h0 1) fun t_28 =>
  ez_let (t_28 - (1 : Int32)) fun t_32 =>
  ez_fix (fun _ _ _ _ _ _ _ => none) (z_X6_nth_38 ) ez_N σ h0 x2 (0 : Int32) (0 : Int32) t_32 (0 : Int32)
  ) else (
  z_X6_nth_17  σ
  )
  )
set_option maxRecDepth 100000 in
noncomputable def z_J6_numberOfTrailingZeros_0f7a4_74 (σ : ez_H) (x0 : Int32) (x1 : Int32) : Option (Int32) :=
  ez_let ((Int32.toUInt32 x0 >>> (Int32.toUInt32 (1 : Int32) &&& Int32.toUInt32 31)).toInt32) fun t_77 =>
  ez_let (x1 + t_77) fun t_78 =>
  some t_78
set_option maxRecDepth 100000 in
noncomputable def z_J6_numberOfTrailingZeros_0f7a4_62 (σ : ez_H) (x0 : Int32) (x1 : Int32) : Option (Int32) :=
  if x0 ≤ (4 : Int32) then (
  z_J6_numberOfTrailingZeros_0f7a4_74 σ x0 x1
  ) else (
  ez_let (x1 + 2) fun t_67 =>
  ez_let ((Int32.toUInt32 x0 >>> (Int32.toUInt32 (2 : Int32) &&& Int32.toUInt32 31)).toInt32) fun t_72 =>
  z_J6_numberOfTrailingZeros_0f7a4_74 σ t_72 t_67
  )
set_option maxRecDepth 100000 in
noncomputable def z_J6_numberOfTrailingZeros_0f7a4_49 (σ : ez_H) (x0 : Int32) (x1 : Int32) : Option (Int32) :=
  if x0 ≤ (16 : Int32) then (
  z_J6_numberOfTrailingZeros_0f7a4_62 σ x0 x1
  ) else (
  ez_let (x1 + 4) fun t_55 =>
  ez_let ((Int32.toUInt32 x0 >>> (Int32.toUInt32 (4 : Int32) &&& Int32.toUInt32 31)).toInt32) fun t_60 =>
  z_J6_numberOfTrailingZeros_0f7a4_62 σ t_60 t_55
  )
set_option maxRecDepth 100000 in
noncomputable def z_J6_numberOfTrailingZeros_0f7a4_34 (σ : ez_H) (x0 : Int32) (x1 : Int32) : Option (Int32) :=
  if x0 ≤ (256 : Int32) then (
  z_J6_numberOfTrailingZeros_0f7a4_49 σ x0 x1
  ) else (
  ez_let (x1 + 8) fun t_41 =>
  ez_let ((Int32.toUInt32 x0 >>> (Int32.toUInt32 (8 : Int32) &&& Int32.toUInt32 31)).toInt32) fun t_47 =>
  z_J6_numberOfTrailingZeros_0f7a4_49 σ t_47 t_41
  )
set_option maxRecDepth 100000 in
noncomputable def z_J6_numberOfTrailingZeros_0f7a4 (σ : ez_H) (x0 : Int32) : Option (Int32) :=
  ez_let (x0 ^^^ (-1 : Int32)) fun t_2 =>
  ez_let (x0 - (1 : Int32)) fun t_5 =>
  ez_let (t_2 &&& t_5) fun t_6 =>
  if (0 : Int32) < t_6 then (
  if t_6 ≤ (65536 : Int32) then (
  z_J6_numberOfTrailingZeros_0f7a4_34 σ t_6 (1 : Int32)
  ) else (
  ez_let ((1 : Int32) + 16) fun t_26 =>
  ez_let ((Int32.toUInt32 t_6 >>> (Int32.toUInt32 (16 : Int32) &&& Int32.toUInt32 31)).toInt32) fun t_32 =>
  z_J6_numberOfTrailingZeros_0f7a4_34 σ t_32 t_26
  )
  ) else (
  ez_let (t_6 &&& (32 : Int32)) fun t_15 =>
  some t_15
  )
set_option maxRecDepth 100000 in
noncomputable def z_X6_depthAt (σ : ez_H) (h0 : Nat) (x1 : Int32) (x2 : Int32) : Option (Int32) :=
  ez_bd (ez_ob σ 6 h0) fun _ =>
  ez_bd (z_X6_depthsAt σ x1 x2) fun t_2 =>
  ez_bd (z_J6_numberOfTrailingZeros_0f7a4 σ t_2) fun t_5 =>
  some t_5
set_option maxRecDepth 100000 in
noncomputable def z_X6_numberOf_10 (σ : ez_H) (k_10 : Nat → Int32 → Int32 → Int32 → Option (Int32)) (h0 : Nat) (x1 : Int32) (x2 : Int32) (x3 : Int32) : Option (Int32) :=
  ez_bd (ez_gi σ 6 h0 0) fun t_12 =>
  if t_12 ≤ x3 then (
  some x2
  ) else (
  ez_bd (ez_gi σ 6 h0 1) fun t_20 =>
  ez_let (x2 * t_20) fun t_23 =>
  ez_bd (z_X6_depthAt σ h0 x1 x3) fun t_27 =>
  ez_let (t_23 + t_27) fun t_30 =>
  ez_let (x3 + 1) fun t_32 =>
  k_10 h0 x1 t_30 t_32
  )
set_option maxRecDepth 100000 in
noncomputable def z_X6_numberOf (σ : ez_H) (h0 : Nat) (x1 : Int32) : Option (Int32) :=
  ez_bd (ez_ob σ 6 h0) fun _ =>
  if x1 = (0 : Int32) then (
  some (-1 : Int32)
  ) else (
  ez_fix (fun _ _ _ _ => none) (z_X6_numberOf_10 σ) ez_N h0 x1 (0 : Int32) (0 : Int32)
  )
set_option maxRecDepth 100000 in
noncomputable def z_X11_bitting (σ : ez_H) (h0 : Nat) (x1 : Int32) : Option (Int32 × ez_H) :=
  ez_bd (ez_ob σ 11 h0) fun _ =>
  ez_bd (ez_gr σ 11 h0 4) fun t_1 =>
  ez_bd (ez_gr σ 11 h0 4) fun t_5 =>
  ez_bd (ez_gr σ 11 h0 4) fun t_9 =>
  ez_bd (z_X6_everything σ t_9) fun t_12 =>
  ez_b2 (z_X6_nth σ t_5 t_12 x1) fun t_16 σ =>
  ez_bd (z_X6_numberOf σ t_1 t_16) fun t_19 =>
  some (t_19, σ)
set_option maxRecDepth 100000 in
noncomputable def z_X3_allLocks (σ : ez_H) (h0 : Nat) : Option (Int32) :=
  ez_bd (ez_ob σ 3 h0) fun _ =>
  ez_bd (ez_gi σ 3 h0 4) fun t_2 =>
  ez_let ((1 : Int32) <<< (t_2 &&& 31)) fun t_5 =>
  ez_let (t_5 - (1 : Int32)) fun t_7 =>
  some t_7
set_option maxRecDepth 100000 in
noncomputable def z_X11_blanks (σ : ez_H) (h0 : Nat) : Option (Int32 × ez_H) :=
  ez_bd (ez_ob σ 11 h0) fun _ =>
  ez_bd (ez_gr σ 11 h0 10) fun t_1 =>
  ez_bd (ez_gr σ 11 h0 5) fun t_5 =>
  ez_b2 (z_X8_take σ t_1 t_5) fun _ σ =>
  ez_bd (ez_gr σ 11 h0 10) fun t_12 =>
  ez_bd (ez_gr σ 11 h0 3) fun t_17 =>
  ez_bd (z_X3_allLocks σ t_17) fun t_20 =>
  ez_bd (z_X8_total σ t_12 (0 : Int32) t_20) fun t_23 =>
  some (t_23, σ)
set_option maxRecDepth 100000 in
noncomputable def z_X6_fillUp_9 (σ : ez_H) (k_9 : Nat → Int32 → Int32 → Int32 → Option (Int32)) (h0 : Nat) (x4 : Int32) (x5 : Int32) (x6 : Int32) : Option (Int32) :=
  ez_bd (ez_gi σ 6 h0 0) fun t_12 =>
  if t_12 ≤ x6 then (
  some x4
  ) else (
  ez_bd (z_X6_lowest σ h0 x5) fun t_21 =>
  ez_bd (z_X6_notch σ x6 t_21) fun t_32 =>
  ez_let (x4 ||| t_32) fun t_35 =>
  ez_let (x6 + 1) fun t_38 =>
  k_9 h0 t_35 t_21 t_38
  )
set_option maxRecDepth 100000 in
noncomputable def z_X6_fillUp (σ : ez_H) (h0 : Nat) (x1 : Int32) (x2 : Int32) (x3 : Int32) : Option (Int32) :=
  ez_bd (ez_ob σ 6 h0) fun _ =>
  ez_fix (fun _ _ _ _ => none) (z_X6_fillUp_9 σ) ez_N h0 x1 x3 x2
set_option maxRecDepth 100000 in
noncomputable def z_X6_least (σ : ez_H) (h0 : Nat) : Option (Int32) :=
  ez_bd (ez_ob σ 6 h0) fun _ =>
  ez_bd (z_X6_fillUp σ h0 (0 : Int32) (0 : Int32) (0 : Int32)) fun t_4 =>
  some t_4
set_option maxRecDepth 100000 in
noncomputable def z_X11_differsFromAll_44 (σ : ez_H) : Option (Int32) :=
  some (1 : Int32)
set_option maxRecDepth 100000 in
noncomputable def z_X11_differsFromAll_2 (σ : ez_H) (k_2 : Nat → Int32 → Int32 → Int32 → Option (Int32)) (h0 : Nat) (x1 : Int32) (x2 : Int32) (x3 : Int32) : Option (Int32) :=
  if x2 ≤ x3 then (
  z_X11_differsFromAll_44 σ 
  ) else (
  if (60 : Int32) ≤ x3 then (
  z_X11_differsFromAll_44 σ 
  ) else (
  ez_bd (ez_gr σ 11 h0 15) fun t_15 =>
  ez_bd (ez_ia σ 1 t_15 x3) fun t_19 =>
  ez_let (x1 &&& t_19) fun t_20 =>
  ez_bd (z_J6_bitCount_0f7a4 σ t_20) fun t_21 =>
  ez_bd (ez_gr σ 11 h0 4) fun t_25 =>
  ez_bd (ez_gi σ 6 t_25 0) fun t_28 =>
  ez_let (t_28 - (2 : Int32)) fun t_32 =>
  if t_21 ≤ t_32 then (
  ez_let (x3 + 1) fun t_38 =>
  k_2 h0 x1 x2 t_38
  ) else (
  some (0 : Int32)
  )
  )
  )
set_option maxRecDepth 100000 in
noncomputable def z_X11_differsFromAll (σ : ez_H) (h0 : Nat) (x1 : Int32) (x2 : Int32) : Option (Int32) :=
  ez_bd (ez_ob σ 11 h0) fun _ =>
  ez_fix (fun _ _ _ _ => none) (z_X11_differsFromAll_2 σ) ez_N h0 x1 x2 (0 : Int32)
set_option maxRecDepth 100000 in
noncomputable def z_X6_after_45 (σ : ez_H) (k_7 : Nat → Int32 → Int32 → Option (Int32)) (h0 : Nat) (x1 : Int32) (x2 : Int32) (x3 : Int32) (y0 : Int32) : Option (Int32) :=
  if y0 < x3 then (
  ez_let (x2 + (-1)) fun t_81 =>
  k_7 h0 x1 t_81
  ) else (
  ez_bd (z_X6_notch σ x2 (0 : Int32)) fun t_56 =>
  ez_let (t_56 - (1 : Int32)) fun t_60 =>
  ez_let (x1 &&& t_60) fun t_61 =>
  ez_bd (z_X6_notch σ x2 x3) fun t_69 =>
  ez_let (t_61 ||| t_69) fun t_72 =>
  ez_let (x2 + (1 : Int32)) fun t_75 =>
  ez_bd (z_X6_fillUp σ h0 t_72 t_75 x3) fun t_77 =>
  some t_77
  )
set_option maxRecDepth 100000 in
noncomputable def z_X6_after_7 (σ : ez_H) (k_7 : Nat → Int32 → Int32 → Option (Int32)) (h0 : Nat) (x1 : Int32) (x2 : Int32) : Option (Int32) :=
  if x2 < (0 : Int32) then (
  some (0 : Int32)
  ) else (
  ez_bd (z_X6_depthAt σ h0 x1 x2) fun t_14 =>
  ez_let (t_14 + (1 : Int32)) fun t_18 =>
  if x2 = (0 : Int32) then (
  ez_bd (ez_gi σ 6 h0 1) fun t_25 =>
  ez_let (t_25 - (1 : Int32)) fun t_29 =>
  z_X6_after_45 σ k_7 h0 x1 x2 t_18 t_29
  ) else (
  ez_let (x2 - (1 : Int32)) fun t_38 =>
  ez_bd (z_X6_depthAt σ h0 x1 t_38) fun t_39 =>
  ez_bd (z_X6_highest σ h0 t_39) fun t_42 =>
  z_X6_after_45 σ k_7 h0 x1 x2 t_18 t_42
  )
  )
set_option maxRecDepth 100000 in
noncomputable def z_X6_after (σ : ez_H) (h0 : Nat) (x1 : Int32) : Option (Int32) :=
  ez_bd (ez_ob σ 6 h0) fun _ =>
  ez_bd (ez_gi σ 6 h0 0) fun t_1 =>
  ez_let (t_1 - (1 : Int32)) fun t_5 =>
  ez_fix (fun _ _ _ => none) (z_X6_after_7 σ) ez_N h0 x1 t_5
set_option maxRecDepth 100000 in
noncomputable def z_X11_book_10 (σ : ez_H) : Option (Int32 × ez_H) :=
  some ((-1 : Int32), σ)
set_option maxRecDepth 100000 in
noncomputable def z_X11_book_98 (σ : ez_H) (y0 : Int32) : Option (Int32 × ez_H) :=
  some (y0, σ)
set_option maxRecDepth 100000 in
noncomputable def z_X11_book_76 (σ : ez_H) (h0 : Nat) (x1 : Int32) (x2 : Int32) : Option (Int32 × ez_H) :=
  if x2 ≤ x1 then (
  z_X11_book_98  σ (-1 : Int32)
  ) else (
  ez_bd (ez_gr σ 11 h0 4) fun t_82 =>
  ez_bd (ez_gr σ 11 h0 15) fun t_86 =>
  ez_bd (ez_ia σ 1 t_86 x1) fun t_90 =>
  ez_bd (z_X6_numberOf σ t_82 t_90) fun t_91 =>
  z_X11_book_98  σ t_91
  )
set_option maxRecDepth 100000 in
noncomputable def z_X11_book_61 (k_25 : ez_H → Nat → Int32 → Int32 → Int32 → Int32 → Option (Int32 × ez_H)) (σ : ez_H) (h0 : Nat) (x1 : Int32) (x2 : Int32) (x3 : Int32) (x4 : Int32) : Option (Int32 × ez_H) :=
  ez_bd (ez_gr σ 11 h0 4) fun t_62 =>
  ez_bd (z_X6_after σ t_62 x3) fun t_66 =>
  ez_let (x4 + 1) fun t_70 =>
  k_25 σ h0 x1 x2 t_66 t_70
set_option maxRecDepth 100000 in
noncomputable def z_X11_book_25 (k_25 : ez_H → Nat → Int32 → Int32 → Int32 → Int32 → Option (Int32 × ez_H)) (σ : ez_H) (h0 : Nat) (x1 : Int32) (x2 : Int32) (x3 : Int32) (x4 : Int32) : Option (Int32 × ez_H) :=
  if (7776 : Int32) ≤ x4 then (
  z_X11_book_76  σ h0 x1 x2
  ) else (
  if x3 = (0 : Int32) then (
  z_X11_book_76  σ h0 x1 x2
  ) else (
  if x1 < x2 then (
  z_X11_book_76  σ h0 x1 x2
  ) else (
  ez_bd (z_X11_differsFromAll σ h0 x3 x2) fun t_45 =>
  if t_45 = (0 : Int32) then (
  z_X11_book_61 k_25 σ h0 x1 x2 x3 x4
  ) else (
  ez_bd (ez_gr σ 11 h0 15) fun t_52 =>
  ez_bd (ez_is σ 1 t_52 x2 x3) fun σ =>
  ez_let (x2 + 1) fun t_58 =>
  z_X11_book_61 k_25 σ h0 x1 t_58 x3 x4
  )
  )
  )
  )
set_option maxRecDepth 100000 in
noncomputable def z_X11_book (σ : ez_H) (h0 : Nat) (x1 : Int32) : Option (Int32 × ez_H) :=
  ez_bd (ez_ob σ 11 h0) fun _ =>
  if x1 < (0 : Int32) then (
  z_X11_book_10  σ
  ) else (
  if x1 < (60 : Int32) then (
  ez_bd (ez_gr σ 11 h0 4) fun t_15 =>
  ez_bd (z_X6_least σ t_15) fun t_18 =>
  ez_fix (fun _ _ _ _ _ _ => none) (z_X11_book_25 ) ez_N σ h0 x1 (0 : Int32) t_18 (0 : Int32)
  ) else (
  z_X11_book_10  σ
  )
  )
set_option maxRecDepth 100000 in
noncomputable def z_X3_neverOf (σ : ez_H) (h0 : Nat) (x1 : Int32) : Option (Int32) :=
  ez_bd (ez_ob σ 3 h0) fun _ =>
  ez_bd (ez_gr σ 3 h0 12) fun t_1 =>
  ez_bd (z_X3_look σ t_1 x1) fun t_5 =>
  some t_5
set_option maxRecDepth 100000 in
noncomputable def z_X3_mustOf (σ : ez_H) (h0 : Nat) (x1 : Int32) : Option (Int32) :=
  ez_bd (ez_ob σ 3 h0) fun _ =>
  ez_bd (ez_gr σ 3 h0 11) fun t_1 =>
  ez_bd (z_X3_look σ t_1 x1) fun t_5 =>
  some t_5
set_option maxRecDepth 100000 in
noncomputable def z_X5_pinsFor_34 (σ : ez_H) (k_4 : Nat → Int32 → Int32 → Int32 → Option (Int32)) (h0 : Nat) (x1 : Int32) (x2 : Int32) (x3 : Int32) : Option (Int32) :=
  ez_let (x3 + 1) fun t_34 =>
  k_4 h0 x1 x2 t_34
set_option maxRecDepth 100000 in
noncomputable def z_X5_pinsFor_4 (σ : ez_H) (k_4 : Nat → Int32 → Int32 → Int32 → Option (Int32)) (h0 : Nat) (x1 : Int32) (x2 : Int32) (x3 : Int32) : Option (Int32) :=
  ez_bd (ez_gr σ 5 h0 0) fun t_6 =>
  ez_bd (ez_gi σ 3 t_6 3) fun t_9 =>
  if t_9 ≤ x3 then (
  some x2
  ) else (
  ez_let (x1 >>> (x3 &&& 31)) fun t_17 =>
  ez_let (t_17 &&& (1 : Int32)) fun t_19 =>
  if t_19 = (0 : Int32) then (
  z_X5_pinsFor_34 σ k_4 h0 x1 x2 x3
  ) else (
  ez_bd (ez_gr σ 5 h0 1) fun t_25 =>
  ez_bd (z_X7_bits σ t_25 x3) fun t_29 =>
  ez_let (x2 ||| t_29) fun t_32 =>
  z_X5_pinsFor_34 σ k_4 h0 x1 t_32 x3
  )
  )
set_option maxRecDepth 100000 in
noncomputable def z_X5_pinsFor (σ : ez_H) (h0 : Nat) (x1 : Int32) : Option (Int32) :=
  ez_bd (ez_ob σ 5 h0) fun _ =>
  ez_fix (fun _ _ _ _ => none) (z_X5_pinsFor_4 σ) ez_N h0 x1 (0 : Int32) (0 : Int32)
set_option maxRecDepth 100000 in
noncomputable def z_X5_lawfulPins_29 (σ : ez_H) (y0 : Int32) : Option (Int32) :=
  some y0
set_option maxRecDepth 100000 in
noncomputable def z_X5_lawfulPins (σ : ez_H) (h0 : Nat) (x1 : Int32) : Option (Int32) :=
  ez_bd (ez_ob σ 5 h0) fun _ =>
  ez_bd (ez_gr σ 5 h0 0) fun t_1 =>
  ez_bd (z_X3_mustOf σ t_1 x1) fun t_5 =>
  if t_5 = (0 : Int32) then (
  ez_bd (ez_gr σ 5 h0 1) fun t_14 =>
  ez_bd (z_X7_pins σ t_14 x1) fun t_18 =>
  z_X5_lawfulPins_29 σ t_18
  ) else (
  ez_bd (z_X5_pinsFor σ h0 t_5) fun t_26 =>
  z_X5_lawfulPins_29 σ t_26
  )
set_option maxRecDepth 100000 in
noncomputable def z_X5_isStray_39 (σ : ez_H) (y0 : Int32) : Option (Int32) :=
  ez_nr .boolean y0 <|
  some y0
set_option maxRecDepth 100000 in
noncomputable def z_X5_isStray_38 (σ : ez_H) : Option (Int32) :=
  z_X5_isStray_39 σ (0 : Int32)
set_option maxRecDepth 100000 in
noncomputable def z_X5_isStray (σ : ez_H) (h0 : Nat) (x1 : Int32) (x2 : Int32) : Option (Int32) :=
  ez_bd (ez_ob σ 5 h0) fun _ =>
  ez_bd (ez_gr σ 5 h0 0) fun t_1 =>
  ez_bd (z_X3_neverOf σ t_1 x2) fun t_5 =>
  ez_let (t_5 >>> (x1 &&& 31)) fun t_9 =>
  ez_let (t_9 &&& (1 : Int32)) fun t_11 =>
  if t_11 = (0 : Int32) then (
  z_X5_isStray_38 σ 
  ) else (
  ez_bd (ez_gr σ 5 h0 1) fun t_16 =>
  ez_bd (z_X7_bits σ t_16 x1) fun t_20 =>
  ez_bd (z_X5_lawfulPins σ h0 x2) fun t_25 =>
  ez_bd (z_X6_fitsIn σ t_20 t_25) fun t_28 =>
  if t_28 = (0 : Int32) then (
  z_X5_isStray_38 σ 
  ) else (
  z_X5_isStray_39 σ (1 : Int32)
  )
  )
set_option maxRecDepth 100000 in
noncomputable def z_X5_isBroken_59 (σ : ez_H) (y0 : Int32) : Option (Int32) :=
  ez_nr .boolean y0 <|
  some y0
set_option maxRecDepth 100000 in
noncomputable def z_X5_isBroken_43 (σ : ez_H) (x1 : Int32) (y0 : Int32) : Option (Int32) :=
  ez_let (y0 >>> (x1 &&& 31)) fun t_48 =>
  ez_let (t_48 &&& (1 : Int32)) fun t_50 =>
  if t_50 = (0 : Int32) then (
  z_X5_isBroken_59 σ (0 : Int32)
  ) else (
  z_X5_isBroken_59 σ (1 : Int32)
  )
set_option maxRecDepth 100000 in
noncomputable def z_X5_isBroken (σ : ez_H) (h0 : Nat) (x1 : Int32) (x2 : Int32) : Option (Int32) :=
  ez_bd (ez_ob σ 5 h0) fun _ =>
  ez_bd (ez_gr σ 5 h0 1) fun t_1 =>
  ez_bd (z_X7_bits σ t_1 x1) fun t_5 =>
  ez_bd (ez_gr σ 5 h0 1) fun t_9 =>
  ez_bd (z_X7_pins σ t_9 x2) fun t_13 =>
  ez_bd (z_X6_fitsIn σ t_5 t_13) fun t_16 =>
  if t_16 = (0 : Int32) then (
  ez_bd (ez_gr σ 5 h0 0) fun t_36 =>
  ez_bd (z_X3_mustOf σ t_36 x2) fun t_40 =>
  z_X5_isBroken_43 σ x1 t_40
  ) else (
  ez_bd (ez_gr σ 5 h0 0) fun t_25 =>
  ez_bd (z_X3_neverOf σ t_25 x2) fun t_29 =>
  z_X5_isBroken_43 σ x1 t_29
  )
set_option maxRecDepth 100000 in
noncomputable def z_X5_tellPairs_96 (σ : ez_H) (k_11 : Nat → Int32 → Int32 → Int32 → Int32 → Int32 → Int32 → Option (Int32)) (k_26 : Nat → Int32 → Int32 → Int32 → Int32 → Int32 → Int32 → Int32 → Option (Int32)) (h0 : Nat) (x1 : Int32) (x2 : Int32) (x3 : Int32) (x4 : Int32) (x5 : Int32) (x6 : Int32) (x7 : Int32) : Option (Int32) :=
  ez_let (x7 + 1) fun t_96 =>
  k_26 h0 x1 x2 x3 x4 x5 x6 t_96
set_option maxRecDepth 100000 in
noncomputable def z_X5_tellPairs_91 (σ : ez_H) (k_11 : Nat → Int32 → Int32 → Int32 → Int32 → Int32 → Int32 → Option (Int32)) (k_26 : Nat → Int32 → Int32 → Int32 → Int32 → Int32 → Int32 → Int32 → Option (Int32)) (h0 : Nat) (x1 : Int32) (x2 : Int32) (x3 : Int32) (x4 : Int32) (x6 : Int32) (x7 : Int32) (y0 : Int32) : Option (Int32) :=
  ez_let (x3 + 1) fun t_93 =>
  z_X5_tellPairs_96 σ k_11 k_26 h0 x1 x2 t_93 x4 y0 x6 x7
set_option maxRecDepth 100000 in
noncomputable def z_X5_tellPairs_78 (σ : ez_H) (k_11 : Nat → Int32 → Int32 → Int32 → Int32 → Int32 → Int32 → Option (Int32)) (k_26 : Nat → Int32 → Int32 → Int32 → Int32 → Int32 → Int32 → Int32 → Option (Int32)) (h0 : Nat) (x1 : Int32) (x2 : Int32) (x3 : Int32) (x5 : Int32) (x6 : Int32) (x7 : Int32) (y0 : Int32) : Option (Int32) :=
  if x3 = (0 : Int32) then (
  z_X5_tellPairs_91 σ k_11 k_26 h0 x1 x2 x3 y0 x6 x7 x7
  ) else (
  z_X5_tellPairs_91 σ k_11 k_26 h0 x1 x2 x3 y0 x6 x7 x5
  )
set_option maxRecDepth 100000 in
noncomputable def z_X5_tellPairs_67 (σ : ez_H) (k_11 : Nat → Int32 → Int32 → Int32 → Int32 → Int32 → Int32 → Option (Int32)) (k_26 : Nat → Int32 → Int32 → Int32 → Int32 → Int32 → Int32 → Int32 → Option (Int32)) (h0 : Nat) (x1 : Int32) (x2 : Int32) (x3 : Int32) (x4 : Int32) (x5 : Int32) (x6 : Int32) (x7 : Int32) : Option (Int32) :=
  if x3 = (0 : Int32) then (
  z_X5_tellPairs_78 σ k_11 k_26 h0 x1 x2 x3 x5 x6 x7 x6
  ) else (
  z_X5_tellPairs_78 σ k_11 k_26 h0 x1 x2 x3 x5 x6 x7 x4
  )
set_option maxRecDepth 100000 in
noncomputable def z_X5_tellPairs_26 (σ : ez_H) (k_11 : Nat → Int32 → Int32 → Int32 → Int32 → Int32 → Int32 → Option (Int32)) (k_26 : Nat → Int32 → Int32 → Int32 → Int32 → Int32 → Int32 → Int32 → Option (Int32)) (h0 : Nat) (x1 : Int32) (x2 : Int32) (x3 : Int32) (x4 : Int32) (x5 : Int32) (x6 : Int32) (x7 : Int32) : Option (Int32) :=
  ez_bd (ez_gr σ 5 h0 0) fun t_29 =>
  ez_bd (ez_gi σ 3 t_29 4) fun t_32 =>
  if t_32 ≤ x7 then (
  ez_let (x6 + 1) fun t_102 =>
  k_11 h0 x1 x2 x3 x4 x5 t_102
  ) else (
  if x2 = (0 : Int32) then (
  ez_bd (z_X5_isBroken σ h0 x6 x7) fun t_61 =>
  if t_61 = (0 : Int32) then (
  z_X5_tellPairs_96 σ k_11 k_26 h0 x1 x2 x3 x4 x5 x6 x7
  ) else (
  z_X5_tellPairs_67 σ k_11 k_26 h0 x1 x2 x3 x4 x5 x6 x7
  )
  ) else (
  ez_bd (z_X5_isStray σ h0 x6 x7) fun t_47 =>
  if t_47 = (0 : Int32) then (
  z_X5_tellPairs_96 σ k_11 k_26 h0 x1 x2 x3 x4 x5 x6 x7
  ) else (
  z_X5_tellPairs_67 σ k_11 k_26 h0 x1 x2 x3 x4 x5 x6 x7
  )
  )
  )
set_option maxRecDepth 100000 in
noncomputable def z_X5_tellPairs_11 (σ : ez_H) (k_11 : Nat → Int32 → Int32 → Int32 → Int32 → Int32 → Int32 → Option (Int32)) (h0 : Nat) (x1 : Int32) (x2 : Int32) (x3 : Int32) (x4 : Int32) (x5 : Int32) (x6 : Int32) : Option (Int32) :=
  ez_bd (ez_gr σ 5 h0 0) fun t_14 =>
  ez_bd (ez_gi σ 3 t_14 3) fun t_17 =>
  if t_17 ≤ x6 then (
  if x1 = 0 then (
  some x3
  ) else (
  if x1 = 1 then (
  some x4
  ) else (
  if x1 = 2 then (
  some x5
  ) else (
  some (-1 : Int32)
  )))
  ) else (
  ez_fix (fun _ _ _ _ _ _ _ _ => none) (z_X5_tellPairs_26 σ k_11) ez_N h0 x1 x2 x3 x4 x5 x6 (0 : Int32)
  )
set_option maxRecDepth 100000 in
noncomputable def z_X5_tellPairs (σ : ez_H) (h0 : Nat) (x1 : Int32) (x2 : Int32) : Option (Int32) :=
  ez_bd (ez_ob σ 5 h0) fun _ =>
  ez_fix (fun _ _ _ _ _ _ _ => none) (z_X5_tellPairs_11 σ) ez_N h0 x1 x2 (0 : Int32) (-1 : Int32) (-1 : Int32) (0 : Int32)
set_option maxRecDepth 100000 in
noncomputable def z_X11_broken (σ : ez_H) (h0 : Nat) (x1 : Int32) : Option (Int32) :=
  ez_bd (ez_ob σ 11 h0) fun _ =>
  ez_bd (ez_gr σ 11 h0 13) fun t_1 =>
  ez_bd (z_X5_tellPairs σ t_1 x1 (0 : Int32)) fun t_6 =>
  some t_6
set_option maxRecDepth 100000 in
noncomputable def z_X3_hasRoom_17 (σ : ez_H) (y0 : Int32) : Option (Int32) :=
  ez_nr .boolean y0 <|
  some y0
set_option maxRecDepth 100000 in
noncomputable def z_X3_hasRoom_16 (σ : ez_H) : Option (Int32) :=
  z_X3_hasRoom_17 σ (0 : Int32)
set_option maxRecDepth 100000 in
noncomputable def z_X3_hasRoom (σ : ez_H) (h0 : Nat) (x1 : Int32) : Option (Int32) :=
  ez_bd (ez_ob σ 3 h0) fun _ =>
  if x1 < (0 : Int32) then (
  z_X3_hasRoom_16 σ 
  ) else (
  ez_bd (ez_gi σ 3 h0 5) fun t_6 =>
  if t_6 ≤ x1 then (
  z_X3_hasRoom_16 σ 
  ) else (
  z_X3_hasRoom_17 σ (1 : Int32)
  )
  )
set_option maxRecDepth 100000 in
noncomputable def z_X3_allKeys (σ : ez_H) (h0 : Nat) : Option (Int32) :=
  ez_bd (ez_ob σ 3 h0) fun _ =>
  ez_bd (ez_gi σ 3 h0 3) fun t_2 =>
  ez_let ((1 : Int32) <<< (t_2 &&& 31)) fun t_5 =>
  ez_let (t_5 - (1 : Int32)) fun t_7 =>
  some t_7
set_option maxRecDepth 100000 in
noncomputable def z_X2_fewestKeys_101 (σ : ez_H) (k_33 : Nat → Int32 → Int32 → Int32 → Int32 → Int32 → Option (Int32)) (h0 : Nat) (x1 : Int32) (x2 : Int32) (x3 : Int32) (x4 : Int32) (x5 : Int32) : Option (Int32) :=
  ez_let (x5 + 1) fun t_101 =>
  k_33 h0 x1 x2 x3 x4 t_101
set_option maxRecDepth 100000 in
noncomputable def z_X2_fewestKeys_63 (σ : ez_H) (k_33 : Nat → Int32 → Int32 → Int32 → Int32 → Int32 → Option (Int32)) (h0 : Nat) (x1 : Int32) (x2 : Int32) (x3 : Int32) (x4 : Int32) (x5 : Int32) (y0 : Int32) : Option (Int32) :=
  if y0 = (0 : Int32) then (
  z_X2_fewestKeys_101 σ k_33 h0 x1 x2 x3 x4 x5
  ) else (
  ez_let (x3 ^^^ (-1 : Int32)) fun t_74 =>
  ez_let (x5 &&& t_74) fun t_75 =>
  if t_75 = (0 : Int32) then (
  ez_bd (z_X2_locksFor σ h0 x5) fun t_84 =>
  ez_bd (z_X2_flood σ h0 x1 t_84) fun t_87 =>
  ez_let (t_87 >>> (x2 &&& 31)) fun t_91 =>
  ez_let (t_91 &&& (1 : Int32)) fun t_93 =>
  if t_93 = (0 : Int32) then (
  z_X2_fewestKeys_101 σ k_33 h0 x1 x2 x3 x4 x5
  ) else (
  z_X2_fewestKeys_101 σ k_33 h0 x1 x2 x3 x5 x5
  )
  ) else (
  z_X2_fewestKeys_101 σ k_33 h0 x1 x2 x3 x4 x5
  )
  )
set_option maxRecDepth 100000 in
noncomputable def z_X2_fewestKeys_58 (σ : ez_H) (k_33 : Nat → Int32 → Int32 → Int32 → Int32 → Int32 → Option (Int32)) (h0 : Nat) (x1 : Int32) (x2 : Int32) (x3 : Int32) (x4 : Int32) (x5 : Int32) : Option (Int32) :=
  z_X2_fewestKeys_63 σ k_33 h0 x1 x2 x3 x4 x5 (1 : Int32)
set_option maxRecDepth 100000 in
noncomputable def z_X2_fewestKeys_33 (σ : ez_H) (k_33 : Nat → Int32 → Int32 → Int32 → Int32 → Int32 → Option (Int32)) (h0 : Nat) (x1 : Int32) (x2 : Int32) (x3 : Int32) (x4 : Int32) (x5 : Int32) : Option (Int32) :=
  if x3 < x5 then (
  some x4
  ) else (
  if x4 = (-1 : Int32) then (
  z_X2_fewestKeys_58 σ k_33 h0 x1 x2 x3 x4 x5
  ) else (
  ez_bd (z_J6_bitCount_0f7a4 σ x5) fun t_47 =>
  ez_bd (z_J6_bitCount_0f7a4 σ x4) fun t_52 =>
  if t_52 ≤ t_47 then (
  z_X2_fewestKeys_63 σ k_33 h0 x1 x2 x3 x4 x5 (0 : Int32)
  ) else (
  z_X2_fewestKeys_58 σ k_33 h0 x1 x2 x3 x4 x5
  )
  )
  )
set_option maxRecDepth 100000 in
noncomputable def z_X2_fewestKeys (σ : ez_H) (h0 : Nat) (x1 : Int32) (x2 : Int32) : Option (Int32) :=
  ez_bd (ez_ob σ 2 h0) fun _ =>
  ez_bd (ez_gr σ 2 h0 0) fun t_1 =>
  ez_bd (z_X3_allKeys σ t_1) fun t_4 =>
  ez_bd (ez_gr σ 2 h0 1) fun t_8 =>
  ez_bd (ez_gr σ 2 h0 0) fun t_14 =>
  ez_bd (ez_gi σ 3 t_14 3) fun t_17 =>
  ez_bd (z_X7_heldBy σ t_8 (-2 : Int32) t_17) fun t_20 =>
  ez_let (t_20 ^^^ (-1 : Int32)) fun t_24 =>
  ez_let (t_4 &&& t_24) fun t_25 =>
  ez_fix (fun _ _ _ _ _ _ => none) (z_X2_fewestKeys_33 σ) ez_N h0 x1 x2 t_25 (-1 : Int32) (0 : Int32)
set_option maxRecDepth 100000 in
noncomputable def z_X11_bunch_22 (σ : ez_H) : Option (Int32) :=
  some (-1 : Int32)
set_option maxRecDepth 100000 in
noncomputable def z_X11_bunch (σ : ez_H) (h0 : Nat) (x1 : Int32) (x2 : Int32) (x3 : Int32) : Option (Int32) :=
  ez_bd (ez_ob σ 11 h0) fun _ =>
  ez_bd (ez_gr σ 11 h0 3) fun t_1 =>
  ez_bd (z_X3_hasRoom σ t_1 x1) fun t_5 =>
  if t_5 = (0 : Int32) then (
  z_X11_bunch_22 σ 
  ) else (
  ez_bd (ez_gr σ 11 h0 3) fun t_12 =>
  ez_bd (z_X3_hasRoom σ t_12 x2) fun t_16 =>
  if t_16 = (0 : Int32) then (
  z_X11_bunch_22 σ 
  ) else (
  ez_bd (ez_gr σ 11 h0 12) fun t_25 =>
  ez_bd (z_X2_fewestKeys σ t_25 x1 x2) fun t_30 =>
  if t_30 = (-1 : Int32) then (
  some (-1 : Int32)
  ) else (
  if x3 = 0 then (
  ez_bd (z_J6_bitCount_0f7a4 σ t_30) fun t_74 =>
  some t_74
  ) else (
  if x3 = 1 then (
  some t_30
  ) else (
  some (-1 : Int32)
  ))
  )
  )
  )
set_option maxRecDepth 100000 in
noncomputable def z_X11_comers_49 (σ : ez_H) (k_17 : Nat → Int32 → Int32 → Int32 → Option (Int32)) (h0 : Nat) (x1 : Int32) (x2 : Int32) (x3 : Int32) : Option (Int32) :=
  ez_let (x3 + 1) fun t_49 =>
  k_17 h0 x1 x2 t_49
set_option maxRecDepth 100000 in
noncomputable def z_X11_comers_17 (σ : ez_H) (k_17 : Nat → Int32 → Int32 → Int32 → Option (Int32)) (h0 : Nat) (x1 : Int32) (x2 : Int32) (x3 : Int32) : Option (Int32) :=
  ez_bd (ez_gr σ 11 h0 3) fun t_19 =>
  ez_bd (ez_gi σ 3 t_19 7) fun t_22 =>
  if t_22 ≤ x3 then (
  some x2
  ) else (
  ez_bd (ez_gr σ 11 h0 12) fun t_29 =>
  ez_bd (z_X2_reachOf σ t_29 x3) fun t_33 =>
  ez_let (t_33 >>> (x1 &&& 31)) fun t_37 =>
  ez_let (t_37 &&& (1 : Int32)) fun t_39 =>
  if t_39 = (0 : Int32) then (
  z_X11_comers_49 σ k_17 h0 x1 x2 x3
  ) else (
  ez_let ((1 : Int32) <<< (x3 &&& 31)) fun t_46 =>
  ez_let (x2 ||| t_46) fun t_47 =>
  z_X11_comers_49 σ k_17 h0 x1 t_47 x3
  )
  )
set_option maxRecDepth 100000 in
noncomputable def z_X11_comers (σ : ez_H) (h0 : Nat) (x1 : Int32) : Option (Int32) :=
  ez_bd (ez_ob σ 11 h0) fun _ =>
  ez_bd (ez_gr σ 11 h0 3) fun t_1 =>
  ez_bd (z_X3_hasRoom σ t_1 x1) fun t_5 =>
  if t_5 = (0 : Int32) then (
  some (-1 : Int32)
  ) else (
  ez_fix (fun _ _ _ _ => none) (z_X11_comers_17 σ) ez_N h0 x1 (0 : Int32) (0 : Int32)
  )
set_option maxRecDepth 100000 in
noncomputable def z_X3_hasLocks_16 (σ : ez_H) (y0 : Int32) : Option (Int32) :=
  ez_nr .boolean y0 <|
  some y0
set_option maxRecDepth 100000 in
noncomputable def z_X3_hasLocks (σ : ez_H) (h0 : Nat) (x1 : Int32) : Option (Int32) :=
  ez_bd (ez_ob σ 3 h0) fun _ =>
  ez_bd (z_X3_allLocks σ h0) fun t_2 =>
  ez_let (t_2 ^^^ (-1 : Int32)) fun t_6 =>
  ez_let (x1 &&& t_6) fun t_7 =>
  if t_7 = (0 : Int32) then (
  z_X3_hasLocks_16 σ (1 : Int32)
  ) else (
  z_X3_hasLocks_16 σ (0 : Int32)
  )
set_option maxRecDepth 100000 in
noncomputable def z_X8_leastNumber_47 (σ : ez_H) (k_5 : Nat → Int32 → Int32 → Int32 → Int32 → Option (Int32)) (h0 : Nat) (x1 : Int32) (x2 : Int32) (x3 : Int32) (x4 : Int32) : Option (Int32) :=
  ez_let (x4 + 1) fun t_47 =>
  k_5 h0 x1 x2 x3 t_47
set_option maxRecDepth 100000 in
noncomputable def z_X8_leastNumber_39 (σ : ez_H) (k_5 : Nat → Int32 → Int32 → Int32 → Int32 → Option (Int32)) (h0 : Nat) (x1 : Int32) (x2 : Int32) (x4 : Int32) : Option (Int32) :=
  ez_bd (ez_gr σ 8 h0 11) fun t_40 =>
  ez_bd (ez_ia σ 1 t_40 x4) fun t_45 =>
  z_X8_leastNumber_47 σ k_5 h0 x1 x2 t_45 x4
set_option maxRecDepth 100000 in
noncomputable def z_X8_leastNumber_5 (σ : ez_H) (k_5 : Nat → Int32 → Int32 → Int32 → Int32 → Option (Int32)) (h0 : Nat) (x1 : Int32) (x2 : Int32) (x3 : Int32) (x4 : Int32) : Option (Int32) :=
  if (64 : Int32) ≤ x4 then (
  some x3
  ) else (
  ez_bd (z_X8_isSuch σ h0 x4 x1 x2) fun t_17 =>
  if t_17 = (0 : Int32) then (
  z_X8_leastNumber_47 σ k_5 h0 x1 x2 x3 x4
  ) else (
  if x3 = (-1 : Int32) then (
  z_X8_leastNumber_39 σ k_5 h0 x1 x2 x4
  ) else (
  ez_bd (ez_gr σ 8 h0 11) fun t_29 =>
  ez_bd (ez_ia σ 1 t_29 x4) fun t_34 =>
  if x3 ≤ t_34 then (
  z_X8_leastNumber_47 σ k_5 h0 x1 x2 x3 x4
  ) else (
  z_X8_leastNumber_39 σ k_5 h0 x1 x2 x4
  )
  )
  )
  )
set_option maxRecDepth 100000 in
noncomputable def z_X8_leastNumber (σ : ez_H) (h0 : Nat) (x1 : Int32) (x2 : Int32) : Option (Int32) :=
  ez_bd (ez_ob σ 8 h0) fun _ =>
  ez_fix (fun _ _ _ _ _ => none) (z_X8_leastNumber_5 σ) ez_N h0 x1 x2 (-1 : Int32) (0 : Int32)
set_option maxRecDepth 100000 in
noncomputable def z_X11_common (σ : ez_H) (h0 : Nat) (x1 : Int32) (x2 : Int32) : Option (Int32 × ez_H) :=
  ez_bd (ez_ob σ 11 h0) fun _ =>
  ez_bd (ez_gr σ 11 h0 3) fun t_1 =>
  ez_bd (z_X3_hasLocks σ t_1 x1) fun t_5 =>
  if t_5 = (0 : Int32) then (
  some ((-1 : Int32), σ)
  ) else (
  ez_bd (ez_gr σ 11 h0 10) fun t_14 =>
  ez_bd (ez_gr σ 11 h0 5) fun t_18 =>
  ez_b2 (z_X8_take σ t_14 t_18) fun _ σ =>
  if x2 = 0 then (
  ez_bd (ez_gr σ 11 h0 10) fun t_53 =>
  ez_bd (z_X8_total σ t_53 x1 (0 : Int32)) fun t_58 =>
  some (t_58, σ)
  ) else (
  if x2 = 1 then (
  ez_bd (ez_gr σ 11 h0 10) fun t_63 =>
  ez_bd (z_X8_leastNumber σ t_63 x1 (0 : Int32)) fun t_68 =>
  some (t_68, σ)
  ) else (
  some ((-1 : Int32), σ)
  ))
  )
set_option maxRecDepth 100000 in
noncomputable def z_X3_hasKey_17 (σ : ez_H) (y0 : Int32) : Option (Int32) :=
  ez_nr .boolean y0 <|
  some y0
set_option maxRecDepth 100000 in
noncomputable def z_X3_hasKey_16 (σ : ez_H) : Option (Int32) :=
  z_X3_hasKey_17 σ (0 : Int32)
set_option maxRecDepth 100000 in
noncomputable def z_X3_hasKey (σ : ez_H) (h0 : Nat) (x1 : Int32) : Option (Int32) :=
  ez_bd (ez_ob σ 3 h0) fun _ =>
  if x1 < (0 : Int32) then (
  z_X3_hasKey_16 σ 
  ) else (
  ez_bd (ez_gi σ 3 h0 3) fun t_6 =>
  if t_6 ≤ x1 then (
  z_X3_hasKey_16 σ 
  ) else (
  z_X3_hasKey_17 σ (1 : Int32)
  )
  )
set_option maxRecDepth 100000 in
noncomputable def z_X6_hasChamber_17 (σ : ez_H) (y0 : Int32) : Option (Int32) :=
  ez_nr .boolean y0 <|
  some y0
set_option maxRecDepth 100000 in
noncomputable def z_X6_hasChamber_16 (σ : ez_H) : Option (Int32) :=
  z_X6_hasChamber_17 σ (0 : Int32)
set_option maxRecDepth 100000 in
noncomputable def z_X6_hasChamber (σ : ez_H) (h0 : Nat) (x1 : Int32) : Option (Int32) :=
  ez_bd (ez_ob σ 6 h0) fun _ =>
  if x1 < (0 : Int32) then (
  z_X6_hasChamber_16 σ 
  ) else (
  ez_bd (ez_gi σ 6 h0 0) fun t_6 =>
  if t_6 ≤ x1 then (
  z_X6_hasChamber_16 σ 
  ) else (
  z_X6_hasChamber_17 σ (1 : Int32)
  )
  )
set_option maxRecDepth 100000 in
noncomputable def z_X11_cut_22 (σ : ez_H) : Option (Int32) :=
  some (-1 : Int32)
set_option maxRecDepth 100000 in
noncomputable def z_X11_cut (σ : ez_H) (h0 : Nat) (x1 : Int32) (x2 : Int32) : Option (Int32) :=
  ez_bd (ez_ob σ 11 h0) fun _ =>
  ez_bd (ez_gr σ 11 h0 3) fun t_1 =>
  ez_bd (z_X3_hasKey σ t_1 x1) fun t_5 =>
  if t_5 = (0 : Int32) then (
  z_X11_cut_22 σ 
  ) else (
  ez_bd (ez_gr σ 11 h0 4) fun t_12 =>
  ez_bd (z_X6_hasChamber σ t_12 x2) fun t_16 =>
  if t_16 = (0 : Int32) then (
  z_X11_cut_22 σ 
  ) else (
  ez_bd (ez_gr σ 11 h0 4) fun t_25 =>
  ez_bd (ez_gr σ 11 h0 5) fun t_29 =>
  ez_bd (z_X7_bits σ t_29 x1) fun t_33 =>
  ez_bd (z_X6_depthAt σ t_25 t_33 x2) fun t_37 =>
  some t_37
  )
  )
set_option maxRecDepth 100000 in
noncomputable def z_X11_cutFor_22 (σ : ez_H) : Option (Int32 × ez_H) :=
  some ((-1 : Int32), σ)
set_option maxRecDepth 100000 in
noncomputable def z_X11_cutFor (σ : ez_H) (h0 : Nat) (x1 : Int32) (x2 : Int32) : Option (Int32 × ez_H) :=
  ez_bd (ez_ob σ 11 h0) fun _ =>
  ez_bd (ez_gr σ 11 h0 3) fun t_1 =>
  ez_bd (z_X3_hasLocks σ t_1 x1) fun t_5 =>
  if t_5 = (0 : Int32) then (
  z_X11_cutFor_22  σ
  ) else (
  ez_bd (ez_gr σ 11 h0 3) fun t_12 =>
  ez_bd (z_X3_hasLocks σ t_12 x2) fun t_16 =>
  if t_16 = (0 : Int32) then (
  z_X11_cutFor_22  σ
  ) else (
  ez_bd (ez_gr σ 11 h0 10) fun t_25 =>
  ez_bd (ez_gr σ 11 h0 5) fun t_29 =>
  ez_b2 (z_X8_take σ t_25 t_29) fun _ σ =>
  ez_bd (ez_gr σ 11 h0 10) fun t_36 =>
  ez_bd (z_X8_leastNumber σ t_36 x1 x2) fun t_41 =>
  some (t_41, σ)
  )
  )
set_option maxRecDepth 100000 in
noncomputable def z_X3_hasDoor_17 (σ : ez_H) (y0 : Int32) : Option (Int32) :=
  ez_nr .boolean y0 <|
  some y0
set_option maxRecDepth 100000 in
noncomputable def z_X3_hasDoor_16 (σ : ez_H) : Option (Int32) :=
  z_X3_hasDoor_17 σ (0 : Int32)
set_option maxRecDepth 100000 in
noncomputable def z_X3_hasDoor (σ : ez_H) (h0 : Nat) (x1 : Int32) : Option (Int32) :=
  ez_bd (ez_ob σ 3 h0) fun _ =>
  if x1 < (0 : Int32) then (
  z_X3_hasDoor_16 σ 
  ) else (
  ez_bd (ez_gi σ 3 h0 6) fun t_6 =>
  if t_6 ≤ x1 then (
  z_X3_hasDoor_16 σ 
  ) else (
  z_X3_hasDoor_17 σ (1 : Int32)
  )
  )
set_option maxRecDepth 100000 in
noncomputable def z_X11_door (σ : ez_H) (h0 : Nat) (x1 : Int32) (x2 : Int32) : Option (Int32) :=
  ez_bd (ez_ob σ 11 h0) fun _ =>
  ez_bd (ez_gr σ 11 h0 3) fun t_1 =>
  ez_bd (z_X3_hasDoor σ t_1 x1) fun t_5 =>
  if t_5 = (0 : Int32) then (
  some (-1 : Int32)
  ) else (
  if x2 = 0 then (
  ez_bd (ez_gr σ 11 h0 3) fun t_41 =>
  ez_bd (z_X3_doorFrom σ t_41 x1) fun t_45 =>
  some t_45
  ) else (
  if x2 = 1 then (
  ez_bd (ez_gr σ 11 h0 3) fun t_50 =>
  ez_bd (z_X3_doorTo σ t_50 x1) fun t_54 =>
  some t_54
  ) else (
  if x2 = 2 then (
  ez_bd (ez_gr σ 11 h0 3) fun t_59 =>
  ez_bd (z_X3_doorLock σ t_59 x1) fun t_63 =>
  some t_63
  ) else (
  some (-1 : Int32)
  )))
  )
set_option maxRecDepth 100000 in
noncomputable def z_X11_end_12 (σ : ez_H) : Option (Int32 × ez_H) :=
  some ((-1 : Int32), σ)
set_option maxRecDepth 100000 in
noncomputable def z_X11_end (σ : ez_H) (h0 : Nat) (x1 : Int32) : Option (Int32 × ez_H) :=
  ez_bd (ez_ob σ 11 h0) fun _ =>
  if x1 < (0 : Int32) then (
  z_X11_end_12  σ
  ) else (
  ez_bd (ez_gi σ 11 h0 1) fun t_6 =>
  if x1 ≤ t_6 then (
  ez_bd (ez_pf σ 11 h0 1 (.inl x1)) fun σ =>
  some (x1, σ)
  ) else (
  z_X11_end_12  σ
  )
  )
set_option maxRecDepth 100000 in
noncomputable def z_X11_fault (σ : ez_H) (h0 : Nat) (x1 : Int32) : Option (Int32) :=
  ez_bd (ez_ob σ 11 h0) fun _ =>
  if x1 = 0 then (
  ez_bd (ez_gr σ 11 h0 2) fun t_29 =>
  ez_bd (ez_gi σ 4 t_29 1) fun t_32 =>
  some t_32
  ) else (
  if x1 = 1 then (
  ez_bd (ez_gr σ 11 h0 2) fun t_37 =>
  ez_bd (ez_gi σ 4 t_37 2) fun t_40 =>
  some t_40
  ) else (
  some (-1 : Int32)
  ))
set_option maxRecDepth 100000 in
noncomputable def z_X11_putOnTape_47 (k_3 : ez_H → Nat → Int32 → Int32 → Option (Unit × ez_H)) (σ : ez_H) (h0 : Nat) (x1 : Int32) (x2 : Int32) : Option (Unit × ez_H) :=
  ez_let (x2 + (-8)) fun t_47 =>
  k_3 σ h0 x1 t_47
set_option maxRecDepth 100000 in
noncomputable def z_X11_putOnTape_3 (k_3 : ez_H → Nat → Int32 → Int32 → Option (Unit × ez_H)) (σ : ez_H) (h0 : Nat) (x1 : Int32) (x2 : Int32) : Option (Unit × ez_H) :=
  if x2 < (0 : Int32) then (
  some ((), σ)
  ) else (
  ez_bd (ez_gi σ 11 h0 1) fun t_8 =>
  if t_8 < (0 : Int32) then (
  z_X11_putOnTape_47 k_3 σ h0 x1 x2
  ) else (
  ez_bd (ez_gi σ 11 h0 1) fun t_15 =>
  if (1600 : Int32) ≤ t_15 then (
  z_X11_putOnTape_47 k_3 σ h0 x1 x2
  ) else (
  ez_bd (ez_gr σ 11 h0 0) fun t_25 =>
  ez_bd (ez_gi σ 11 h0 1) fun t_29 =>
  ez_let (x1 >>> (x2 &&& 31)) fun t_34 =>
  ez_let ((Int32.toInt8 t_34).toInt32) fun t_35 =>
  ez_bd (ez_is σ 0 t_25 t_29 (vp_nar .byte t_35)) fun σ =>
  ez_bd (ez_gi σ 11 h0 1) fun t_39 =>
  ez_let (t_39 + (1 : Int32)) fun t_43 =>
  ez_bd (ez_pf σ 11 h0 1 (.inl t_43)) fun σ =>
  z_X11_putOnTape_47 k_3 σ h0 x1 x2
  )
  )
  )
set_option maxRecDepth 100000 in
noncomputable def z_X11_putOnTape (σ : ez_H) (h0 : Nat) (x1 : Int32) : Option (Unit × ez_H) :=
  ez_bd (ez_ob σ 11 h0) fun _ =>
  ez_fix (fun _ _ _ _ => none) (z_X11_putOnTape_3 ) ez_N σ h0 x1 (24 : Int32)
set_option maxRecDepth 100000 in
noncomputable def z_X11_feed (σ : ez_H) (h0 : Nat) (x1 : Int32) (x2 : Int32) (x3 : Int32) (x4 : Int32) (x5 : Int32) : Option (Int32 × ez_H) :=
  ez_bd (ez_ob σ 11 h0) fun _ =>
  ez_bd (ez_gi σ 11 h0 1) fun t_1 =>
  ez_let (t_1 + (20 : Int32)) fun t_6 =>
  if t_6 ≤ (1600 : Int32) then (
  ez_b2 (z_X11_putOnTape σ h0 x1) fun _ σ =>
  ez_b2 (z_X11_putOnTape σ h0 x2) fun _ σ =>
  ez_b2 (z_X11_putOnTape σ h0 x3) fun _ σ =>
  ez_b2 (z_X11_putOnTape σ h0 x4) fun _ σ =>
  ez_b2 (z_X11_putOnTape σ h0 x5) fun _ σ =>
  ez_bd (ez_gi σ 11 h0 1) fun t_43 =>
  some (t_43, σ)
  ) else (
  some ((-1 : Int32), σ)
  )
set_option maxRecDepth 100000 in
noncomputable def z_X6_isLegal_2 (σ : ez_H) (k_2 : Nat → Int32 → Int32 → Option (Int32)) (h0 : Nat) (x1 : Int32) (x2 : Int32) : Option (Int32) :=
  ez_bd (ez_gi σ 6 h0 0) fun t_4 =>
  if t_4 ≤ x2 then (
  some (1 : Int32)
  ) else (
  ez_bd (z_X6_depthAt σ h0 x1 x2) fun t_13 =>
  ez_let (x2 - (1 : Int32)) fun t_20 =>
  ez_bd (z_X6_depthAt σ h0 x1 t_20) fun t_21 =>
  ez_let (t_13 - t_21) fun t_24 =>
  ez_let (if 0 ≤ t_24 then t_24 else 0 - t_24) fun t_25 =>
  ez_bd (ez_gi σ 6 h0 2) fun t_29 =>
  if t_25 ≤ t_29 then (
  ez_let (x2 + 1) fun t_37 =>
  k_2 h0 x1 t_37
  ) else (
  some (0 : Int32)
  )
  )
set_option maxRecDepth 100000 in
noncomputable def z_X6_isLegal (σ : ez_H) (h0 : Nat) (x1 : Int32) : Option (Int32) :=
  ez_bd (ez_ob σ 6 h0) fun _ =>
  ez_fix (fun _ _ _ => none) (z_X6_isLegal_2 σ) ez_N h0 x1 (1 : Int32)
set_option maxRecDepth 100000 in
noncomputable def z_X6_deeper_51 (σ : ez_H) (y0 : Int32) : Option (Int32) :=
  some y0
set_option maxRecDepth 100000 in
noncomputable def z_X6_deeper (σ : ez_H) (h0 : Nat) (x1 : Int32) (x2 : Int32) : Option (Int32) :=
  ez_bd (ez_ob σ 6 h0) fun _ =>
  ez_bd (z_X6_depthAt σ h0 x1 x2) fun t_3 =>
  ez_let (t_3 + (1 : Int32)) fun t_9 =>
  ez_bd (ez_gi σ 6 h0 1) fun t_11 =>
  if t_9 < t_11 then (
  ez_bd (z_X6_notch σ x2 t_3) fun t_22 =>
  ez_let (x1 ^^^ t_22) fun t_25 =>
  ez_let (t_3 + (1 : Int32)) fun t_29 =>
  ez_bd (z_X6_notch σ x2 t_29) fun t_30 =>
  ez_let (t_25 ^^^ t_30) fun t_33 =>
  ez_bd (z_X6_isLegal σ h0 t_33) fun t_39 =>
  if t_39 = (0 : Int32) then (
  z_X6_deeper_51 σ (0 : Int32)
  ) else (
  z_X6_deeper_51 σ t_33
  )
  ) else (
  some (0 : Int32)
  )
set_option maxRecDepth 100000 in
noncomputable def z_J9_floorMod_7cf53_18 (σ : ez_H) (x2 : Int32) : Option (Int32) :=
  some x2
set_option maxRecDepth 100000 in
noncomputable def z_J9_floorMod_7cf53 (σ : ez_H) (x0 : Int32) (x1 : Int32) : Option (Int32) :=
  ez_nz x1 <|
  ez_let (x0 - x0 / x1 * x1) fun t_2 =>
  ez_let (x0 ^^^ x1) fun t_6 =>
  if (0 : Int32) ≤ t_6 then (
  z_J9_floorMod_7cf53_18 σ t_2
  ) else (
  if t_2 = (0 : Int32) then (
  z_J9_floorMod_7cf53_18 σ t_2
  ) else (
  ez_let (t_2 + x1) fun t_16 =>
  some t_16
  )
  )
set_option maxRecDepth 100000 in
noncomputable def z_X1_slot (σ : ez_H) (h0 : Nat) (x1 : Int32) : Option (Nat) :=
  ez_bd (ez_ob σ 1 h0) fun _ =>
  ez_bd (ez_gr σ 1 h0 0) fun t_1 =>
  ez_bd (ez_gi σ 1 h0 1) fun t_5 =>
  ez_let (t_5 + x1) fun t_9 =>
  ez_bd (z_J9_floorMod_7cf53 σ t_9 (41 : Int32)) fun t_12 =>
  ez_bd (ez_ra σ 4 t_1 t_12) fun t_15 =>
  some t_15
set_option maxRecDepth 100000 in
noncomputable def z_X1_keep_32 (σ : ez_H) (h0 : Nat) (h1 : Nat) : Option (Unit × ez_H) :=
  ez_bd (ez_gi σ 1 h0 2) fun t_34 =>
  ez_bd (z_X1_slot σ h0 t_34) fun t_37 =>
  ez_b2 (z_X7_copyFrom σ t_37 h1) fun _ σ =>
  ez_bd (ez_gi σ 1 h0 2) fun t_46 =>
  ez_let (t_46 + (1 : Int32)) fun t_50 =>
  ez_bd (ez_pf σ 1 h0 2 (.inl t_50)) fun σ =>
  ez_bd (ez_gi σ 1 h0 2) fun t_56 =>
  ez_bd (ez_pf σ 1 h0 3 (.inl t_56)) fun σ =>
  some ((), σ)
set_option maxRecDepth 100000 in
noncomputable def z_X1_keep (σ : ez_H) (h0 : Nat) (h1 : Nat) : Option (Unit × ez_H) :=
  ez_bd (ez_ob σ 1 h0) fun _ =>
  ez_bd (ez_gi σ 1 h0 2) fun t_1 =>
  if t_1 < (40 : Int32) then (
  z_X1_keep_32  σ h0 h1
  ) else (
  ez_bd (ez_gi σ 1 h0 1) fun t_11 =>
  ez_let (t_11 + (1 : Int32)) fun t_15 =>
  ez_nz (41 : Int32) <|
  ez_let (t_15 - t_15 / (41 : Int32) * (41 : Int32)) fun t_18 =>
  ez_bd (ez_pf σ 1 h0 1 (.inl t_18)) fun σ =>
  ez_bd (ez_gi σ 1 h0 2) fun t_24 =>
  ez_let (t_24 - (1 : Int32)) fun t_28 =>
  ez_bd (ez_pf σ 1 h0 2 (.inl t_28)) fun σ =>
  z_X1_keep_32  σ h0 h1
  )
set_option maxRecDepth 100000 in
noncomputable def z_X7_put_17 (σ : ez_H) : Option (Unit × ez_H) :=
  some ((), σ)
set_option maxRecDepth 100000 in
noncomputable def z_X7_put (σ : ez_H) (h0 : Nat) (x1 : Int32) (x2 : Int32) : Option (Unit × ez_H) :=
  ez_bd (ez_ob σ 7 h0) fun _ =>
  if x1 < (0 : Int32) then (
  z_X7_put_17  σ
  ) else (
  if (35 : Int32) ≤ x1 then (
  z_X7_put_17  σ
  ) else (
  ez_bd (ez_gr σ 7 h0 0) fun t_11 =>
  ez_bd (ez_is σ 1 t_11 x1 x2) fun σ =>
  z_X7_put_17  σ
  )
  )
set_option maxRecDepth 100000 in
noncomputable def z_X7_putBits (σ : ez_H) (h0 : Nat) (x1 : Int32) (x2 : Int32) : Option (Unit × ez_H) :=
  ez_bd (ez_ob σ 7 h0) fun _ =>
  ez_b2 (z_X7_put σ h0 x1 x2) fun _ σ =>
  some ((), σ)
set_option maxRecDepth 100000 in
noncomputable def z_X11_file_22 (σ : ez_H) : Option (Int32 × ez_H) :=
  some ((-1 : Int32), σ)
set_option maxRecDepth 100000 in
noncomputable def z_X11_file (σ : ez_H) (h0 : Nat) (x1 : Int32) (x2 : Int32) : Option (Int32 × ez_H) :=
  ez_bd (ez_ob σ 11 h0) fun _ =>
  ez_bd (ez_gr σ 11 h0 3) fun t_1 =>
  ez_bd (z_X3_hasKey σ t_1 x1) fun t_5 =>
  if t_5 = (0 : Int32) then (
  z_X11_file_22  σ
  ) else (
  ez_bd (ez_gr σ 11 h0 4) fun t_12 =>
  ez_bd (z_X6_hasChamber σ t_12 x2) fun t_16 =>
  if t_16 = (0 : Int32) then (
  z_X11_file_22  σ
  ) else (
  ez_bd (ez_gr σ 11 h0 4) fun t_25 =>
  ez_bd (ez_gr σ 11 h0 5) fun t_29 =>
  ez_bd (z_X7_bits σ t_29 x1) fun t_33 =>
  ez_bd (z_X6_deeper σ t_25 t_33 x2) fun t_37 =>
  if t_37 = (0 : Int32) then (
  some ((-1 : Int32), σ)
  ) else (
  ez_bd (ez_gr σ 11 h0 7) fun t_48 =>
  ez_bd (ez_gr σ 11 h0 5) fun t_52 =>
  ez_b2 (z_X1_keep σ t_48 t_52) fun _ σ =>
  ez_bd (ez_gr σ 11 h0 5) fun t_59 =>
  ez_b2 (z_X7_putBits σ t_59 x1 t_37) fun _ σ =>
  ez_bd (ez_gr σ 11 h0 4) fun t_68 =>
  ez_bd (z_X6_depthAt σ t_68 t_37 x2) fun t_73 =>
  some (t_73, σ)
  )
  )
  )
set_option maxRecDepth 100000 in
noncomputable def z_X3_hasLock_17 (σ : ez_H) (y0 : Int32) : Option (Int32) :=
  ez_nr .boolean y0 <|
  some y0
set_option maxRecDepth 100000 in
noncomputable def z_X3_hasLock_16 (σ : ez_H) : Option (Int32) :=
  z_X3_hasLock_17 σ (0 : Int32)
set_option maxRecDepth 100000 in
noncomputable def z_X3_hasLock (σ : ez_H) (h0 : Nat) (x1 : Int32) : Option (Int32) :=
  ez_bd (ez_ob σ 3 h0) fun _ =>
  if x1 < (0 : Int32) then (
  z_X3_hasLock_16 σ 
  ) else (
  ez_bd (ez_gi σ 3 h0 4) fun t_6 =>
  if t_6 ≤ x1 then (
  z_X3_hasLock_16 σ 
  ) else (
  z_X3_hasLock_17 σ (1 : Int32)
  )
  )
set_option maxRecDepth 100000 in
noncomputable def z_X6_fromDepthsOf_4 (σ : ez_H) (k_4 : Nat → Int32 → Int32 → Int32 → Option (Int32)) (h0 : Nat) (x1 : Int32) (x2 : Int32) (x3 : Int32) : Option (Int32) :=
  ez_bd (ez_gi σ 6 h0 0) fun t_6 =>
  if t_6 ≤ x3 then (
  some x2
  ) else (
  ez_bd (z_X6_depthAt σ h0 x1 x3) fun t_16 =>
  ez_bd (z_X6_notch σ x3 t_16) fun t_19 =>
  ez_bd (z_X6_notch σ x3 (0 : Int32)) fun t_24 =>
  ez_let (t_19 - t_24) fun t_27 =>
  ez_bd (z_X6_notch σ x3 (6 : Int32)) fun t_34 =>
  ez_bd (z_X6_notch σ x3 (0 : Int32)) fun t_39 =>
  ez_let (t_34 - t_39) fun t_42 =>
  ez_let (t_27 ^^^ (-1 : Int32)) fun t_46 =>
  ez_let (t_42 &&& t_46) fun t_47 =>
  ez_let (x2 ||| t_47) fun t_48 =>
  ez_let (x3 + 1) fun t_50 =>
  k_4 h0 x1 t_48 t_50
  )
set_option maxRecDepth 100000 in
noncomputable def z_X6_fromDepthsOf (σ : ez_H) (h0 : Nat) (x1 : Int32) : Option (Int32) :=
  ez_bd (ez_ob σ 6 h0) fun _ =>
  ez_fix (fun _ _ _ _ => none) (z_X6_fromDepthsOf_4 σ) ez_N h0 x1 (0 : Int32) (0 : Int32)
set_option maxRecDepth 100000 in
noncomputable def z_X6_cheapest_35 (σ : ez_H) (k_8 : Nat → Int32 → Int32 → Int32 → Int32 → Option (Int32)) (h0 : Nat) (x1 : Int32) (x3 : Int32) (x4 : Int32) (x5 : Int32) : Option (Int32) :=
  ez_let (x5 + 1) fun t_35 =>
  k_8 h0 x1 x3 x4 t_35
set_option maxRecDepth 100000 in
noncomputable def z_X6_cheapest_8 (σ : ez_H) (k_8 : Nat → Int32 → Int32 → Int32 → Int32 → Option (Int32)) (h0 : Nat) (x1 : Int32) (x3 : Int32) (x4 : Int32) (x5 : Int32) : Option (Int32) :=
  if x3 < x5 then (
  some x4
  ) else (
  ez_bd (z_X6_onwardAt σ h0 x1 x5) fun t_18 =>
  ez_bd (z_X6_onwardAt σ h0 x1 x4) fun t_25 =>
  if t_25 ≤ t_18 then (
  z_X6_cheapest_35 σ k_8 h0 x1 x3 x4 x5
  ) else (
  z_X6_cheapest_35 σ k_8 h0 x1 x3 x5 x5
  )
  )
set_option maxRecDepth 100000 in
noncomputable def z_X6_cheapest (σ : ez_H) (h0 : Nat) (x1 : Int32) (x2 : Int32) (x3 : Int32) : Option (Int32) :=
  ez_bd (ez_ob σ 6 h0) fun _ =>
  ez_let (x2 + (1 : Int32)) fun t_5 =>
  ez_fix (fun _ _ _ _ _ => none) (z_X6_cheapest_8 σ) ez_N h0 x1 x3 x2 t_5
set_option maxRecDepth 100000 in
noncomputable def z_X6_depthBehind (σ : ez_H) (h0 : Nat) (x1 : Int32) (x2 : Int32) : Option (Int32) :=
  ez_bd (ez_ob σ 6 h0) fun _ =>
  ez_let (x1 + (1 : Int32)) fun t_2 =>
  ez_bd (ez_gi σ 6 h0 0) fun t_4 =>
  if t_2 < t_4 then (
  ez_let (x1 + (1 : Int32)) fun t_15 =>
  ez_let (x1 + (1 : Int32)) fun t_19 =>
  ez_bd (z_X6_lowest σ h0 x2) fun t_22 =>
  ez_bd (z_X6_highest σ h0 x2) fun t_27 =>
  ez_bd (z_X6_cheapest σ h0 t_19 t_22 t_27) fun t_30 =>
  ez_bd (z_X6_onwardAt σ h0 t_15 t_30) fun t_33 =>
  some t_33
  ) else (
  some (0 : Int32)
  )
set_option maxRecDepth 100000 in
noncomputable def z_X6_shallowest_96 (k_96 : ez_H → Nat → Int32 → Int32 → Int32 → Int32 → Option (Int32 × ez_H)) (σ : ez_H) (h0 : Nat) (x2 : Int32) (x3 : Int32) (x4 : Int32) (x5 : Int32) : Option (Int32 × ez_H) :=
  ez_bd (ez_gi σ 6 h0 0) fun t_99 =>
  if t_99 ≤ x5 then (
  some (x2, σ)
  ) else (
  ez_bd (z_X6_cheapest σ h0 x5 x3 x4) fun t_111 =>
  ez_bd (z_X6_onwardAt σ h0 x5 t_111) fun t_121 =>
  if t_121 < (1000 : Int32) then (
  ez_bd (z_X6_notch σ x5 t_111) fun t_137 =>
  ez_let (x2 ||| t_137) fun t_140 =>
  ez_bd (z_X6_lowest σ h0 t_111) fun t_145 =>
  ez_bd (z_X6_highest σ h0 t_111) fun t_152 =>
  ez_let (x5 + 1) fun t_157 =>
  k_96 σ h0 t_140 t_145 t_152 t_157
  ) else (
  some ((0 : Int32), σ)
  )
  )
set_option maxRecDepth 100000 in
noncomputable def z_X6_shallowest_66 (k_7 : ez_H → Nat → Int32 → Int32 → Option (Int32 × ez_H)) (k_13 : ez_H → Nat → Int32 → Int32 → Int32 → Option (Int32 × ez_H)) (σ : ez_H) (h0 : Nat) (x1 : Int32) (x2 : Int32) (x3 : Int32) (y0 : Nat) (y1 : Int32) (y2 : Int32) (y3 : Int32) : Option (Int32 × ez_H) :=
  ez_b2 (z_X6_putOnward σ y0 y1 y2 y3) fun _ σ =>
  ez_let (x3 + 1) fun t_69 =>
  k_13 σ h0 x1 x2 t_69
set_option maxRecDepth 100000 in
noncomputable def z_X6_shallowest_36 (k_7 : ez_H → Nat → Int32 → Int32 → Option (Int32 × ez_H)) (k_13 : ez_H → Nat → Int32 → Int32 → Int32 → Option (Int32 × ez_H)) (σ : ez_H) (h0 : Nat) (x1 : Int32) (x2 : Int32) (x3 : Int32) (y0 : Int32) : Option (Int32 × ez_H) :=
  if y0 = (0 : Int32) then (
  z_X6_shallowest_66 k_7 k_13 σ h0 x1 x2 x3 h0 x2 x3 (1000 : Int32)
  ) else (
  ez_bd (z_X6_depthBehind σ h0 x2 x3) fun t_53 =>
  ez_let (x3 + t_53) fun t_56 =>
  ez_let (if t_56 < (1000 : Int32) then t_56 else (1000 : Int32)) fun t_57 =>
  z_X6_shallowest_66 k_7 k_13 σ h0 x1 x2 x3 h0 x2 x3 t_57
  )
set_option maxRecDepth 100000 in
noncomputable def z_X6_shallowest_13 (k_7 : ez_H → Nat → Int32 → Int32 → Option (Int32 × ez_H)) (k_13 : ez_H → Nat → Int32 → Int32 → Int32 → Option (Int32 × ez_H)) (σ : ez_H) (h0 : Nat) (x1 : Int32) (x2 : Int32) (x3 : Int32) : Option (Int32 × ez_H) :=
  ez_bd (ez_gi σ 6 h0 1) fun t_15 =>
  if t_15 ≤ x3 then (
  ez_let (x2 + (-1)) fun t_75 =>
  k_7 σ h0 x1 t_75
  ) else (
  ez_bd (z_X6_notch σ x2 x3) fun t_24 =>
  ez_let (x1 &&& t_24) fun t_27 =>
  if t_27 = (0 : Int32) then (
  z_X6_shallowest_36 k_7 k_13 σ h0 x1 x2 x3 (0 : Int32)
  ) else (
  z_X6_shallowest_36 k_7 k_13 σ h0 x1 x2 x3 (1 : Int32)
  )
  )
set_option maxRecDepth 100000 in
noncomputable def z_X6_shallowest_7 (k_7 : ez_H → Nat → Int32 → Int32 → Option (Int32 × ez_H)) (σ : ez_H) (h0 : Nat) (x1 : Int32) (x2 : Int32) : Option (Int32 × ez_H) :=
  if x2 < (0 : Int32) then (
  ez_bd (ez_gi σ 6 h0 1) fun t_86 =>
  ez_let (t_86 - (1 : Int32)) fun t_90 =>
  ez_fix (fun _ _ _ _ _ _ => none) (z_X6_shallowest_96 ) ez_N σ h0 (0 : Int32) (0 : Int32) t_90 (0 : Int32)
  ) else (
  ez_fix (fun _ _ _ _ _ => none) (z_X6_shallowest_13 k_7) ez_N σ h0 x1 x2 (0 : Int32)
  )
set_option maxRecDepth 100000 in
noncomputable def z_X6_shallowest (σ : ez_H) (h0 : Nat) (x1 : Int32) : Option (Int32 × ez_H) :=
  ez_bd (ez_ob σ 6 h0) fun _ =>
  ez_bd (ez_gi σ 6 h0 0) fun t_1 =>
  ez_let (t_1 - (1 : Int32)) fun t_5 =>
  ez_fix (fun _ _ _ _ => none) (z_X6_shallowest_7 ) ez_N σ h0 x1 t_5
set_option maxRecDepth 100000 in
noncomputable def z_X6_apart_5 (σ : ez_H) (k_5 : Nat → Int32 → Int32 → Int32 → Int32 → Option (Int32)) (h0 : Nat) (x1 : Int32) (x2 : Int32) (x3 : Int32) (x4 : Int32) : Option (Int32) :=
  ez_bd (ez_gi σ 6 h0 0) fun t_8 =>
  if t_8 ≤ x4 then (
  some x3
  ) else (
  ez_bd (z_X6_depthAt σ h0 x1 x4) fun t_19 =>
  ez_bd (z_X6_depthAt σ h0 x2 x4) fun t_26 =>
  ez_let (t_19 - t_26) fun t_29 =>
  ez_let (if 0 ≤ t_29 then t_29 else 0 - t_29) fun t_30 =>
  ez_let (x3 + t_30) fun t_33 =>
  ez_let (x4 + 1) fun t_35 =>
  k_5 h0 x1 x2 t_33 t_35
  )
set_option maxRecDepth 100000 in
noncomputable def z_X6_apart (σ : ez_H) (h0 : Nat) (x1 : Int32) (x2 : Int32) : Option (Int32) :=
  ez_bd (ez_ob σ 6 h0) fun _ =>
  ez_fix (fun _ _ _ _ _ => none) (z_X6_apart_5 σ) ez_N h0 x1 x2 (0 : Int32) (0 : Int32)
set_option maxRecDepth 100000 in
noncomputable def z_X11_filing_22 (σ : ez_H) : Option (Int32 × ez_H) :=
  some ((-1 : Int32), σ)
set_option maxRecDepth 100000 in
noncomputable def z_X11_filing (σ : ez_H) (h0 : Nat) (x1 : Int32) (x2 : Int32) (x3 : Int32) : Option (Int32 × ez_H) :=
  ez_bd (ez_ob σ 11 h0) fun _ =>
  ez_bd (ez_gr σ 11 h0 3) fun t_1 =>
  ez_bd (z_X3_hasKey σ t_1 x1) fun t_5 =>
  if t_5 = (0 : Int32) then (
  z_X11_filing_22  σ
  ) else (
  ez_bd (ez_gr σ 11 h0 3) fun t_12 =>
  ez_bd (z_X3_hasLock σ t_12 x2) fun t_16 =>
  if t_16 = (0 : Int32) then (
  z_X11_filing_22  σ
  ) else (
  ez_bd (ez_gr σ 11 h0 5) fun t_25 =>
  ez_bd (z_X7_bits σ t_25 x1) fun t_29 =>
  ez_bd (ez_gr σ 11 h0 4) fun t_35 =>
  ez_bd (ez_gr σ 11 h0 5) fun t_39 =>
  ez_bd (z_X7_pins σ t_39 x2) fun t_43 =>
  ez_bd (ez_gr σ 11 h0 4) fun t_47 =>
  ez_bd (z_X6_fromDepthsOf σ t_47 t_29) fun t_52 =>
  ez_let (t_43 &&& t_52) fun t_55 =>
  ez_b2 (z_X6_shallowest σ t_35 t_55) fun t_56 σ =>
  if t_56 = (0 : Int32) then (
  some ((-1 : Int32), σ)
  ) else (
  if x3 = 0 then (
  ez_bd (ez_gr σ 11 h0 4) fun t_97 =>
  ez_bd (z_X6_apart σ t_97 t_29 t_56) fun t_104 =>
  some (t_104, σ)
  ) else (
  if x3 = 1 then (
  ez_bd (ez_gr σ 11 h0 4) fun t_109 =>
  ez_bd (z_X6_numberOf σ t_109 t_56) fun t_114 =>
  some (t_114, σ)
  ) else (
  some ((-1 : Int32), σ)
  ))
  )
  )
  )
set_option maxRecDepth 100000 in
noncomputable def z_X3_hasPerson_17 (σ : ez_H) (y0 : Int32) : Option (Int32) :=
  ez_nr .boolean y0 <|
  some y0
set_option maxRecDepth 100000 in
noncomputable def z_X3_hasPerson_16 (σ : ez_H) : Option (Int32) :=
  z_X3_hasPerson_17 σ (0 : Int32)
set_option maxRecDepth 100000 in
noncomputable def z_X3_hasPerson (σ : ez_H) (h0 : Nat) (x1 : Int32) : Option (Int32) :=
  ez_bd (ez_ob σ 3 h0) fun _ =>
  if x1 < (0 : Int32) then (
  z_X3_hasPerson_16 σ 
  ) else (
  ez_bd (ez_gi σ 3 h0 7) fun t_6 =>
  if t_6 ≤ x1 then (
  z_X3_hasPerson_16 σ 
  ) else (
  z_X3_hasPerson_17 σ (1 : Int32)
  )
  )
set_option maxRecDepth 100000 in
noncomputable def z_X7_putHolder (σ : ez_H) (h0 : Nat) (x1 : Int32) (x2 : Int32) : Option (Unit × ez_H) :=
  ez_bd (ez_ob σ 7 h0) fun _ =>
  ez_let ((16 : Int32) + x1) fun t_4 =>
  ez_b2 (z_X7_put σ h0 t_4 x2) fun _ σ =>
  some ((), σ)
set_option maxRecDepth 100000 in
noncomputable def z_X11_handOver (σ : ez_H) (h0 : Nat) (x1 : Int32) (x2 : Int32) : Option (Int32 × ez_H) :=
  ez_bd (ez_ob σ 11 h0) fun _ =>
  ez_bd (ez_gr σ 11 h0 5) fun t_1 =>
  ez_bd (z_X7_holder σ t_1 x1) fun t_5 =>
  ez_bd (ez_gr σ 11 h0 7) fun t_10 =>
  ez_bd (ez_gr σ 11 h0 5) fun t_14 =>
  ez_b2 (z_X1_keep σ t_10 t_14) fun _ σ =>
  ez_bd (ez_gr σ 11 h0 5) fun t_21 =>
  ez_b2 (z_X7_putHolder σ t_21 x1 x2) fun _ σ =>
  some (t_5, σ)
set_option maxRecDepth 100000 in
noncomputable def z_X11_find_35 (σ : ez_H) : Option (Int32 × ez_H) :=
  some ((-1 : Int32), σ)
set_option maxRecDepth 100000 in
noncomputable def z_X11_find (σ : ez_H) (h0 : Nat) (x1 : Int32) (x2 : Int32) : Option (Int32 × ez_H) :=
  ez_bd (ez_ob σ 11 h0) fun _ =>
  ez_bd (ez_gr σ 11 h0 3) fun t_1 =>
  ez_bd (z_X3_hasKey σ t_1 x1) fun t_5 =>
  if t_5 = (0 : Int32) then (
  z_X11_find_35  σ
  ) else (
  ez_bd (ez_gr σ 11 h0 3) fun t_12 =>
  ez_bd (z_X3_hasPerson σ t_12 x2) fun t_16 =>
  if t_16 = (0 : Int32) then (
  z_X11_find_35  σ
  ) else (
  ez_bd (ez_gr σ 11 h0 5) fun t_23 =>
  ez_bd (z_X7_holder σ t_23 x1) fun t_27 =>
  if t_27 = (-2 : Int32) then (
  ez_b2 (z_X11_handOver σ h0 x1 x2) fun t_40 σ =>
  ez_bd (ez_gr σ 11 h0 5) fun t_45 =>
  ez_bd (ez_gr σ 11 h0 3) fun t_50 =>
  ez_bd (ez_gi σ 3 t_50 3) fun t_53 =>
  ez_bd (z_X7_heldBy σ t_45 x2 t_53) fun t_56 =>
  ez_bd (z_J6_bitCount_0f7a4 σ t_56) fun t_59 =>
  some (t_59, σ)
  ) else (
  z_X11_find_35  σ
  )
  )
  )
set_option maxRecDepth 100000 in
noncomputable def z_X7_firstWith_30 (σ : ez_H) : Option (Int32) :=
  some (-1 : Int32)
set_option maxRecDepth 100000 in
noncomputable def z_X7_firstWith_2 (σ : ez_H) (k_2 : Nat → Int32 → Int32 → Int32 → Option (Int32)) (h0 : Nat) (x1 : Int32) (x2 : Int32) (x3 : Int32) : Option (Int32) :=
  if x2 ≤ x3 then (
  z_X7_firstWith_30 σ 
  ) else (
  if (8 : Int32) ≤ x3 then (
  z_X7_firstWith_30 σ 
  ) else (
  ez_bd (z_X7_bits σ h0 x3) fun t_15 =>
  if t_15 = x1 then (
  some x3
  ) else (
  ez_let (x3 + 1) fun t_24 =>
  k_2 h0 x1 x2 t_24
  )
  )
  )
set_option maxRecDepth 100000 in
noncomputable def z_X7_firstWith (σ : ez_H) (h0 : Nat) (x1 : Int32) (x2 : Int32) : Option (Int32) :=
  ez_bd (ez_ob σ 7 h0) fun _ =>
  ez_fix (fun _ _ _ _ => none) (z_X7_firstWith_2 σ) ez_N h0 x1 x2 (0 : Int32)
set_option maxRecDepth 100000 in
noncomputable def z_X11_cutAhead_86 (σ : ez_H) (k_5 : Nat → Int32 → Int32 → Int32 → Int32 → Option (Int32)) (h0 : Nat) (x1 : Int32) (x2 : Int32) (x3 : Int32) (x4 : Int32) : Option (Int32) :=
  ez_let (x4 + 1) fun t_86 =>
  k_5 h0 x1 x2 x3 t_86
set_option maxRecDepth 100000 in
noncomputable def z_X11_cutAhead_55 (σ : ez_H) (k_5 : Nat → Int32 → Int32 → Int32 → Int32 → Option (Int32)) (h0 : Nat) (x1 : Int32) (x2 : Int32) (x3 : Int32) (x4 : Int32) (x5 : Int32) (y0 : Int32) : Option (Int32) :=
  if y0 = (0 : Int32) then (
  z_X11_cutAhead_86 σ k_5 h0 x1 x2 x3 x4
  ) else (
  ez_bd (ez_gr σ 11 h0 5) fun t_63 =>
  ez_bd (ez_gr σ 11 h0 3) fun t_69 =>
  ez_bd (ez_gi σ 3 t_69 3) fun t_72 =>
  ez_bd (z_X7_firstWith σ t_63 x5 t_72) fun t_75 =>
  if t_75 = x4 then (
  ez_let (x3 + 1) fun t_83 =>
  z_X11_cutAhead_86 σ k_5 h0 x1 x2 t_83 x4
  ) else (
  z_X11_cutAhead_86 σ k_5 h0 x1 x2 x3 x4
  )
  )
set_option maxRecDepth 100000 in
noncomputable def z_X11_cutAhead_54 (σ : ez_H) (k_5 : Nat → Int32 → Int32 → Int32 → Int32 → Option (Int32)) (h0 : Nat) (x1 : Int32) (x2 : Int32) (x3 : Int32) (x4 : Int32) (x5 : Int32) : Option (Int32) :=
  z_X11_cutAhead_55 σ k_5 h0 x1 x2 x3 x4 x5 (0 : Int32)
set_option maxRecDepth 100000 in
noncomputable def z_X11_cutAhead_5 (σ : ez_H) (k_5 : Nat → Int32 → Int32 → Int32 → Int32 → Option (Int32)) (h0 : Nat) (x1 : Int32) (x2 : Int32) (x3 : Int32) (x4 : Int32) : Option (Int32) :=
  ez_bd (ez_gr σ 11 h0 3) fun t_8 =>
  ez_bd (ez_gi σ 3 t_8 3) fun t_11 =>
  if t_11 ≤ x4 then (
  some x3
  ) else (
  ez_bd (ez_gr σ 11 h0 5) fun t_18 =>
  ez_bd (z_X7_bits σ t_18 x4) fun t_23 =>
  ez_bd (z_X6_fitsIn σ t_23 x1) fun t_31 =>
  if t_31 = (0 : Int32) then (
  z_X11_cutAhead_54 σ k_5 h0 x1 x2 x3 x4 t_23
  ) else (
  ez_bd (ez_gr σ 11 h0 4) fun t_38 =>
  ez_bd (z_X6_numberOf σ t_38 t_23) fun t_43 =>
  if x2 ≤ t_43 then (
  z_X11_cutAhead_54 σ k_5 h0 x1 x2 x3 x4 t_23
  ) else (
  z_X11_cutAhead_55 σ k_5 h0 x1 x2 x3 x4 t_23 (1 : Int32)
  )
  )
  )
set_option maxRecDepth 100000 in
noncomputable def z_X11_cutAhead (σ : ez_H) (h0 : Nat) (x1 : Int32) (x2 : Int32) : Option (Int32) :=
  ez_bd (ez_ob σ 11 h0) fun _ =>
  ez_fix (fun _ _ _ _ _ => none) (z_X11_cutAhead_5 σ) ez_N h0 x1 x2 (0 : Int32) (0 : Int32)
set_option maxRecDepth 100000 in
noncomputable def z_X11_ghost_22 (σ : ez_H) : Option (Int32 × ez_H) :=
  some ((-1 : Int32), σ)
set_option maxRecDepth 100000 in
noncomputable def z_X11_ghost_112 (k_36 : ez_H → Nat → Int32 → Int32 → Int32 → Option (Int32 × ez_H)) (σ : ez_H) (h0 : Nat) (x2 : Int32) (x3 : Int32) (x4 : Int32) : Option (Int32 × ez_H) :=
  ez_let (x4 + 1) fun t_112 =>
  k_36 σ h0 x2 x3 t_112
set_option maxRecDepth 100000 in
noncomputable def z_X11_ghost_36 (k_36 : ez_H → Nat → Int32 → Int32 → Int32 → Option (Int32 × ez_H)) (σ : ez_H) (h0 : Nat) (x2 : Int32) (x3 : Int32) (x4 : Int32) : Option (Int32 × ez_H) :=
  ez_let (x2 + (8 : Int32)) fun t_41 =>
  if t_41 < x4 then (
  some ((-1 : Int32), σ)
  ) else (
  ez_bd (ez_gr σ 11 h0 4) fun t_46 =>
  ez_b2 (z_X6_nth σ t_46 x3 x4) fun t_52 σ =>
  if t_52 = (0 : Int32) then (
  some ((-1 : Int32), σ)
  ) else (
  ez_bd (ez_gr σ 11 h0 4) fun t_65 =>
  ez_bd (z_X6_numberOf σ t_65 t_52) fun t_70 =>
  ez_bd (ez_gr σ 11 h0 5) fun t_76 =>
  ez_bd (ez_gr σ 11 h0 3) fun t_82 =>
  ez_bd (ez_gi σ 3 t_82 3) fun t_85 =>
  ez_bd (z_X7_firstWith σ t_76 t_52 t_85) fun t_88 =>
  if t_88 = (-1 : Int32) then (
  ez_bd (z_X11_cutAhead σ h0 x3 t_70) fun t_101 =>
  ez_let (x4 - t_101) fun t_104 =>
  if t_104 = x2 then (
  some (t_70, σ)
  ) else (
  z_X11_ghost_112 k_36 σ h0 x2 x3 x4
  )
  ) else (
  z_X11_ghost_112 k_36 σ h0 x2 x3 x4
  )
  )
  )
set_option maxRecDepth 100000 in
noncomputable def z_X11_ghost (σ : ez_H) (h0 : Nat) (x1 : Int32) (x2 : Int32) : Option (Int32 × ez_H) :=
  ez_bd (ez_ob σ 11 h0) fun _ =>
  ez_bd (ez_gr σ 11 h0 3) fun t_1 =>
  ez_bd (z_X3_hasLock σ t_1 x1) fun t_5 =>
  if t_5 = (0 : Int32) then (
  z_X11_ghost_22  σ
  ) else (
  if x2 < (0 : Int32) then (
  z_X11_ghost_22  σ
  ) else (
  if x2 < (7776 : Int32) then (
  ez_bd (ez_gr σ 11 h0 5) fun t_25 =>
  ez_bd (z_X7_pins σ t_25 x1) fun t_29 =>
  ez_fix (fun _ _ _ _ _ => none) (z_X11_ghost_36 ) ez_N σ h0 x2 t_29 x2
  ) else (
  z_X11_ghost_22  σ
  )
  )
  )
set_option maxRecDepth 100000 in
noncomputable def z_X11_ghosts (σ : ez_H) (h0 : Nat) (x1 : Int32) : Option (Int32 × ez_H) :=
  ez_bd (ez_ob σ 11 h0) fun _ =>
  ez_bd (ez_gr σ 11 h0 3) fun t_1 =>
  ez_bd (z_X3_hasLock σ t_1 x1) fun t_5 =>
  if t_5 = (0 : Int32) then (
  some ((-1 : Int32), σ)
  ) else (
  ez_bd (ez_gr σ 11 h0 5) fun t_14 =>
  ez_bd (z_X7_pins σ t_14 x1) fun t_18 =>
  ez_bd (ez_gr σ 11 h0 4) fun t_23 =>
  ez_bd (ez_gr σ 11 h0 4) fun t_28 =>
  ez_bd (ez_gi σ 6 t_28 2) fun t_31 =>
  ez_b2 (z_X6_howMany σ t_23 t_18 t_31) fun t_34 σ =>
  ez_bd (z_X11_cutAhead σ h0 t_18 (7776 : Int32)) fun t_42 =>
  ez_let (t_34 - t_42) fun t_45 =>
  some (t_45, σ)
  )
set_option maxRecDepth 100000 in
noncomputable def z_X11_give_22 (σ : ez_H) : Option (Int32 × ez_H) :=
  some ((-3 : Int32), σ)
set_option maxRecDepth 100000 in
noncomputable def z_X11_give_45 (σ : ez_H) : Option (Int32 × ez_H) :=
  some ((-3 : Int32), σ)
set_option maxRecDepth 100000 in
noncomputable def z_X11_give_75 (σ : ez_H) (h0 : Nat) (x1 : Int32) (x2 : Int32) : Option (Int32 × ez_H) :=
  ez_b2 (z_X11_handOver σ h0 x1 x2) fun t_78 σ =>
  some (t_78, σ)
set_option maxRecDepth 100000 in
noncomputable def z_X11_give (σ : ez_H) (h0 : Nat) (x1 : Int32) (x2 : Int32) : Option (Int32 × ez_H) :=
  ez_bd (ez_ob σ 11 h0) fun _ =>
  ez_bd (ez_gr σ 11 h0 3) fun t_1 =>
  ez_bd (z_X3_hasKey σ t_1 x1) fun t_5 =>
  if t_5 = (0 : Int32) then (
  z_X11_give_22  σ
  ) else (
  ez_bd (ez_gr σ 11 h0 3) fun t_12 =>
  ez_bd (z_X3_hasPerson σ t_12 x2) fun t_16 =>
  if t_16 = (0 : Int32) then (
  z_X11_give_22  σ
  ) else (
  ez_bd (ez_gr σ 11 h0 5) fun t_26 =>
  ez_bd (z_X7_holder σ t_26 x1) fun t_30 =>
  if t_30 = x2 then (
  z_X11_give_45  σ
  ) else (
  if t_30 = (-2 : Int32) then (
  z_X11_give_45  σ
  ) else (
  if t_30 = (-1 : Int32) then (
  z_X11_give_75  σ h0 x1 x2
  ) else (
  ez_bd (ez_gr σ 11 h0 5) fun t_54 =>
  ez_bd (z_X7_room σ t_54 t_30) fun t_58 =>
  ez_bd (ez_gr σ 11 h0 5) fun t_62 =>
  ez_bd (z_X7_room σ t_62 x2) fun t_66 =>
  if t_58 = t_66 then (
  z_X11_give_75  σ h0 x1 x2
  ) else (
  some ((-3 : Int32), σ)
  )
  )
  )
  )
  )
  )
set_option maxRecDepth 100000 in
noncomputable def z_X11_hang_22 (σ : ez_H) : Option (Int32 × ez_H) :=
  some ((-3 : Int32), σ)
set_option maxRecDepth 100000 in
noncomputable def z_X11_hang (σ : ez_H) (h0 : Nat) (x1 : Int32) : Option (Int32 × ez_H) :=
  ez_bd (ez_ob σ 11 h0) fun _ =>
  ez_bd (ez_gr σ 11 h0 3) fun t_1 =>
  ez_bd (z_X3_hasKey σ t_1 x1) fun t_5 =>
  if t_5 = (0 : Int32) then (
  z_X11_hang_22  σ
  ) else (
  ez_bd (ez_gr σ 11 h0 5) fun t_12 =>
  ez_bd (z_X7_holder σ t_12 x1) fun t_16 =>
  if (0 : Int32) ≤ t_16 then (
  ez_b2 (z_X11_handOver σ h0 x1 (-1 : Int32)) fun t_28 σ =>
  some (t_28, σ)
  ) else (
  z_X11_hang_22  σ
  )
  )
set_option maxRecDepth 100000 in
noncomputable def z_X11_haunted_40 (k_6 : ez_H → Nat → Int32 → Int32 → Int32 → Option (Int32 × ez_H)) (σ : ez_H) (h0 : Nat) (x1 : Int32) (x2 : Int32) (x3 : Int32) : Option (Int32 × ez_H) :=
  ez_let (x3 + 1) fun t_40 =>
  k_6 σ h0 x1 x2 t_40
set_option maxRecDepth 100000 in
noncomputable def z_X11_haunted_35 (k_6 : ez_H → Nat → Int32 → Int32 → Int32 → Option (Int32 × ez_H)) (σ : ez_H) (h0 : Nat) (x3 : Int32) (x4 : Int32) : Option (Int32 × ez_H) :=
  z_X11_haunted_40 k_6 σ h0 x3 x4 x3
set_option maxRecDepth 100000 in
noncomputable def z_X11_haunted_6 (k_6 : ez_H → Nat → Int32 → Int32 → Int32 → Option (Int32 × ez_H)) (σ : ez_H) (h0 : Nat) (x1 : Int32) (x2 : Int32) (x3 : Int32) : Option (Int32 × ez_H) :=
  ez_bd (ez_gr σ 11 h0 3) fun t_8 =>
  ez_bd (ez_gi σ 3 t_8 4) fun t_11 =>
  if t_11 ≤ x3 then (
  some (x1, σ)
  ) else (
  ez_b2 (z_X11_ghosts σ h0 x3) fun t_19 σ =>
  if x1 = (-1 : Int32) then (
  z_X11_haunted_35 k_6 σ h0 x3 t_19
  ) else (
  if t_19 ≤ x2 then (
  z_X11_haunted_40 k_6 σ h0 x1 x2 x3
  ) else (
  z_X11_haunted_35 k_6 σ h0 x3 t_19
  )
  )
  )
set_option maxRecDepth 100000 in
noncomputable def z_X11_haunted (σ : ez_H) (h0 : Nat) : Option (Int32 × ez_H) :=
  ez_bd (ez_ob σ 11 h0) fun _ =>
  ez_fix (fun _ _ _ _ _ => none) (z_X11_haunted_6 ) ez_N σ h0 (-1 : Int32) (0 : Int32) (0 : Int32)
set_option maxRecDepth 100000 in
noncomputable def z_X11_idle (σ : ez_H) (h0 : Nat) (x1 : Int32) : Option (Int32) :=
  ez_bd (ez_ob σ 11 h0) fun _ =>
  if x1 = 0 then (
  ez_bd (ez_gr σ 11 h0 5) fun t_29 =>
  ez_bd (ez_gr σ 11 h0 3) fun t_34 =>
  ez_bd (ez_gi σ 3 t_34 3) fun t_37 =>
  ez_bd (z_X7_heldBy σ t_29 (-1 : Int32) t_37) fun t_40 =>
  some t_40
  ) else (
  if x1 = 1 then (
  ez_bd (ez_gr σ 11 h0 5) fun t_45 =>
  ez_bd (ez_gr σ 11 h0 3) fun t_51 =>
  ez_bd (ez_gi σ 3 t_51 3) fun t_54 =>
  ez_bd (z_X7_heldBy σ t_45 (-2 : Int32) t_54) fun t_57 =>
  some t_57
  ) else (
  some (-1 : Int32)
  ))
set_option maxRecDepth 100000 in
noncomputable def z_X11_image_9 (σ : ez_H) : Option (Int32 × ez_H) :=
  some ((-1 : Int32), σ)
set_option maxRecDepth 100000 in
noncomputable def z_X11_image (σ : ez_H) (h0 : Nat) (x1 : Int32) : Option (Int32 × ez_H) :=
  ez_bd (ez_ob σ 11 h0) fun _ =>
  if x1 < (0 : Int32) then (
  z_X11_image_9  σ
  ) else (
  if x1 < (3 : Int32) then (
  ez_bd (ez_gr σ 11 h0 8) fun t_12 =>
  ez_bd (ez_ra σ 4 t_12 x1) fun t_16 =>
  ez_bd (ez_gr σ 11 h0 5) fun t_18 =>
  ez_b2 (z_X7_copyFrom σ t_16 t_18) fun _ σ =>
  ez_bd (ez_gi σ 11 h0 9) fun t_26 =>
  ez_let ((1 : Int32) <<< (x1 &&& 31)) fun t_31 =>
  ez_let (t_26 ||| t_31) fun t_32 =>
  ez_bd (ez_pf σ 11 h0 9 (.inl t_32)) fun σ =>
  ez_bd (ez_gr σ 11 h0 5) fun t_37 =>
  ez_bd (ez_gr σ 11 h0 3) fun t_43 =>
  ez_bd (ez_gi σ 3 t_43 3) fun t_46 =>
  ez_bd (z_X7_heldBy σ t_37 (-2 : Int32) t_46) fun t_49 =>
  ez_bd (z_J6_bitCount_0f7a4 σ t_49) fun t_52 =>
  some (t_52, σ)
  ) else (
  z_X11_image_9  σ
  )
  )
