def ez_sc (L : Nat) (xs : Nat → Int32) (i : Int32) : Option Int32 := bif ez_inb i L then some (xs (ez_ix i)) else none
set_option maxRecDepth 100000 in
noncomputable def z_law_1998 (L : Nat) (xs : Nat → Int32) (k_18 : ez_H → Nat → Nat → Int32 → Option (Int32 × ez_H)) (σ : ez_H) (h1 : Nat) (h2 : Nat) (x3 : Int32) : Option (Int32 × ez_H) :=
  ez_let (x3 + 6) fun t_1998 =>
  k_18 σ h1 h2 t_1998
set_option maxRecDepth 100000 in
noncomputable def z_law_1787 (L : Nat) (xs : Nat → Int32) (k_18 : ez_H → Nat → Nat → Int32 → Option (Int32 × ez_H)) (σ : ez_H) (h1 : Nat) (h2 : Nat) (x3 : Int32) (y0 : Nat) (y1 : Int32) (y2 : Int32) : Option (Int32 × ez_H) :=
  ez_b2 (z_X12_tried σ y0 y1 y2) fun t_1787 σ =>
  z_law_1998 L xs k_18 σ h1 h2 x3
set_option maxRecDepth 100000 in
noncomputable def z_law_1764 (L : Nat) (xs : Nat → Int32) (k_18 : ez_H → Nat → Nat → Int32 → Option (Int32 × ez_H)) (σ : ez_H) (h1 : Nat) (h2 : Nat) (x3 : Int32) (y0 : Nat) (y1 : Int32) (y2 : Int32) : Option (Int32 × ez_H) :=
  ez_b2 (z_X11_tried σ y0 y1 y2) fun t_1764 σ =>
  ez_let (x3 + (1 : Int32)) fun t_1772 =>
  ez_bd (ez_sc L xs t_1772) fun t_1773 =>
  ez_let (x3 + (2 : Int32)) fun t_1777 =>
  ez_bd (ez_sc L xs t_1777) fun t_1778 =>
  if t_1778 = (0 : Int32) then (
  z_law_1787 L xs k_18 σ h1 h2 x3 h2 t_1773 (0 : Int32)
  ) else (
  z_law_1787 L xs k_18 σ h1 h2 x3 h2 t_1773 (1 : Int32)
  )
set_option maxRecDepth 100000 in
noncomputable def z_law_18 (L : Nat) (xs : Nat → Int32) (k_18 : ez_H → Nat → Nat → Int32 → Option (Int32 × ez_H)) (σ : ez_H) (h1 : Nat) (h2 : Nat) (x3 : Int32) : Option (Int32 × ez_H) :=
  ez_let (Int32.ofNat L) fun t_20 =>
  ez_let (t_20 - (6 : Int32)) fun t_23 =>
  if t_23 < x3 then (
  some ((1 : Int32), σ)
  ) else (
  ez_bd (ez_sc L xs x3) fun t_29 =>
  ez_let (t_29 &&& (63 : Int32)) fun t_32 =>
  if t_32 = 0 then (
  ez_let (x3 + (1 : Int32)) fun t_300 =>
  ez_bd (ez_sc L xs t_300) fun t_301 =>
  ez_let (x3 + (2 : Int32)) fun t_305 =>
  ez_bd (ez_sc L xs t_305) fun t_306 =>
  ez_let (x3 + (3 : Int32)) fun t_310 =>
  ez_bd (ez_sc L xs t_310) fun t_311 =>
  ez_let (x3 + (4 : Int32)) fun t_315 =>
  ez_bd (ez_sc L xs t_315) fun t_316 =>
  ez_let (x3 + (5 : Int32)) fun t_320 =>
  ez_bd (ez_sc L xs t_320) fun t_321 =>
  ez_b2 (z_X11_feed σ h1 t_301 t_306 t_311 t_316 t_321) fun t_322 σ =>
  ez_let (x3 + (1 : Int32)) fun t_330 =>
  ez_bd (ez_sc L xs t_330) fun t_331 =>
  ez_let (x3 + (2 : Int32)) fun t_335 =>
  ez_bd (ez_sc L xs t_335) fun t_336 =>
  ez_let (x3 + (3 : Int32)) fun t_340 =>
  ez_bd (ez_sc L xs t_340) fun t_341 =>
  ez_let (x3 + (4 : Int32)) fun t_345 =>
  ez_bd (ez_sc L xs t_345) fun t_346 =>
  ez_let (x3 + (5 : Int32)) fun t_350 =>
  ez_bd (ez_sc L xs t_350) fun t_351 =>
  ez_b2 (z_X12_feed σ h2 t_331 t_336 t_341 t_346 t_351) fun t_352 σ =>
  z_law_1998 L xs k_18 σ h1 h2 x3
  ) else (
  if t_32 = 1 then (
  ez_let (x3 + (1 : Int32)) fun t_363 =>
  ez_bd (ez_sc L xs t_363) fun t_364 =>
  ez_b2 (z_X11_end σ h1 t_364) fun t_365 σ =>
  ez_let (x3 + (1 : Int32)) fun t_373 =>
  ez_bd (ez_sc L xs t_373) fun t_374 =>
  ez_b2 (z_X12_end σ h2 t_374) fun t_375 σ =>
  z_law_1998 L xs k_18 σ h1 h2 x3
  ) else (
  if t_32 = 2 then (
  ez_b2 (z_X11_plan σ h1) fun t_383 σ =>
  ez_b2 (z_X12_plan σ h2) fun t_388 σ =>
  z_law_1998 L xs k_18 σ h1 h2 x3
  ) else (
  if t_32 = 3 then (
  ez_let (x3 + (1 : Int32)) fun t_399 =>
  ez_bd (ez_sc L xs t_399) fun t_400 =>
  ez_bd (z_X11_fault σ h1 t_400) fun t_401 =>
  ez_let (x3 + (1 : Int32)) fun t_409 =>
  ez_bd (ez_sc L xs t_409) fun t_410 =>
  ez_bd (z_X12_fault σ h2 t_410) fun t_411 =>
  z_law_1998 L xs k_18 σ h1 h2 x3
  ) else (
  if t_32 = 4 then (
  ez_let (x3 + (1 : Int32)) fun t_422 =>
  ez_bd (ez_sc L xs t_422) fun t_423 =>
  ez_let (x3 + (2 : Int32)) fun t_427 =>
  ez_bd (ez_sc L xs t_427) fun t_428 =>
  ez_bd (z_X11_key σ h1 t_423 t_428) fun t_429 =>
  ez_let (x3 + (1 : Int32)) fun t_437 =>
  ez_bd (ez_sc L xs t_437) fun t_438 =>
  ez_let (x3 + (2 : Int32)) fun t_442 =>
  ez_bd (ez_sc L xs t_442) fun t_443 =>
  ez_bd (z_X12_key σ h2 t_438 t_443) fun t_444 =>
  z_law_1998 L xs k_18 σ h1 h2 x3
  ) else (
  if t_32 = 5 then (
  ez_let (x3 + (1 : Int32)) fun t_455 =>
  ez_bd (ez_sc L xs t_455) fun t_456 =>
  ez_let (x3 + (2 : Int32)) fun t_460 =>
  ez_bd (ez_sc L xs t_460) fun t_461 =>
  ez_bd (z_X11_cut σ h1 t_456 t_461) fun t_462 =>
  ez_let (x3 + (1 : Int32)) fun t_470 =>
  ez_bd (ez_sc L xs t_470) fun t_471 =>
  ez_let (x3 + (2 : Int32)) fun t_475 =>
  ez_bd (ez_sc L xs t_475) fun t_476 =>
  ez_bd (z_X12_cut σ h2 t_471 t_476) fun t_477 =>
  z_law_1998 L xs k_18 σ h1 h2 x3
  ) else (
  if t_32 = 6 then (
  ez_let (x3 + (1 : Int32)) fun t_488 =>
  ez_bd (ez_sc L xs t_488) fun t_489 =>
  ez_let (x3 + (2 : Int32)) fun t_493 =>
  ez_bd (ez_sc L xs t_493) fun t_494 =>
  ez_bd (z_X11_lock σ h1 t_489 t_494) fun t_495 =>
  ez_let (x3 + (1 : Int32)) fun t_503 =>
  ez_bd (ez_sc L xs t_503) fun t_504 =>
  ez_let (x3 + (2 : Int32)) fun t_508 =>
  ez_bd (ez_sc L xs t_508) fun t_509 =>
  ez_bd (z_X12_lock σ h2 t_504 t_509) fun t_510 =>
  z_law_1998 L xs k_18 σ h1 h2 x3
  ) else (
  if t_32 = 7 then (
  ez_let (x3 + (1 : Int32)) fun t_521 =>
  ez_bd (ez_sc L xs t_521) fun t_522 =>
  ez_let (x3 + (2 : Int32)) fun t_526 =>
  ez_bd (ez_sc L xs t_526) fun t_527 =>
  ez_bd (z_X11_parts σ h1 t_522 t_527) fun t_528 =>
  ez_let (x3 + (1 : Int32)) fun t_536 =>
  ez_bd (ez_sc L xs t_536) fun t_537 =>
  ez_let (x3 + (2 : Int32)) fun t_541 =>
  ez_bd (ez_sc L xs t_541) fun t_542 =>
  ez_bd (z_X12_parts σ h2 t_537 t_542) fun t_543 =>
  z_law_1998 L xs k_18 σ h1 h2 x3
  ) else (
  if t_32 = 8 then (
  ez_let (x3 + (1 : Int32)) fun t_554 =>
  ez_bd (ez_sc L xs t_554) fun t_555 =>
  ez_let (x3 + (2 : Int32)) fun t_559 =>
  ez_bd (ez_sc L xs t_559) fun t_560 =>
  ez_bd (z_X11_door σ h1 t_555 t_560) fun t_561 =>
  ez_let (x3 + (1 : Int32)) fun t_569 =>
  ez_bd (ez_sc L xs t_569) fun t_570 =>
  ez_let (x3 + (2 : Int32)) fun t_574 =>
  ez_bd (ez_sc L xs t_574) fun t_575 =>
  ez_bd (z_X12_door σ h2 t_570 t_575) fun t_576 =>
  z_law_1998 L xs k_18 σ h1 h2 x3
  ) else (
  if t_32 = 9 then (
  ez_let (x3 + (1 : Int32)) fun t_587 =>
  ez_bd (ez_sc L xs t_587) fun t_588 =>
  ez_let (x3 + (2 : Int32)) fun t_592 =>
  ez_bd (ez_sc L xs t_592) fun t_593 =>
  ez_bd (z_X11_person σ h1 t_588 t_593) fun t_594 =>
  ez_let (x3 + (1 : Int32)) fun t_602 =>
  ez_bd (ez_sc L xs t_602) fun t_603 =>
  ez_let (x3 + (2 : Int32)) fun t_607 =>
  ez_bd (ez_sc L xs t_607) fun t_608 =>
  ez_bd (z_X12_person σ h2 t_603 t_608) fun t_609 =>
  z_law_1998 L xs k_18 σ h1 h2 x3
  ) else (
  if t_32 = 10 then (
  ez_let (x3 + (1 : Int32)) fun t_620 =>
  ez_bd (ez_sc L xs t_620) fun t_621 =>
  ez_let (x3 + (2 : Int32)) fun t_625 =>
  ez_bd (ez_sc L xs t_625) fun t_626 =>
  ez_bd (z_X11_opens σ h1 t_621 t_626) fun t_627 =>
  ez_let (x3 + (1 : Int32)) fun t_635 =>
  ez_bd (ez_sc L xs t_635) fun t_636 =>
  ez_let (x3 + (2 : Int32)) fun t_640 =>
  ez_bd (ez_sc L xs t_640) fun t_641 =>
  ez_bd (z_X12_opens σ h2 t_636 t_641) fun t_642 =>
  z_law_1998 L xs k_18 σ h1 h2 x3
  ) else (
  if t_32 = 11 then (
  ez_let (x3 + (1 : Int32)) fun t_653 =>
  ez_bd (ez_sc L xs t_653) fun t_654 =>
  ez_let (x3 + (2 : Int32)) fun t_658 =>
  ez_bd (ez_sc L xs t_658) fun t_659 =>
  ez_b2 (z_X11_walk σ h1 t_654 t_659) fun t_660 σ =>
  ez_let (x3 + (1 : Int32)) fun t_668 =>
  ez_bd (ez_sc L xs t_668) fun t_669 =>
  ez_let (x3 + (2 : Int32)) fun t_673 =>
  ez_bd (ez_sc L xs t_673) fun t_674 =>
  ez_b2 (z_X12_walk σ h2 t_669 t_674) fun t_675 σ =>
  z_law_1998 L xs k_18 σ h1 h2 x3
  ) else (
  if t_32 = 12 then (
  ez_let (x3 + (1 : Int32)) fun t_686 =>
  ez_bd (ez_sc L xs t_686) fun t_687 =>
  ez_let (x3 + (2 : Int32)) fun t_691 =>
  ez_bd (ez_sc L xs t_691) fun t_692 =>
  ez_b2 (z_X11_give σ h1 t_687 t_692) fun t_693 σ =>
  ez_let (x3 + (1 : Int32)) fun t_701 =>
  ez_bd (ez_sc L xs t_701) fun t_702 =>
  ez_let (x3 + (2 : Int32)) fun t_706 =>
  ez_bd (ez_sc L xs t_706) fun t_707 =>
  ez_b2 (z_X12_give σ h2 t_702 t_707) fun t_708 σ =>
  z_law_1998 L xs k_18 σ h1 h2 x3
  ) else (
  if t_32 = 13 then (
  ez_let (x3 + (1 : Int32)) fun t_719 =>
  ez_bd (ez_sc L xs t_719) fun t_720 =>
  ez_b2 (z_X11_hang σ h1 t_720) fun t_721 σ =>
  ez_let (x3 + (1 : Int32)) fun t_729 =>
  ez_bd (ez_sc L xs t_729) fun t_730 =>
  ez_b2 (z_X12_hang σ h2 t_730) fun t_731 σ =>
  z_law_1998 L xs k_18 σ h1 h2 x3
  ) else (
  if t_32 = 14 then (
  ez_let (x3 + (1 : Int32)) fun t_742 =>
  ez_bd (ez_sc L xs t_742) fun t_743 =>
  ez_b2 (z_X11_lose σ h1 t_743) fun t_744 σ =>
  ez_let (x3 + (1 : Int32)) fun t_752 =>
  ez_bd (ez_sc L xs t_752) fun t_753 =>
  ez_b2 (z_X12_lose σ h2 t_753) fun t_754 σ =>
  z_law_1998 L xs k_18 σ h1 h2 x3
  ) else (
  if t_32 = 15 then (
  ez_let (x3 + (1 : Int32)) fun t_765 =>
  ez_bd (ez_sc L xs t_765) fun t_766 =>
  ez_let (x3 + (2 : Int32)) fun t_770 =>
  ez_bd (ez_sc L xs t_770) fun t_771 =>
  ez_b2 (z_X11_find σ h1 t_766 t_771) fun t_772 σ =>
  ez_let (x3 + (1 : Int32)) fun t_780 =>
  ez_bd (ez_sc L xs t_780) fun t_781 =>
  ez_let (x3 + (2 : Int32)) fun t_785 =>
  ez_bd (ez_sc L xs t_785) fun t_786 =>
  ez_b2 (z_X12_find σ h2 t_781 t_786) fun t_787 σ =>
  z_law_1998 L xs k_18 σ h1 h2 x3
  ) else (
  if t_32 = 16 then (
  ez_let (x3 + (1 : Int32)) fun t_798 =>
  ez_bd (ez_sc L xs t_798) fun t_799 =>
  ez_let (x3 + (2 : Int32)) fun t_803 =>
  ez_bd (ez_sc L xs t_803) fun t_804 =>
  ez_b2 (z_X11_file σ h1 t_799 t_804) fun t_805 σ =>
  ez_let (x3 + (1 : Int32)) fun t_813 =>
  ez_bd (ez_sc L xs t_813) fun t_814 =>
  ez_let (x3 + (2 : Int32)) fun t_818 =>
  ez_bd (ez_sc L xs t_818) fun t_819 =>
  ez_b2 (z_X12_file σ h2 t_814 t_819) fun t_820 σ =>
  z_law_1998 L xs k_18 σ h1 h2 x3
  ) else (
  if t_32 = 17 then (
  ez_let (x3 + (1 : Int32)) fun t_831 =>
  ez_bd (ez_sc L xs t_831) fun t_832 =>
  ez_let (x3 + (2 : Int32)) fun t_836 =>
  ez_bd (ez_sc L xs t_836) fun t_837 =>
  ez_b2 (z_X11_recut σ h1 t_832 t_837) fun t_838 σ =>
  ez_let (x3 + (1 : Int32)) fun t_846 =>
  ez_bd (ez_sc L xs t_846) fun t_847 =>
  ez_let (x3 + (2 : Int32)) fun t_851 =>
  ez_bd (ez_sc L xs t_851) fun t_852 =>
  ez_b2 (z_X12_recut σ h2 t_847 t_852) fun t_853 σ =>
  z_law_1998 L xs k_18 σ h1 h2 x3
  ) else (
  if t_32 = 18 then (
  ez_let (x3 + (1 : Int32)) fun t_864 =>
  ez_bd (ez_sc L xs t_864) fun t_865 =>
  ez_let (x3 + (2 : Int32)) fun t_869 =>
  ez_bd (ez_sc L xs t_869) fun t_870 =>
  ez_b2 (z_X11_pin σ h1 t_865 t_870) fun t_871 σ =>
  ez_let (x3 + (1 : Int32)) fun t_879 =>
  ez_bd (ez_sc L xs t_879) fun t_880 =>
  ez_let (x3 + (2 : Int32)) fun t_884 =>
  ez_bd (ez_sc L xs t_884) fun t_885 =>
  ez_b2 (z_X12_pin σ h2 t_880 t_885) fun t_886 σ =>
  z_law_1998 L xs k_18 σ h1 h2 x3
  ) else (
  if t_32 = 19 then (
  ez_let (x3 + (1 : Int32)) fun t_897 =>
  ez_bd (ez_sc L xs t_897) fun t_898 =>
  ez_let (x3 + (2 : Int32)) fun t_902 =>
  ez_bd (ez_sc L xs t_902) fun t_903 =>
  ez_let (x3 + (3 : Int32)) fun t_907 =>
  ez_bd (ez_sc L xs t_907) fun t_908 =>
  ez_b2 (z_X11_part σ h1 t_898 t_903 t_908) fun t_909 σ =>
  ez_let (x3 + (1 : Int32)) fun t_917 =>
  ez_bd (ez_sc L xs t_917) fun t_918 =>
  ez_let (x3 + (2 : Int32)) fun t_922 =>
  ez_bd (ez_sc L xs t_922) fun t_923 =>
  ez_let (x3 + (3 : Int32)) fun t_927 =>
  ez_bd (ez_sc L xs t_927) fun t_928 =>
  ez_b2 (z_X12_part σ h2 t_918 t_923 t_928) fun t_929 σ =>
  z_law_1998 L xs k_18 σ h1 h2 x3
  ) else (
  if t_32 = 20 then (
  ez_b2 (z_X11_undo σ h1) fun t_937 σ =>
  ez_b2 (z_X12_undo σ h2) fun t_942 σ =>
  z_law_1998 L xs k_18 σ h1 h2 x3
  ) else (
  if t_32 = 21 then (
  ez_b2 (z_X11_redo σ h1) fun t_950 σ =>
  ez_b2 (z_X12_redo σ h2) fun t_955 σ =>
  z_law_1998 L xs k_18 σ h1 h2 x3
  ) else (
  if t_32 = 22 then (
  ez_b2 (z_X11_legal σ h1) fun t_963 σ =>
  ez_bd (z_X12_legal σ h2) fun t_968 =>
  z_law_1998 L xs k_18 σ h1 h2 x3
  ) else (
  if t_32 = 23 then (
  ez_let (x3 + (1 : Int32)) fun t_979 =>
  ez_bd (ez_sc L xs t_979) fun t_980 =>
  ez_b2 (z_X11_bitting σ h1 t_980) fun t_981 σ =>
  ez_let (x3 + (1 : Int32)) fun t_989 =>
  ez_bd (ez_sc L xs t_989) fun t_990 =>
  ez_bd (z_X12_bitting σ h2 t_990) fun t_991 =>
  z_law_1998 L xs k_18 σ h1 h2 x3
  ) else (
  if t_32 = 24 then (
  ez_let (x3 + (1 : Int32)) fun t_1002 =>
  ez_bd (ez_sc L xs t_1002) fun t_1003 =>
  ez_b2 (z_X11_rank σ h1 t_1003) fun t_1004 σ =>
  ez_let (x3 + (1 : Int32)) fun t_1012 =>
  ez_bd (ez_sc L xs t_1012) fun t_1013 =>
  ez_bd (z_X12_rank σ h2 t_1013) fun t_1014 =>
  z_law_1998 L xs k_18 σ h1 h2 x3
  ) else (
  if t_32 = 25 then (
  ez_let (x3 + (1 : Int32)) fun t_1025 =>
  ez_bd (ez_sc L xs t_1025) fun t_1026 =>
  ez_b2 (z_X11_ghosts σ h1 t_1026) fun t_1027 σ =>
  ez_let (x3 + (1 : Int32)) fun t_1035 =>
  ez_bd (ez_sc L xs t_1035) fun t_1036 =>
  ez_bd (z_X12_ghosts σ h2 t_1036) fun t_1037 =>
  z_law_1998 L xs k_18 σ h1 h2 x3
  ) else (
  if t_32 = 26 then (
  ez_let (x3 + (1 : Int32)) fun t_1048 =>
  ez_bd (ez_sc L xs t_1048) fun t_1049 =>
  ez_let (x3 + (2 : Int32)) fun t_1053 =>
  ez_bd (ez_sc L xs t_1053) fun t_1054 =>
  ez_b2 (z_X11_ghost σ h1 t_1049 t_1054) fun t_1055 σ =>
  ez_let (x3 + (1 : Int32)) fun t_1063 =>
  ez_bd (ez_sc L xs t_1063) fun t_1064 =>
  ez_let (x3 + (2 : Int32)) fun t_1068 =>
  ez_bd (ez_sc L xs t_1068) fun t_1069 =>
  ez_bd (z_X12_ghost σ h2 t_1064 t_1069) fun t_1070 =>
  z_law_1998 L xs k_18 σ h1 h2 x3
  ) else (
  if t_32 = 27 then (
  ez_let (x3 + (1 : Int32)) fun t_1081 =>
  ez_bd (ez_sc L xs t_1081) fun t_1082 =>
  ez_let (x3 + (2 : Int32)) fun t_1086 =>
  ez_bd (ez_sc L xs t_1086) fun t_1087 =>
  ez_b2 (z_X11_common σ h1 t_1082 t_1087) fun t_1088 σ =>
  ez_let (x3 + (1 : Int32)) fun t_1096 =>
  ez_bd (ez_sc L xs t_1096) fun t_1097 =>
  ez_let (x3 + (2 : Int32)) fun t_1101 =>
  ez_bd (ez_sc L xs t_1101) fun t_1102 =>
  ez_bd (z_X12_common σ h2 t_1097 t_1102) fun t_1103 =>
  z_law_1998 L xs k_18 σ h1 h2 x3
  ) else (
  if t_32 = 28 then (
  ez_let (x3 + (1 : Int32)) fun t_1114 =>
  ez_bd (ez_sc L xs t_1114) fun t_1115 =>
  ez_b2 (z_X11_master σ h1 t_1115) fun t_1116 σ =>
  ez_let (x3 + (1 : Int32)) fun t_1124 =>
  ez_bd (ez_sc L xs t_1124) fun t_1125 =>
  ez_bd (z_X12_master σ h2 t_1125) fun t_1126 =>
  z_law_1998 L xs k_18 σ h1 h2 x3
  ) else (
  if t_32 = 29 then (
  ez_let (x3 + (1 : Int32)) fun t_1137 =>
  ez_bd (ez_sc L xs t_1137) fun t_1138 =>
  ez_let (x3 + (2 : Int32)) fun t_1142 =>
  ez_bd (ez_sc L xs t_1142) fun t_1143 =>
  ez_b2 (z_X11_cutFor σ h1 t_1138 t_1143) fun t_1144 σ =>
  ez_let (x3 + (1 : Int32)) fun t_1152 =>
  ez_bd (ez_sc L xs t_1152) fun t_1153 =>
  ez_let (x3 + (2 : Int32)) fun t_1157 =>
  ez_bd (ez_sc L xs t_1157) fun t_1158 =>
  ez_bd (z_X12_cutFor σ h2 t_1153 t_1158) fun t_1159 =>
  z_law_1998 L xs k_18 σ h1 h2 x3
  ) else (
  if t_32 = 30 then (
  ez_let (x3 + (1 : Int32)) fun t_1170 =>
  ez_bd (ez_sc L xs t_1170) fun t_1171 =>
  ez_let (x3 + (2 : Int32)) fun t_1175 =>
  ez_bd (ez_sc L xs t_1175) fun t_1176 =>
  ez_let (x3 + (3 : Int32)) fun t_1180 =>
  ez_bd (ez_sc L xs t_1180) fun t_1181 =>
  ez_b2 (z_X11_filing σ h1 t_1171 t_1176 t_1181) fun t_1182 σ =>
  ez_let (x3 + (1 : Int32)) fun t_1190 =>
  ez_bd (ez_sc L xs t_1190) fun t_1191 =>
  ez_let (x3 + (2 : Int32)) fun t_1195 =>
  ez_bd (ez_sc L xs t_1195) fun t_1196 =>
  ez_let (x3 + (3 : Int32)) fun t_1200 =>
  ez_bd (ez_sc L xs t_1200) fun t_1201 =>
  ez_bd (z_X12_filing σ h2 t_1191 t_1196 t_1201) fun t_1202 =>
  z_law_1998 L xs k_18 σ h1 h2 x3
  ) else (
  if t_32 = 31 then (
  ez_let (x3 + (1 : Int32)) fun t_1213 =>
  ez_bd (ez_sc L xs t_1213) fun t_1214 =>
  ez_bd (z_X11_broken σ h1 t_1214) fun t_1215 =>
  ez_let (x3 + (1 : Int32)) fun t_1223 =>
  ez_bd (ez_sc L xs t_1223) fun t_1224 =>
  ez_bd (z_X12_broken σ h2 t_1224) fun t_1225 =>
  z_law_1998 L xs k_18 σ h1 h2 x3
  ) else (
  if t_32 = 32 then (
  ez_let (x3 + (1 : Int32)) fun t_1236 =>
  ez_bd (ez_sc L xs t_1236) fun t_1237 =>
  ez_bd (z_X11_strays σ h1 t_1237) fun t_1238 =>
  ez_let (x3 + (1 : Int32)) fun t_1246 =>
  ez_bd (ez_sc L xs t_1246) fun t_1247 =>
  ez_b2 (z_X12_strays σ h2 t_1247) fun t_1248 σ =>
  z_law_1998 L xs k_18 σ h1 h2 x3
  ) else (
  if t_32 = 33 then (
  ez_let (x3 + (1 : Int32)) fun t_1259 =>
  ez_bd (ez_sc L xs t_1259) fun t_1260 =>
  ez_b2 (z_X11_keeps σ h1 t_1260) fun t_1261 σ =>
  ez_let (x3 + (1 : Int32)) fun t_1269 =>
  ez_bd (ez_sc L xs t_1269) fun t_1270 =>
  ez_b2 (z_X12_keeps σ h2 t_1270) fun t_1271 σ =>
  z_law_1998 L xs k_18 σ h1 h2 x3
  ) else (
  if t_32 = 34 then (
  ez_let (x3 + (1 : Int32)) fun t_1282 =>
  ez_bd (ez_sc L xs t_1282) fun t_1283 =>
  ez_bd (z_X11_leftOver σ h1 t_1283) fun t_1284 =>
  ez_let (x3 + (1 : Int32)) fun t_1292 =>
  ez_bd (ez_sc L xs t_1292) fun t_1293 =>
  ez_b2 (z_X12_leftOver σ h2 t_1293) fun t_1294 σ =>
  z_law_1998 L xs k_18 σ h1 h2 x3
  ) else (
  if t_32 = 35 then (
  ez_let (x3 + (1 : Int32)) fun t_1305 =>
  ez_bd (ez_sc L xs t_1305) fun t_1306 =>
  ez_let (x3 + (2 : Int32)) fun t_1310 =>
  ez_bd (ez_sc L xs t_1310) fun t_1311 =>
  ez_b2 (z_X11_route σ h1 t_1306 t_1311) fun t_1312 σ =>
  ez_let (x3 + (1 : Int32)) fun t_1320 =>
  ez_bd (ez_sc L xs t_1320) fun t_1321 =>
  ez_let (x3 + (2 : Int32)) fun t_1325 =>
  ez_bd (ez_sc L xs t_1325) fun t_1326 =>
  ez_b2 (z_X12_route σ h2 t_1321 t_1326) fun t_1327 σ =>
  z_law_1998 L xs k_18 σ h1 h2 x3
  ) else (
  if t_32 = 36 then (
  ez_let (x3 + (1 : Int32)) fun t_1338 =>
  ez_bd (ez_sc L xs t_1338) fun t_1339 =>
  ez_let (x3 + (2 : Int32)) fun t_1343 =>
  ez_bd (ez_sc L xs t_1343) fun t_1344 =>
  ez_let (x3 + (3 : Int32)) fun t_1348 =>
  ez_bd (ez_sc L xs t_1348) fun t_1349 =>
  ez_bd (z_X11_bunch σ h1 t_1339 t_1344 t_1349) fun t_1350 =>
  ez_let (x3 + (1 : Int32)) fun t_1358 =>
  ez_bd (ez_sc L xs t_1358) fun t_1359 =>
  ez_let (x3 + (2 : Int32)) fun t_1363 =>
  ez_bd (ez_sc L xs t_1363) fun t_1364 =>
  ez_let (x3 + (3 : Int32)) fun t_1368 =>
  ez_bd (ez_sc L xs t_1368) fun t_1369 =>
  ez_bd (z_X12_bunch σ h2 t_1359 t_1364 t_1369) fun t_1370 =>
  z_law_1998 L xs k_18 σ h1 h2 x3
  ) else (
  if t_32 = 37 then (
  ez_let (x3 + (1 : Int32)) fun t_1381 =>
  ez_bd (ez_sc L xs t_1381) fun t_1382 =>
  ez_b2 (z_X11_together σ h1 t_1382) fun t_1383 σ =>
  ez_let (x3 + (1 : Int32)) fun t_1391 =>
  ez_bd (ez_sc L xs t_1391) fun t_1392 =>
  ez_b2 (z_X12_together σ h2 t_1392) fun t_1393 σ =>
  z_law_1998 L xs k_18 σ h1 h2 x3
  ) else (
  if t_32 = 38 then (
  ez_let (x3 + (1 : Int32)) fun t_1404 =>
  ez_bd (ez_sc L xs t_1404) fun t_1405 =>
  ez_bd (z_X11_comers σ h1 t_1405) fun t_1406 =>
  ez_let (x3 + (1 : Int32)) fun t_1414 =>
  ez_bd (ez_sc L xs t_1414) fun t_1415 =>
  ez_bd (z_X12_comers σ h2 t_1415) fun t_1416 =>
  z_law_1998 L xs k_18 σ h1 h2 x3
  ) else (
  if t_32 = 39 then (
  ez_let (x3 + (1 : Int32)) fun t_1427 =>
  ez_bd (ez_sc L xs t_1427) fun t_1428 =>
  ez_let (x3 + (2 : Int32)) fun t_1432 =>
  ez_bd (ez_sc L xs t_1432) fun t_1433 =>
  ez_let (x3 + (3 : Int32)) fun t_1437 =>
  ez_bd (ez_sc L xs t_1437) fun t_1438 =>
  ez_bd (z_X11_trade σ h1 t_1428 t_1433 t_1438) fun t_1439 =>
  ez_let (x3 + (1 : Int32)) fun t_1447 =>
  ez_bd (ez_sc L xs t_1447) fun t_1448 =>
  ez_let (x3 + (2 : Int32)) fun t_1452 =>
  ez_bd (ez_sc L xs t_1452) fun t_1453 =>
  ez_let (x3 + (3 : Int32)) fun t_1457 =>
  ez_bd (ez_sc L xs t_1457) fun t_1458 =>
  ez_bd (z_X12_trade σ h2 t_1448 t_1453 t_1458) fun t_1459 =>
  z_law_1998 L xs k_18 σ h1 h2 x3
  ) else (
  if t_32 = 40 then (
  ez_let (x3 + (1 : Int32)) fun t_1470 =>
  ez_bd (ez_sc L xs t_1470) fun t_1471 =>
  ez_let (x3 + (2 : Int32)) fun t_1475 =>
  ez_bd (ez_sc L xs t_1475) fun t_1476 =>
  ez_bd (z_X11_span σ h1 t_1471 t_1476) fun t_1477 =>
  ez_let (x3 + (1 : Int32)) fun t_1485 =>
  ez_bd (ez_sc L xs t_1485) fun t_1486 =>
  ez_let (x3 + (2 : Int32)) fun t_1490 =>
  ez_bd (ez_sc L xs t_1490) fun t_1491 =>
  ez_bd (z_X12_span σ h2 t_1486 t_1491) fun t_1492 =>
  z_law_1998 L xs k_18 σ h1 h2 x3
  ) else (
  if t_32 = 41 then (
  ez_let (x3 + (1 : Int32)) fun t_1503 =>
  ez_bd (ez_sc L xs t_1503) fun t_1504 =>
  ez_bd (z_X11_twin σ h1 t_1504) fun t_1505 =>
  ez_let (x3 + (1 : Int32)) fun t_1513 =>
  ez_bd (ez_sc L xs t_1513) fun t_1514 =>
  ez_bd (z_X12_twin σ h2 t_1514) fun t_1515 =>
  z_law_1998 L xs k_18 σ h1 h2 x3
  ) else (
  if t_32 = 42 then (
  ez_let (x3 + (1 : Int32)) fun t_1526 =>
  ez_bd (ez_sc L xs t_1526) fun t_1527 =>
  ez_b2 (z_X11_book σ h1 t_1527) fun t_1528 σ =>
  ez_let (x3 + (1 : Int32)) fun t_1536 =>
  ez_bd (ez_sc L xs t_1536) fun t_1537 =>
  ez_b2 (z_X12_book σ h2 t_1537) fun t_1538 σ =>
  z_law_1998 L xs k_18 σ h1 h2 x3
  ) else (
  if t_32 = 43 then (
  ez_let (x3 + (1 : Int32)) fun t_1549 =>
  ez_bd (ez_sc L xs t_1549) fun t_1550 =>
  ez_let (x3 + (2 : Int32)) fun t_1554 =>
  ez_bd (ez_sc L xs t_1554) fun t_1555 =>
  ez_b2 (z_X11_lasts σ h1 t_1550 t_1555) fun t_1556 σ =>
  ez_let (x3 + (1 : Int32)) fun t_1564 =>
  ez_bd (ez_sc L xs t_1564) fun t_1565 =>
  ez_let (x3 + (2 : Int32)) fun t_1569 =>
  ez_bd (ez_sc L xs t_1569) fun t_1570 =>
  ez_b2 (z_X12_lasts σ h2 t_1565 t_1570) fun t_1571 σ =>
  z_law_1998 L xs k_18 σ h1 h2 x3
  ) else (
  if t_32 = 44 then (
  ez_b2 (z_X11_blanks σ h1) fun t_1579 σ =>
  ez_bd (z_X12_blanks σ h2) fun t_1584 =>
  z_law_1998 L xs k_18 σ h1 h2 x3
  ) else (
  if t_32 = 45 then (
  ez_bd (z_X11_stuck σ h1) fun t_1592 =>
  ez_bd (z_X12_stuck σ h2) fun t_1597 =>
  z_law_1998 L xs k_18 σ h1 h2 x3
  ) else (
  if t_32 = 46 then (
  ez_bd (z_X11_barred σ h1) fun t_1605 =>
  ez_bd (z_X12_barred σ h2) fun t_1610 =>
  z_law_1998 L xs k_18 σ h1 h2 x3
  ) else (
  if t_32 = 47 then (
  ez_b2 (z_X11_haunted σ h1) fun t_1618 σ =>
  ez_bd (z_X12_haunted σ h2) fun t_1623 =>
  z_law_1998 L xs k_18 σ h1 h2 x3
  ) else (
  if t_32 = 48 then (
  ez_bd (z_X11_best σ h1) fun t_1631 =>
  ez_bd (z_X12_best σ h2) fun t_1636 =>
  z_law_1998 L xs k_18 σ h1 h2 x3
  ) else (
  if t_32 = 49 then (
  ez_let (x3 + (1 : Int32)) fun t_1647 =>
  ez_bd (ez_sc L xs t_1647) fun t_1648 =>
  ez_bd (z_X11_idle σ h1 t_1648) fun t_1649 =>
  ez_let (x3 + (1 : Int32)) fun t_1657 =>
  ez_bd (ez_sc L xs t_1657) fun t_1658 =>
  ez_bd (z_X12_idle σ h2 t_1658) fun t_1659 =>
  z_law_1998 L xs k_18 σ h1 h2 x3
  ) else (
  if t_32 = 50 then (
  ez_let (x3 + (1 : Int32)) fun t_1670 =>
  ez_bd (ez_sc L xs t_1670) fun t_1671 =>
  ez_b2 (z_X11_law σ h1 t_1671) fun t_1672 σ =>
  ez_let (x3 + (1 : Int32)) fun t_1680 =>
  ez_bd (ez_sc L xs t_1680) fun t_1681 =>
  ez_bd (z_X12_law σ h2 t_1681) fun t_1682 =>
  z_law_1998 L xs k_18 σ h1 h2 x3
  ) else (
  if t_32 = 51 then (
  ez_let (x3 + (1 : Int32)) fun t_1693 =>
  ez_bd (ez_sc L xs t_1693) fun t_1694 =>
  ez_let (x3 + (2 : Int32)) fun t_1698 =>
  ez_bd (ez_sc L xs t_1698) fun t_1699 =>
  ez_b2 (z_X11_odds σ h1 t_1694 t_1699) fun t_1700 σ =>
  ez_let (x3 + (1 : Int32)) fun t_1708 =>
  ez_bd (ez_sc L xs t_1708) fun t_1709 =>
  ez_let (x3 + (2 : Int32)) fun t_1713 =>
  ez_bd (ez_sc L xs t_1713) fun t_1714 =>
  ez_bd (z_X12_odds σ h2 t_1709 t_1714) fun t_1715 =>
  z_law_1998 L xs k_18 σ h1 h2 x3
  ) else (
  if t_32 = 52 then (
  ez_let (x3 + (1 : Int32)) fun t_1726 =>
  ez_bd (ez_sc L xs t_1726) fun t_1727 =>
  ez_bd (z_X11_lies σ h1 t_1727) fun t_1728 =>
  ez_let (x3 + (1 : Int32)) fun t_1736 =>
  ez_bd (ez_sc L xs t_1736) fun t_1737 =>
  ez_bd (z_X12_lies σ h2 t_1737) fun t_1738 =>
  z_law_1998 L xs k_18 σ h1 h2 x3
  ) else (
  if t_32 = 53 then (
  ez_let (x3 + (1 : Int32)) fun t_1749 =>
  ez_bd (ez_sc L xs t_1749) fun t_1750 =>
  ez_let (x3 + (2 : Int32)) fun t_1754 =>
  ez_bd (ez_sc L xs t_1754) fun t_1755 =>
  if t_1755 = (0 : Int32) then (
  z_law_1764 L xs k_18 σ h1 h2 x3 h1 t_1750 (0 : Int32)
  ) else (
  z_law_1764 L xs k_18 σ h1 h2 x3 h1 t_1750 (1 : Int32)
  )
  ) else (
  if t_32 = 54 then (
  ez_let (x3 + (1 : Int32)) fun t_1798 =>
  ez_bd (ez_sc L xs t_1798) fun t_1799 =>
  ez_b2 (z_X11_untell σ h1 t_1799) fun t_1800 σ =>
  ez_let (x3 + (1 : Int32)) fun t_1808 =>
  ez_bd (ez_sc L xs t_1808) fun t_1809 =>
  ez_b2 (z_X12_untell σ h2 t_1809) fun t_1810 σ =>
  z_law_1998 L xs k_18 σ h1 h2 x3
  ) else (
  if t_32 = 55 then (
  ez_let (x3 + (1 : Int32)) fun t_1821 =>
  ez_bd (ez_sc L xs t_1821) fun t_1822 =>
  ez_b2 (z_X11_later σ h1 t_1822) fun t_1823 σ =>
  ez_let (x3 + (1 : Int32)) fun t_1830 =>
  ez_bd (ez_sc L xs t_1830) fun t_1831 =>
  ez_b2 (z_X12_later σ h2 t_1831) fun t_1832 σ =>
  if t_1823 = t_1832 then (
  z_law_1998 L xs k_18 σ h1 h2 x3
  ) else (
  some ((0 : Int32), σ)
  )
  ) else (
  if t_32 = 56 then (
  ez_let (x3 + (1 : Int32)) fun t_1844 =>
  ez_bd (ez_sc L xs t_1844) fun t_1845 =>
  ez_b2 (z_X11_fits σ h1 t_1845) fun t_1846 σ =>
  ez_let (x3 + (1 : Int32)) fun t_1854 =>
  ez_bd (ez_sc L xs t_1854) fun t_1855 =>
  ez_bd (z_X12_fits σ h2 t_1855) fun t_1856 =>
  z_law_1998 L xs k_18 σ h1 h2 x3
  ) else (
  if t_32 = 57 then (
  ez_let (x3 + (1 : Int32)) fun t_1867 =>
  ez_bd (ez_sc L xs t_1867) fun t_1868 =>
  ez_let (x3 + (2 : Int32)) fun t_1872 =>
  ez_bd (ez_sc L xs t_1872) fun t_1873 =>
  ez_b2 (z_X11_sure σ h1 t_1868 t_1873) fun t_1874 σ =>
  ez_let (x3 + (1 : Int32)) fun t_1882 =>
  ez_bd (ez_sc L xs t_1882) fun t_1883 =>
  ez_let (x3 + (2 : Int32)) fun t_1887 =>
  ez_bd (ez_sc L xs t_1887) fun t_1888 =>
  ez_bd (z_X12_sure σ h2 t_1883 t_1888) fun t_1889 =>
  z_law_1998 L xs k_18 σ h1 h2 x3
  ) else (
  if t_32 = 58 then (
  ez_let (x3 + (1 : Int32)) fun t_1900 =>
  ez_bd (ez_sc L xs t_1900) fun t_1901 =>
  ez_let (x3 + (2 : Int32)) fun t_1905 =>
  ez_bd (ez_sc L xs t_1905) fun t_1906 =>
  ez_b2 (z_X11_ask σ h1 t_1901 t_1906) fun t_1907 σ =>
  ez_let (x3 + (1 : Int32)) fun t_1915 =>
  ez_bd (ez_sc L xs t_1915) fun t_1916 =>
  ez_let (x3 + (2 : Int32)) fun t_1920 =>
  ez_bd (ez_sc L xs t_1920) fun t_1921 =>
  ez_bd (z_X12_ask σ h2 t_1916 t_1921) fun t_1922 =>
  z_law_1998 L xs k_18 σ h1 h2 x3
  ) else (
  if t_32 = 59 then (
  ez_let (x3 + (1 : Int32)) fun t_1933 =>
  ez_bd (ez_sc L xs t_1933) fun t_1934 =>
  ez_b2 (z_X11_image σ h1 t_1934) fun t_1935 σ =>
  ez_let (x3 + (1 : Int32)) fun t_1943 =>
  ez_bd (ez_sc L xs t_1943) fun t_1944 =>
  ez_b2 (z_X12_image σ h2 t_1944) fun t_1945 σ =>
  z_law_1998 L xs k_18 σ h1 h2 x3
  ) else (
  if t_32 = 60 then (
  ez_let (x3 + (1 : Int32)) fun t_1956 =>
  ez_bd (ez_sc L xs t_1956) fun t_1957 =>
  ez_b2 (z_X11_back σ h1 t_1957) fun t_1958 σ =>
  ez_let (x3 + (1 : Int32)) fun t_1966 =>
  ez_bd (ez_sc L xs t_1966) fun t_1967 =>
  ez_b2 (z_X12_back σ h2 t_1967) fun t_1968 σ =>
  z_law_1998 L xs k_18 σ h1 h2 x3
  ) else (
  if t_32 = 61 then (
  ez_let (x3 + (1 : Int32)) fun t_1979 =>
  ez_bd (ez_sc L xs t_1979) fun t_1980 =>
  ez_bd (z_X11_about σ h1 t_1980) fun t_1981 =>
  ez_let (x3 + (1 : Int32)) fun t_1989 =>
  ez_bd (ez_sc L xs t_1989) fun t_1990 =>
  ez_bd (z_X12_about σ h2 t_1990) fun t_1991 =>
  z_law_1998 L xs k_18 σ h1 h2 x3
  ) else (
  z_law_1998 L xs k_18 σ h1 h2 x3
  ))))))))))))))))))))))))))))))))))))))))))))))))))))))))))))))
  )
set_option maxRecDepth 100000 in
noncomputable def z_law (L : Nat) (xs : Nat → Int32) (σ : ez_H) : Option (Int32 × ez_H) :=
  ez_nw σ (.inr (.inr (.inr (11, [.inr (.inr none), .inl 0, .inr (.inr none), .inr (.inr none), .inr (.inr none), .inr (.inr none), .inr (.inr none), .inr (.inr none), .inr (.inr none), .inl 0, .inr (.inr none), .inr (.inr none), .inr (.inr none), .inr (.inr none), .inr (.inr none), .inr (.inr none)])))) fun t_0 σ =>
  ez_b2 (z_X11_init σ t_0) fun _ σ =>
  ez_nw σ (.inr (.inr (.inr (12, [.inr (.inr none), .inr (.inr none), .inl 0, .inl 0, .inl 0, .inl 0, .inl 0, .inl 0, .inl 0, .inl 0, .inr (.inl 0), .inr (.inr none), .inr (.inr none), .inr (.inr none), .inr (.inr none), .inr (.inr none), .inr (.inr none), .inr (.inr none), .inr (.inr none), .inr (.inr none), .inr (.inr none), .inr (.inr none), .inr (.inr none), .inr (.inr none), .inr (.inr none), .inr (.inr none), .inr (.inr none), .inr (.inr none), .inr (.inr none), .inr (.inr none), .inr (.inr none), .inr (.inr none), .inr (.inr none), .inr (.inr none), .inr (.inr none), .inr (.inr none), .inr (.inr none), .inr (.inr none), .inr (.inr none), .inr (.inr none), .inr (.inr none), .inr (.inr none), .inr (.inr none), .inl 0, .inl 0, .inl 0, .inl 0, .inl 0, .inl 0, .inl 0, .inl 0, .inl 0, .inl 0, .inr (.inr none), .inr (.inr none), .inr (.inr none), .inr (.inr none), .inl 0, .inr (.inr none), .inr (.inr none), .inl 0, .inl 0, .inr (.inr none), .inr (.inr none), .inr (.inr none), .inr (.inr none), .inl 0, .inl 0, .inr (.inr none), .inr (.inr none)])))) fun t_8 σ =>
  ez_b2 (z_X12_init σ t_8) fun _ σ =>
  ez_fix (fun _ _ _ _ => none) (z_law_18 L xs ) ez_N σ t_0 t_8 (0 : Int32)
