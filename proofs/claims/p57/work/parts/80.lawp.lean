/-! The law as a pure function: it answers 1. -/
def LQ (z : Int32 × ez_H) : Prop := z.1 = 1
section LW
variable {L : Nat} {xs : Nat → Int32} {s : ez_H} {x3 : Int32}
theorem scE {i : Int32} (h0 : 0 ≤ i.toInt) (h1 : i.toInt < (L : Int)) (hL : L ≤ 3072) : tz_O (fun _ => True) (ez_sc L xs i) := by
  have hi : ez_inb i L = true := tz_inb h0 h1 (by omega)
  unfold ez_sc
  rw [hi]
  exact ⟨_, rfl, trivial⟩
theorem sc1 {β : Type} {Q : β → Prop} {g : Int32 → Option β} {n : Int32} (hn : 0 ≤ n.toInt ∧ n.toInt ≤ 5) (hx : 0 ≤ x3.toInt ∧ x3.toInt + 5 < (L : Int)) (hL : L ≤ 3072) (hg : ∀ v, tz_O Q (g v)) : tz_O Q (ez_let (x3 + n) fun t => ez_bd (ez_sc L xs t) g) := by
  refine tz_let (fun t e => tz_bd (scE ?_ ?_ hL) (fun v _ => hg v))
  · have := add_c e (by omega) (by omega) (by omega) (by omega)
    omega
  · have := add_c e (by omega) (by omega) (by omega) (by omega)
    omega
theorem n1 : 0 ≤ (1 : Int32).toInt ∧ (1 : Int32).toInt ≤ 5 := by decide
theorem n2 : 0 ≤ (2 : Int32).toInt ∧ (2 : Int32).toInt ≤ 5 := by decide
theorem n3 : 0 ≤ (3 : Int32).toInt ∧ (3 : Int32).toInt ≤ 5 := by decide
theorem n4 : 0 ≤ (4 : Int32).toInt ∧ (4 : Int32).toInt ≤ 5 := by decide
theorem n5 : 0 ≤ (5 : Int32).toInt ∧ (5 : Int32).toInt ≤ 5 := by decide
theorem lt_b {t : Int} (x : Int32) (h : 0 ≤ t ∧ t ≤ 100000) : 0 ≤ lT t x ∧ lT t x ≤ 100000 := by
  unfold lT
  split <;> omega
set_option maxHeartbeats 4000000 in
set_option maxRecDepth 100000 in
theorem law_18 (hL : L ≤ 3072) (hJ : J s) (h0 : 0 ≤ x3.toInt) {k : ez_H → Nat → Nat → Int32 → Option (Int32 × ez_H)} (hk : ∀ s' y, J s' → y.toInt = x3.toInt + 6 → x3.toInt ≤ 3072 → tz_O LQ (k s' 0 170 y)) : tz_O LQ (z_law_18 L xs k s 0 170 x3) := by
  have e6 : (6 : Int32).toInt = 6 := by decide
  unfold z_law_18
  refine tz_let (fun t20 e20 => tz_let (fun t23 e23 => tz_if _ (fun c => ?_) (fun c => ?_)))
  · exact tz_some rfl
  have c := nlt_c c
  have h20 : t20.toInt = (L : Int) := by
    rw [e20]
    exact nI_toInt (by omega)
  have h23 := sub_c e23 (by omega) (by omega) (by decide) (by decide)
  rw [e6] at h23
  have hx : 0 ≤ x3.toInt ∧ x3.toInt + 5 < (L : Int) := ⟨h0, by omega⟩
  have fin : ∀ s, J s → tz_O LQ (z_law_1998 L xs k s 0 170 x3) := by
    intro s h
    unfold z_law_1998
    refine tz_let (fun t e => ?_)
    have ht := add_c e (by omega) (by omega) (by decide) (by decide)
    rw [e6] at ht
    exact hk s t h ht (by omega)
  have K1787 : ∀ s (v y : Int32), J s → tq_iv 0 1 y → tz_O LQ (z_law_1787 L xs k s 0 170 x3 170 v y) := by
    intro s v y h hy
    unfold z_law_1787
    exact tz_b3 (j_X12_tried h hy) (fun _ s2 h2 => fin s2 h2)
  have K1764 : ∀ s (v y : Int32), J s → tq_iv 0 1 y → tz_O LQ (z_law_1764 L xs k s 0 170 x3 0 v y) := by
    intro s v y h hy
    unfold z_law_1764
    refine tz_b3 (j_X11_tried h hy) (fun _ s2 h2 => ?_)
    refine sc1 n1 hx hL (fun v1 => sc1 n2 hx hL (fun v2 => ?_))
    exact tz_if _ (fun _ => K1787 s2 v1 0 h2 ⟨by decide, by decide⟩) (fun _ => K1787 s2 v1 1 h2 ⟨by decide, by decide⟩)
  refine tz_bd (scE h0 (by omega) hL) (fun t29 _ => tz_let (fun t32 _ => ?_))
  refine tz_if _ (fun _ => ?_) (fun _ => ?_)
  · refine sc1 n1 hx hL (fun v1 => sc1 n2 hx hL (fun v2 => sc1 n3 hx hL (fun v3 => sc1 n4 hx hL (fun v4 => sc1 n5 hx hL (fun v5 => ?_)))))
    refine tz_b3 (j_X11_feed hJ) (fun _ s1 h1 => ?_)
    refine sc1 n1 hx hL (fun v1 => sc1 n2 hx hL (fun v2 => sc1 n3 hx hL (fun v3 => sc1 n4 hx hL (fun v4 => sc1 n5 hx hL (fun v5 => ?_)))))
    refine tz_b3 (j_X12_feed h1) (fun _ s2 h2 => ?_)
    exact fin s2 h2
  refine tz_if _ (fun _ => ?_) (fun _ => ?_)
  · refine sc1 n1 hx hL (fun v1 => ?_)
    refine tz_b3 (j_X11_end hJ) (fun _ s1 h1 => ?_)
    refine sc1 n1 hx hL (fun v1 => ?_)
    refine tz_b3 (j_X12_end h1) (fun _ s2 h2 => ?_)
    exact fin s2 h2
  refine tz_if _ (fun _ => ?_) (fun _ => ?_)
  · refine tz_b3 (j_X11_plan hJ) (fun _ s1 h1 => ?_)
    refine tz_b3 (j_X12_plan h1) (fun _ s2 h2 => ?_)
    exact fin s2 h2
  refine tz_if _ (fun _ => ?_) (fun _ => ?_)
  · refine sc1 n1 hx hL (fun v1 => ?_)
    refine tz_bd (j_X11_fault hJ) (fun _ _ => ?_)
    refine sc1 n1 hx hL (fun v1 => ?_)
    refine tz_bd (j_X12_fault hJ) (fun _ _ => ?_)
    exact fin s hJ
  refine tz_if _ (fun _ => ?_) (fun _ => ?_)
  · refine sc1 n1 hx hL (fun v1 => sc1 n2 hx hL (fun v2 => ?_))
    refine tz_bd (j_X11_key hJ) (fun _ _ => ?_)
    refine sc1 n1 hx hL (fun v1 => sc1 n2 hx hL (fun v2 => ?_))
    refine tz_bd (j_X12_key hJ) (fun _ _ => ?_)
    exact fin s hJ
  refine tz_if _ (fun _ => ?_) (fun _ => ?_)
  · refine sc1 n1 hx hL (fun v1 => sc1 n2 hx hL (fun v2 => ?_))
    refine tz_bd (j_X11_cut hJ) (fun _ _ => ?_)
    refine sc1 n1 hx hL (fun v1 => sc1 n2 hx hL (fun v2 => ?_))
    refine tz_bd (j_X12_cut hJ) (fun _ _ => ?_)
    exact fin s hJ
  refine tz_if _ (fun _ => ?_) (fun _ => ?_)
  · refine sc1 n1 hx hL (fun v1 => sc1 n2 hx hL (fun v2 => ?_))
    refine tz_bd (j_X11_lock hJ) (fun _ _ => ?_)
    refine sc1 n1 hx hL (fun v1 => sc1 n2 hx hL (fun v2 => ?_))
    refine tz_bd (j_X12_lock hJ) (fun _ _ => ?_)
    exact fin s hJ
  refine tz_if _ (fun _ => ?_) (fun _ => ?_)
  · refine sc1 n1 hx hL (fun v1 => sc1 n2 hx hL (fun v2 => ?_))
    refine tz_bd (j_X11_parts hJ) (fun _ _ => ?_)
    refine sc1 n1 hx hL (fun v1 => sc1 n2 hx hL (fun v2 => ?_))
    refine tz_bd (j_X12_parts hJ) (fun _ _ => ?_)
    exact fin s hJ
  refine tz_if _ (fun _ => ?_) (fun _ => ?_)
  · refine sc1 n1 hx hL (fun v1 => sc1 n2 hx hL (fun v2 => ?_))
    refine tz_bd (j_X11_door hJ) (fun _ _ => ?_)
    refine sc1 n1 hx hL (fun v1 => sc1 n2 hx hL (fun v2 => ?_))
    refine tz_bd (j_X12_door hJ) (fun _ _ => ?_)
    exact fin s hJ
  refine tz_if _ (fun _ => ?_) (fun _ => ?_)
  · refine sc1 n1 hx hL (fun v1 => sc1 n2 hx hL (fun v2 => ?_))
    refine tz_bd (j_X11_person hJ) (fun _ _ => ?_)
    refine sc1 n1 hx hL (fun v1 => sc1 n2 hx hL (fun v2 => ?_))
    refine tz_bd (j_X12_person hJ) (fun _ _ => ?_)
    exact fin s hJ
  refine tz_if _ (fun _ => ?_) (fun _ => ?_)
  · refine sc1 n1 hx hL (fun v1 => sc1 n2 hx hL (fun v2 => ?_))
    refine tz_bd (j_X11_opens hJ) (fun _ _ => ?_)
    refine sc1 n1 hx hL (fun v1 => sc1 n2 hx hL (fun v2 => ?_))
    refine tz_bd (j_X12_opens hJ) (fun _ _ => ?_)
    exact fin s hJ
  refine tz_if _ (fun _ => ?_) (fun _ => ?_)
  · refine sc1 n1 hx hL (fun v1 => sc1 n2 hx hL (fun v2 => ?_))
    refine tz_b3 (j_X11_walk hJ) (fun _ s1 h1 => ?_)
    refine sc1 n1 hx hL (fun v1 => sc1 n2 hx hL (fun v2 => ?_))
    refine tz_b3 (j_X12_walk h1) (fun _ s2 h2 => ?_)
    exact fin s2 h2
  refine tz_if _ (fun _ => ?_) (fun _ => ?_)
  · refine sc1 n1 hx hL (fun v1 => sc1 n2 hx hL (fun v2 => ?_))
    refine tz_b3 (j_X11_give hJ) (fun _ s1 h1 => ?_)
    refine sc1 n1 hx hL (fun v1 => sc1 n2 hx hL (fun v2 => ?_))
    refine tz_b3 (j_X12_give h1) (fun _ s2 h2 => ?_)
    exact fin s2 h2
  refine tz_if _ (fun _ => ?_) (fun _ => ?_)
  · refine sc1 n1 hx hL (fun v1 => ?_)
    refine tz_b3 (j_X11_hang hJ) (fun _ s1 h1 => ?_)
    refine sc1 n1 hx hL (fun v1 => ?_)
    refine tz_b3 (j_X12_hang h1) (fun _ s2 h2 => ?_)
    exact fin s2 h2
  refine tz_if _ (fun _ => ?_) (fun _ => ?_)
  · refine sc1 n1 hx hL (fun v1 => ?_)
    refine tz_b3 (j_X11_lose hJ) (fun _ s1 h1 => ?_)
    refine sc1 n1 hx hL (fun v1 => ?_)
    refine tz_b3 (j_X12_lose h1) (fun _ s2 h2 => ?_)
    exact fin s2 h2
  refine tz_if _ (fun _ => ?_) (fun _ => ?_)
  · refine sc1 n1 hx hL (fun v1 => sc1 n2 hx hL (fun v2 => ?_))
    refine tz_b3 (j_X11_find hJ) (fun _ s1 h1 => ?_)
    refine sc1 n1 hx hL (fun v1 => sc1 n2 hx hL (fun v2 => ?_))
    refine tz_b3 (j_X12_find h1) (fun _ s2 h2 => ?_)
    exact fin s2 h2
  refine tz_if _ (fun _ => ?_) (fun _ => ?_)
  · refine sc1 n1 hx hL (fun v1 => sc1 n2 hx hL (fun v2 => ?_))
    refine tz_b3 (j_X11_file hJ) (fun _ s1 h1 => ?_)
    refine sc1 n1 hx hL (fun v1 => sc1 n2 hx hL (fun v2 => ?_))
    refine tz_b3 (j_X12_file h1) (fun _ s2 h2 => ?_)
    exact fin s2 h2
  refine tz_if _ (fun _ => ?_) (fun _ => ?_)
  · refine sc1 n1 hx hL (fun v1 => sc1 n2 hx hL (fun v2 => ?_))
    refine tz_b3 (j_X11_recut hJ) (fun _ s1 h1 => ?_)
    refine sc1 n1 hx hL (fun v1 => sc1 n2 hx hL (fun v2 => ?_))
    refine tz_b3 (j_X12_recut h1) (fun _ s2 h2 => ?_)
    exact fin s2 h2
  refine tz_if _ (fun _ => ?_) (fun _ => ?_)
  · refine sc1 n1 hx hL (fun v1 => sc1 n2 hx hL (fun v2 => ?_))
    refine tz_b3 (j_X11_pin hJ) (fun _ s1 h1 => ?_)
    refine sc1 n1 hx hL (fun v1 => sc1 n2 hx hL (fun v2 => ?_))
    refine tz_b3 (j_X12_pin h1) (fun _ s2 h2 => ?_)
    exact fin s2 h2
  refine tz_if _ (fun _ => ?_) (fun _ => ?_)
  · refine sc1 n1 hx hL (fun v1 => sc1 n2 hx hL (fun v2 => sc1 n3 hx hL (fun v3 => ?_)))
    refine tz_b3 (j_X11_part hJ) (fun _ s1 h1 => ?_)
    refine sc1 n1 hx hL (fun v1 => sc1 n2 hx hL (fun v2 => sc1 n3 hx hL (fun v3 => ?_)))
    refine tz_b3 (j_X12_part h1) (fun _ s2 h2 => ?_)
    exact fin s2 h2
  refine tz_if _ (fun _ => ?_) (fun _ => ?_)
  · refine tz_b3 (j_X11_undo hJ) (fun _ s1 h1 => ?_)
    refine tz_b3 (j_X12_undo h1) (fun _ s2 h2 => ?_)
    exact fin s2 h2
  refine tz_if _ (fun _ => ?_) (fun _ => ?_)
  · refine tz_b3 (j_X11_redo hJ) (fun _ s1 h1 => ?_)
    refine tz_b3 (j_X12_redo h1) (fun _ s2 h2 => ?_)
    exact fin s2 h2
  refine tz_if _ (fun _ => ?_) (fun _ => ?_)
  · refine tz_b3 (j_X11_legal hJ) (fun _ s1 h1 => ?_)
    refine tz_bd (j_X12_legal h1) (fun _ _ => ?_)
    exact fin s1 h1
  refine tz_if _ (fun _ => ?_) (fun _ => ?_)
  · refine sc1 n1 hx hL (fun v1 => ?_)
    refine tz_b3 (j_X11_bitting hJ) (fun _ s1 h1 => ?_)
    refine sc1 n1 hx hL (fun v1 => ?_)
    refine tz_bd (j_X12_bitting h1) (fun _ _ => ?_)
    exact fin s1 h1
  refine tz_if _ (fun _ => ?_) (fun _ => ?_)
  · refine sc1 n1 hx hL (fun v1 => ?_)
    refine tz_b3 (j_X11_rank hJ) (fun _ s1 h1 => ?_)
    refine sc1 n1 hx hL (fun v1 => ?_)
    refine tz_bd (j_X12_rank h1) (fun _ _ => ?_)
    exact fin s1 h1
  refine tz_if _ (fun _ => ?_) (fun _ => ?_)
  · refine sc1 n1 hx hL (fun v1 => ?_)
    refine tz_b3 (j_X11_ghosts hJ) (fun _ s1 h1 => ?_)
    refine sc1 n1 hx hL (fun v1 => ?_)
    refine tz_bd (j_X12_ghosts h1) (fun _ _ => ?_)
    exact fin s1 h1
  refine tz_if _ (fun _ => ?_) (fun _ => ?_)
  · refine sc1 n1 hx hL (fun v1 => sc1 n2 hx hL (fun v2 => ?_))
    refine tz_b3 (j_X11_ghost hJ) (fun _ s1 h1 => ?_)
    refine sc1 n1 hx hL (fun v1 => sc1 n2 hx hL (fun v2 => ?_))
    refine tz_bd (j_X12_ghost h1) (fun _ _ => ?_)
    exact fin s1 h1
  refine tz_if _ (fun _ => ?_) (fun _ => ?_)
  · refine sc1 n1 hx hL (fun v1 => sc1 n2 hx hL (fun v2 => ?_))
    refine tz_b3 (j_X11_common hJ) (fun _ s1 h1 => ?_)
    refine sc1 n1 hx hL (fun v1 => sc1 n2 hx hL (fun v2 => ?_))
    refine tz_bd (j_X12_common h1) (fun _ _ => ?_)
    exact fin s1 h1
  refine tz_if _ (fun _ => ?_) (fun _ => ?_)
  · refine sc1 n1 hx hL (fun v1 => ?_)
    refine tz_b3 (j_X11_master hJ) (fun _ s1 h1 => ?_)
    refine sc1 n1 hx hL (fun v1 => ?_)
    refine tz_bd (j_X12_master h1) (fun _ _ => ?_)
    exact fin s1 h1
  refine tz_if _ (fun _ => ?_) (fun _ => ?_)
  · refine sc1 n1 hx hL (fun v1 => sc1 n2 hx hL (fun v2 => ?_))
    refine tz_b3 (j_X11_cutFor hJ) (fun _ s1 h1 => ?_)
    refine sc1 n1 hx hL (fun v1 => sc1 n2 hx hL (fun v2 => ?_))
    refine tz_bd (j_X12_cutFor h1) (fun _ _ => ?_)
    exact fin s1 h1
  refine tz_if _ (fun _ => ?_) (fun _ => ?_)
  · refine sc1 n1 hx hL (fun v1 => sc1 n2 hx hL (fun v2 => sc1 n3 hx hL (fun v3 => ?_)))
    refine tz_b3 (j_X11_filing hJ) (fun _ s1 h1 => ?_)
    refine sc1 n1 hx hL (fun v1 => sc1 n2 hx hL (fun v2 => sc1 n3 hx hL (fun v3 => ?_)))
    refine tz_bd (j_X12_filing h1) (fun _ _ => ?_)
    exact fin s1 h1
  refine tz_if _ (fun _ => ?_) (fun _ => ?_)
  · refine sc1 n1 hx hL (fun v1 => ?_)
    refine tz_bd (j_X11_broken hJ) (fun _ _ => ?_)
    refine sc1 n1 hx hL (fun v1 => ?_)
    refine tz_bd (j_X12_broken hJ) (fun _ _ => ?_)
    exact fin s hJ
  refine tz_if _ (fun _ => ?_) (fun _ => ?_)
  · refine sc1 n1 hx hL (fun v1 => ?_)
    refine tz_bd (j_X11_strays hJ) (fun _ _ => ?_)
    refine sc1 n1 hx hL (fun v1 => ?_)
    refine tz_b3 (j_X12_strays hJ) (fun _ s2 h2 => ?_)
    exact fin s2 h2
  refine tz_if _ (fun _ => ?_) (fun _ => ?_)
  · refine sc1 n1 hx hL (fun v1 => ?_)
    refine tz_b3 (j_X11_keeps hJ) (fun _ s1 h1 => ?_)
    refine sc1 n1 hx hL (fun v1 => ?_)
    refine tz_b3 (j_X12_keeps h1) (fun _ s2 h2 => ?_)
    exact fin s2 h2
  refine tz_if _ (fun _ => ?_) (fun _ => ?_)
  · refine sc1 n1 hx hL (fun v1 => ?_)
    refine tz_bd (j_X11_leftOver hJ) (fun _ _ => ?_)
    refine sc1 n1 hx hL (fun v1 => ?_)
    refine tz_b3 (j_X12_leftOver hJ) (fun _ s2 h2 => ?_)
    exact fin s2 h2
  refine tz_if _ (fun _ => ?_) (fun _ => ?_)
  · refine sc1 n1 hx hL (fun v1 => sc1 n2 hx hL (fun v2 => ?_))
    refine tz_b3 (j_X11_route hJ) (fun _ s1 h1 => ?_)
    refine sc1 n1 hx hL (fun v1 => sc1 n2 hx hL (fun v2 => ?_))
    refine tz_b3 (j_X12_route h1) (fun _ s2 h2 => ?_)
    exact fin s2 h2
  refine tz_if _ (fun _ => ?_) (fun _ => ?_)
  · refine sc1 n1 hx hL (fun v1 => sc1 n2 hx hL (fun v2 => sc1 n3 hx hL (fun v3 => ?_)))
    refine tz_bd (j_X11_bunch hJ) (fun _ _ => ?_)
    refine sc1 n1 hx hL (fun v1 => sc1 n2 hx hL (fun v2 => sc1 n3 hx hL (fun v3 => ?_)))
    refine tz_bd (j_X12_bunch hJ) (fun _ _ => ?_)
    exact fin s hJ
  refine tz_if _ (fun _ => ?_) (fun _ => ?_)
  · refine sc1 n1 hx hL (fun v1 => ?_)
    refine tz_b3 (j_X11_together hJ) (fun _ s1 h1 => ?_)
    refine sc1 n1 hx hL (fun v1 => ?_)
    refine tz_b3 (j_X12_together h1) (fun _ s2 h2 => ?_)
    exact fin s2 h2
  refine tz_if _ (fun _ => ?_) (fun _ => ?_)
  · refine sc1 n1 hx hL (fun v1 => ?_)
    refine tz_bd (j_X11_comers hJ) (fun _ _ => ?_)
    refine sc1 n1 hx hL (fun v1 => ?_)
    refine tz_bd (j_X12_comers hJ) (fun _ _ => ?_)
    exact fin s hJ
  refine tz_if _ (fun _ => ?_) (fun _ => ?_)
  · refine sc1 n1 hx hL (fun v1 => sc1 n2 hx hL (fun v2 => sc1 n3 hx hL (fun v3 => ?_)))
    refine tz_bd (j_X11_trade hJ) (fun _ _ => ?_)
    refine sc1 n1 hx hL (fun v1 => sc1 n2 hx hL (fun v2 => sc1 n3 hx hL (fun v3 => ?_)))
    refine tz_bd (j_X12_trade hJ) (fun _ _ => ?_)
    exact fin s hJ
  refine tz_if _ (fun _ => ?_) (fun _ => ?_)
  · refine sc1 n1 hx hL (fun v1 => sc1 n2 hx hL (fun v2 => ?_))
    refine tz_bd (j_X11_span hJ) (fun _ _ => ?_)
    refine sc1 n1 hx hL (fun v1 => sc1 n2 hx hL (fun v2 => ?_))
    refine tz_bd (j_X12_span hJ) (fun _ _ => ?_)
    exact fin s hJ
  refine tz_if _ (fun _ => ?_) (fun _ => ?_)
  · refine sc1 n1 hx hL (fun v1 => ?_)
    refine tz_bd (j_X11_twin hJ) (fun _ _ => ?_)
    refine sc1 n1 hx hL (fun v1 => ?_)
    refine tz_bd (j_X12_twin hJ) (fun _ _ => ?_)
    exact fin s hJ
  refine tz_if _ (fun _ => ?_) (fun _ => ?_)
  · refine sc1 n1 hx hL (fun v1 => ?_)
    refine tz_b3 (j_X11_book hJ) (fun _ s1 h1 => ?_)
    refine sc1 n1 hx hL (fun v1 => ?_)
    refine tz_b3 (j_X12_book h1) (fun _ s2 h2 => ?_)
    exact fin s2 h2
  refine tz_if _ (fun _ => ?_) (fun _ => ?_)
  · refine sc1 n1 hx hL (fun v1 => sc1 n2 hx hL (fun v2 => ?_))
    refine tz_b3 (j_X11_lasts hJ) (fun _ s1 h1 => ?_)
    refine sc1 n1 hx hL (fun v1 => sc1 n2 hx hL (fun v2 => ?_))
    refine tz_b3 (j_X12_lasts h1) (fun _ s2 h2 => ?_)
    exact fin s2 h2
  refine tz_if _ (fun _ => ?_) (fun _ => ?_)
  · refine tz_b3 (j_X11_blanks hJ) (fun _ s1 h1 => ?_)
    refine tz_bd (j_X12_blanks h1) (fun _ _ => ?_)
    exact fin s1 h1
  refine tz_if _ (fun _ => ?_) (fun _ => ?_)
  · refine tz_bd (j_X11_stuck hJ) (fun _ _ => ?_)
    refine tz_bd (j_X12_stuck hJ) (fun _ _ => ?_)
    exact fin s hJ
  refine tz_if _ (fun _ => ?_) (fun _ => ?_)
  · refine tz_bd (j_X11_barred hJ) (fun _ _ => ?_)
    refine tz_bd (j_X12_barred hJ) (fun _ _ => ?_)
    exact fin s hJ
  refine tz_if _ (fun _ => ?_) (fun _ => ?_)
  · refine tz_b3 (j_X11_haunted hJ) (fun _ s1 h1 => ?_)
    refine tz_bd (j_X12_haunted h1) (fun _ _ => ?_)
    exact fin s1 h1
  refine tz_if _ (fun _ => ?_) (fun _ => ?_)
  · refine tz_bd (j_X11_best hJ) (fun _ _ => ?_)
    refine tz_bd (j_X12_best hJ) (fun _ _ => ?_)
    exact fin s hJ
  refine tz_if _ (fun _ => ?_) (fun _ => ?_)
  · refine sc1 n1 hx hL (fun v1 => ?_)
    refine tz_bd (j_X11_idle hJ) (fun _ _ => ?_)
    refine sc1 n1 hx hL (fun v1 => ?_)
    refine tz_bd (j_X12_idle hJ) (fun _ _ => ?_)
    exact fin s hJ
  refine tz_if _ (fun _ => ?_) (fun _ => ?_)
  · refine sc1 n1 hx hL (fun v1 => ?_)
    refine tz_b3 (j_X11_law hJ) (fun _ s1 h1 => ?_)
    refine sc1 n1 hx hL (fun v1 => ?_)
    refine tz_bd (j_X12_law h1) (fun _ _ => ?_)
    exact fin s1 h1
  refine tz_if _ (fun _ => ?_) (fun _ => ?_)
  · refine sc1 n1 hx hL (fun v1 => sc1 n2 hx hL (fun v2 => ?_))
    refine tz_b3 (j_X11_odds hJ) (fun _ s1 h1 => ?_)
    refine sc1 n1 hx hL (fun v1 => sc1 n2 hx hL (fun v2 => ?_))
    refine tz_bd (j_X12_odds h1) (fun _ _ => ?_)
    exact fin s1 h1
  refine tz_if _ (fun _ => ?_) (fun _ => ?_)
  · refine sc1 n1 hx hL (fun v1 => ?_)
    refine tz_bd (j_X11_lies hJ) (fun _ _ => ?_)
    refine sc1 n1 hx hL (fun v1 => ?_)
    refine tz_bd (j_X12_lies hJ) (fun _ _ => ?_)
    exact fin s hJ
  refine tz_if _ (fun _ => ?_) (fun _ => ?_)
  · refine sc1 n1 hx hL (fun v1 => sc1 n2 hx hL (fun v2 => ?_))
    exact tz_if _ (fun _ => K1764 s v1 0 hJ ⟨by decide, by decide⟩) (fun _ => K1764 s v1 1 hJ ⟨by decide, by decide⟩)
  refine tz_if _ (fun _ => ?_) (fun _ => ?_)
  · refine sc1 n1 hx hL (fun v1 => ?_)
    refine tz_b3 (j_X11_untell hJ) (fun _ s1 h1 => ?_)
    refine sc1 n1 hx hL (fun v1 => ?_)
    refine tz_b3 (j_X12_untell h1) (fun _ s2 h2 => ?_)
    exact fin s2 h2
  refine tz_if _ (fun _ => ?_) (fun _ => ?_)
  · obtain ⟨q, e, hT⟩ := hJ
    have hg := hT.1
    refine tz_let (fun t1 e1 => ?_)
    have ht1 := add_c e1 (by omega) (by omega) (by decide) (by decide)
    rw [i1e] at ht1
    obtain ⟨v1, ev1, -⟩ := scE (L := L) (xs := xs) (i := t1) (by omega) (by omega) hL
    refine tz_bk ev1 ?_
    refine tz_b3 (tz_X11_later (x1 := v1) hT tc_0) (fun z1 s1 h1 => ?_)
    have q1 : z1.toInt = lA (q.1 0) v1 := h1.1
    have hT1 : tp (up q 0 (lT (q.1 0) v1)) s1 := h1.2
    refine tz_let (fun t2 e2 => ?_)
    have et : t2 = t1 := by rw [e2, e1]
    rw [et]
    refine tz_bk ev1 ?_
    refine tz_b3 (tz_X12_later (x1 := v1) hT1 tc_170) (fun z2 s2 h2 => ?_)
    have q2 : z2.toInt = lA (q.1 1) v1 := h2.1
    have hT2 : tp (up (up q 0 (lT (q.1 0) v1)) 1 (lT (q.1 1) v1)) s2 := h2.2
    have ez : z1 = z2 := Int32.toInt_inj.mp (by rw [q1, q2, e.1])
    have j2 : J s2 := ⟨up (up q 0 (lT (q.1 0) v1)) 1 (lT (q.1 1) v1), ⟨by show lT (q.1 0) v1 = lT (q.1 1) v1; rw [e.1], e.2⟩, hT2⟩
    exact tz_if _ (fun _ => fin s2 j2) (fun w => absurd ez w)
  refine tz_if _ (fun _ => ?_) (fun _ => ?_)
  · refine sc1 n1 hx hL (fun v1 => ?_)
    refine tz_b3 (j_X11_fits hJ) (fun _ s1 h1 => ?_)
    refine sc1 n1 hx hL (fun v1 => ?_)
    refine tz_bd (j_X12_fits h1) (fun _ _ => ?_)
    exact fin s1 h1
  refine tz_if _ (fun _ => ?_) (fun _ => ?_)
  · refine sc1 n1 hx hL (fun v1 => sc1 n2 hx hL (fun v2 => ?_))
    refine tz_b3 (j_X11_sure hJ) (fun _ s1 h1 => ?_)
    refine sc1 n1 hx hL (fun v1 => sc1 n2 hx hL (fun v2 => ?_))
    refine tz_bd (j_X12_sure h1) (fun _ _ => ?_)
    exact fin s1 h1
  refine tz_if _ (fun _ => ?_) (fun _ => ?_)
  · refine sc1 n1 hx hL (fun v1 => sc1 n2 hx hL (fun v2 => ?_))
    refine tz_b3 (j_X11_ask hJ) (fun _ s1 h1 => ?_)
    refine sc1 n1 hx hL (fun v1 => sc1 n2 hx hL (fun v2 => ?_))
    refine tz_bd (j_X12_ask h1) (fun _ _ => ?_)
    exact fin s1 h1
  refine tz_if _ (fun _ => ?_) (fun _ => ?_)
  · refine sc1 n1 hx hL (fun v1 => ?_)
    refine tz_b3 (j_X11_image hJ) (fun _ s1 h1 => ?_)
    refine sc1 n1 hx hL (fun v1 => ?_)
    refine tz_b3 (j_X12_image h1) (fun _ s2 h2 => ?_)
    exact fin s2 h2
  refine tz_if _ (fun _ => ?_) (fun _ => ?_)
  · refine sc1 n1 hx hL (fun v1 => ?_)
    refine tz_b3 (j_X11_back hJ) (fun _ s1 h1 => ?_)
    refine sc1 n1 hx hL (fun v1 => ?_)
    refine tz_b3 (j_X12_back h1) (fun _ s2 h2 => ?_)
    exact fin s2 h2
  refine tz_if _ (fun _ => ?_) (fun _ => ?_)
  · refine sc1 n1 hx hL (fun v1 => ?_)
    refine tz_bd (j_X11_about hJ) (fun _ _ => ?_)
    refine sc1 n1 hx hL (fun v1 => ?_)
    refine tz_bd (j_X12_about hJ) (fun _ _ => ?_)
    exact fin s hJ
  exact fin s hJ
theorem law_loop (hL : L ≤ 3072) (hJ : J s) : tz_O LQ (ez_fix (fun _ _ _ _ => none) (z_law_18 L xs) ez_N s 0 170 (0 : Int32)) := by
  refine lpG (fun (k : ez_H → Nat → Nat → Int32 → Option (Int32 × ez_H)) (a : ez_H × Int32) => k a.1 0 170 a.2) (fun a => J a.1 ∧ 0 ≤ a.2.toInt) (fun a => (2147483647 - a.2.toInt).toNat) ?_ (s, 0) ⟨hJ, i0z⟩ (tq_m0 _)
  rintro k ⟨s, x⟩ ⟨h1, h2⟩ hk
  have h1 : J s := h1
  have h2 : 0 ≤ x.toInt := h2
  show tz_O LQ (z_law_18 L xs k s 0 170 x)
  exact law_18 hL h1 h2 (fun s' y hs hy hb => hk (s', y) ⟨hs, by show 0 ≤ y.toInt; omega⟩ (by show (2147483647 - y.toInt).toNat < (2147483647 - x.toInt).toNat; omega))
set_option maxRecDepth 100000 in
set_option maxHeartbeats 4000000 in
theorem law_pure (xs : Nat → Int32) {L : Nat} (hL : L ≤ 3072) : ∃ σ1, z_law L xs [] = some (1, σ1) := by
  have h : tz_O LQ (ez_fix (fun _ _ _ _ => none) (z_law_18 L xs) ez_N ev_s0 0 170 (0 : Int32)) := law_loop hL ⟨tz_p0, ⟨rfl, by decide⟩, tz_T0⟩
  obtain ⟨⟨z, σ1⟩, h1, h2⟩ := h
  have h2 : z = 1 := h2
  subst h2
  refine ⟨σ1, ?_⟩
  unfold z_law
  rw [ez_nw_eq]
  show ez_b2 (z_X11_init [.inr (.inr (.inr (11, [.inr (.inr none), .inl 0, .inr (.inr none), .inr (.inr none), .inr (.inr none), .inr (.inr none), .inr (.inr none), .inr (.inr none), .inr (.inr none), .inl 0, .inr (.inr none), .inr (.inr none), .inr (.inr none), .inr (.inr none), .inr (.inr none), .inr (.inr none)])))] 0) _ = _
  rw [ev_init11, ez_b2_some, ez_nw_eq, show ev_cls.length = 170 from rfl, ev_init12, ez_b2_some]
  exact h1
end LW
