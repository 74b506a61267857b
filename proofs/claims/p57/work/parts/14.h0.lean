/-! Methods by hand: small ones that others need. -/
theorem tz_J7_fill_53178 {p : tz_P} {σ : ez_H} {h0 n : Nat} {x1 : Int32} (hT : tp p σ) (k_h0 : tz_C h0 = some (0, 1, n, 0)) : tz_O2 (fun (_ : Unit) (s : ez_H) => tp p s) (z_J7_fill_53178 σ h0 x1) := by
  show tz_O (fun z : Unit × ez_H => tp p z.2) _
  have hn : n < 100000 := by obtain ⟨l, -, h, -⟩ := tz_row hT k_h0; exact h
  have L : ∀ (m : Nat) (k : ez_H → Nat → Int32 → Int32 → Int32 → Option (Unit × ez_H)), (∀ (s : ez_H) (y x3 : Int32), tp p s → 0 ≤ y.toInt → x3.toInt = n → (2147483647 - y.toInt).toNat < m → tz_O (fun z : Unit × ez_H => tp p z.2) (k s h0 x1 y x3)) → ∀ (s : ez_H) (y x3 : Int32), tp p s → 0 ≤ y.toInt → x3.toInt = n → (2147483647 - y.toInt).toNat < m + 1 → tz_O (fun z : Unit × ez_H => tp p z.2) (z_J7_fill_53178_5 k s h0 x1 y x3) := by
    intro m k hk s y x3 hs h0y hx3 hm
    unfold z_J7_fill_53178_5
    refine tz_if _ (fun _ => tz_some hs) (fun c => ?_)
    rw [Int32.le_iff_toInt_le] at c
    refine tz_be (tz_is hs k_h0 (te_0 (p := p)) (lo := y.toInt) (hi := y.toInt) ⟨by omega, by omega⟩ h0y (by omega) (tq_top x1)) (fun s1 _ hs1 => ?_)
    refine tz_let (fun t e => ?_)
    have ht : t.toInt = y.toInt + 1 := by
      rw [e]
      exact tq_addT (a := y.toInt) (b := y.toInt) (c := 1) (d := 1) ⟨by omega, by omega⟩ tk_1 (by omega) (by omega)
    exact hk s1 t x3 hs1 (by omega) hx3 (by omega)
  unfold z_J7_fill_53178
  refine tz_be (tz_ln hT k_h0) (fun t e i => ?_)
  exact ez_fix_indn (fun m (k : ez_H → Nat → Int32 → Int32 → Int32 → Option (Unit × ez_H)) => ∀ (s : ez_H) (y x3 : Int32), tp p s → 0 ≤ y.toInt → x3.toInt = n → (2147483647 - y.toInt).toNat < m → tz_O (fun z : Unit × ez_H => tp p z.2) (k s h0 x1 y x3)) (by intros; rename_i h; exact absurd h (Nat.not_lt_zero _)) L ez_N σ 0 t hT (by decide) (by have := i.1; have := i.2; omega) (tq_m0 _)
theorem tq_xorneg {x y : Int32} (hy : 0 ≤ y.toInt) : (0 : Int32) ≤ x ^^^ y ↔ 0 ≤ x.toInt := by
  rw [Int32.le_iff_toInt_le]
  have h0 : (0 : Int32).toInt = 0 := by decide
  have h1 : ∀ z : Int32, 0 ≤ z.toInt ↔ z.toBitVec.msb = false := fun z => by
    rw [← Int32.toInt_toBitVec, BitVec.msb_eq_toInt]
    simp
  rw [h0, h1, h1, Int32.toBitVec_xor, BitVec.msb_xor, (h1 y).mp hy]
  simp
theorem tz_J9_floorMod_7cf53 {p : tz_P} {σ : ez_H} {x0 x1 : Int32} (_ : tp p σ) (i1 : tq_iv 41 41 x1) : tz_O (fun z => tq_iv 0 40 z) (z_J9_floorMod_7cf53 σ x0 x1) := by
  have q1 := i1.1
  have q2 := i1.2
  obtain ⟨-, hm⟩ := tq_tdivT (x := x0) (y := x1) (by omega)
  have hl : x0.toInt.tmod x1.toInt < x1.toInt := Int.tmod_lt_of_pos _ (by omega)
  have hl2 := Int.lt_tmod_of_pos x0.toInt (show 0 < x1.toInt by omega)
  unfold z_J9_floorMod_7cf53
  refine tz_nz (tq_nz i1 (by decide)) ?_
  refine tz_let (fun t e => ?_)
  rw [← e] at hm
  refine tz_let (fun t6 e6 => ?_)
  refine tz_if _ (fun c => ?_) (fun c => ?_)
  · unfold z_J9_floorMod_7cf53_18
    rw [e6, tq_xorneg (by omega)] at c
    have := Int.tmod_nonneg x1.toInt c
    exact tz_some ⟨by omega, by omega⟩
  · rw [e6, tq_xorneg (by omega)] at c
    refine tz_if _ (fun c2 => ?_) (fun c2 => ?_)
    · unfold z_J9_floorMod_7cf53_18
      rw [c2]
      exact tz_some ⟨by decide, by decide⟩
    · have h3 : t.toInt ≤ 0 := by
        have h4 : (-x0.toInt).tmod x1.toInt = -(x0.toInt.tmod x1.toInt) := Int.neg_tmod ..
        have h5 := Int.tmod_nonneg (a := -x0.toInt) x1.toInt (by omega)
        omega
      have h4 : ¬ t.toInt = 0 := fun h => c2 (Int32.toInt_inj.mp (by rw [h]; decide))
      refine tz_let (fun t16 e16 => ?_)
      have h5 : t16.toInt = t.toInt + x1.toInt := by
        rw [e16]
        exact tq_addT (a := -41) (b := 0) (c := 41) (d := 41) ⟨by omega, by omega⟩ i1 (by decide) (by decide)
      exact tz_some ⟨by omega, by omega⟩
theorem tz_X3_look {p : tz_P} {σ : ez_H} {h0 n : Nat} {x1 : Int32} (hT : tp p σ) (k_h0 : tz_C h0 = some (0, 1, n, 0)) : tz_O (fun z => tq_iv (-2147483648) 2147483647 z) (z_X3_look σ h0 x1) := by
  have hn : n < 100000 := by obtain ⟨l, -, h, -⟩ := tz_row hT k_h0; exact h
  unfold z_X3_look
  refine tz_if _ (fun _ => ?_) (fun c => ?_)
  · unfold z_X3_look_16 z_X3_look_17
    exact tz_some (tq_top _)
  · refine tz_be (tz_ln hT k_h0) (fun t e i => ?_)
    refine tz_if _ (fun _ => ?_) (fun c2 => ?_)
    · unfold z_X3_look_16 z_X3_look_17
      exact tz_some (tq_top _)
    · rw [Int32.lt_iff_toInt_lt] at c
      rw [Int32.le_iff_toInt_le] at c2
      have h0 : (0 : Int32).toInt = 0 := by decide
      refine tz_be (tz_ia hT k_h0 (te_0 (p := p)) (lo := x1.toInt) (hi := x1.toInt) ⟨by omega, by omega⟩ (by omega) (by have := i.2; omega)) (fun t e i => ?_)
      unfold z_X3_look_17
      exact tz_some (tq_top _)
