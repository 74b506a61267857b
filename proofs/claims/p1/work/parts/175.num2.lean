set_option maxRecDepth 100000 in
theorem ev_mx (q : Nat) (hq : q < 2 ^ 31) : (if (0 : Int32) < nI q then nI q else 0) = nI q := by
  by_cases h : q = 0
  · subst h; decide +kernel
  · exact if_pos (nI_lt (a := 0) (by omega) hq)
set_option maxRecDepth 100000 in
theorem ev_bs {σ : ez_H} (K : Nat → Int32 → Int32 → Int32 → Int32 → Int32 → Option Int32) (x1 : Int32) {k b c : Nat} (hk : k < 2 ^ 31) (hc : c < 5) : z_X6_bitsOf_22 σ K 26 x1 (nI k) (nI b) (nI 6) (nI c) = K 26 x1 (nI (k / 6)) (nI (b ||| 2 ^ (6 * c + k % 6))) (nI 6) (nI c + -1) := by
  have h6 : ¬ nI 6 = 0 := by decide +kernel
  unfold z_X6_bitsOf_22
  rw [if_neg (nI_pos (by omega)), ez_nzn h6, ez_let_eq, pk_rem hk (by decide) (by decide), ez_let_eq, ev_mx _ (by omega), ev_no hc (Nat.mod_lt _ (by decide)), ez_bd_some, ez_let_eq, ez_nzn h6, ez_let_eq, pk_div hk (by decide) (by decide), ez_let_eq, ev_or]
set_option maxRecDepth 100000 in
theorem ev_bsn {σ : ez_H} (K : Nat → Int32 → Int32 → Int32 → Int32 → Int32 → Option Int32) (x1 x2 x3 : Int32) {c : Nat} (hc : c < 5) : ∃ v, z_X6_bitsOf_22 σ K 26 x1 x2 x3 (nI 6) (nI c) = K 26 x1 (x2 / nI 6) v (nI 6) (nI c + -1) := by
  have h6 : ¬ nI 6 = 0 := by decide +kernel
  unfold z_X6_bitsOf_22 z_X6_notch
  rw [if_neg (nI_pos (by omega)), ez_nzn h6]
  simp only [ez_let_eq, ez_bd_some]
  rw [ez_nzn h6]
  exact ⟨_, rfl⟩
set_option maxRecDepth 100000 in
theorem ev_bst {σ : ez_H} (ho : ∃ fs, ez_ob σ 6 26 = some fs) (g0 : ez_gi σ 6 26 0 = some 5) (g1 : ez_gi σ 6 26 1 = some 6) (b : Int32) : z_X6_bitsOf σ 26 b = ez_fix (fun _ _ _ _ _ _ => none) (z_X6_bitsOf_22 σ) (16378 + 1 + 1 + 1 + 1 + 1 + 1) 26 b b (nI 0) (nI 6) (nI 4) := by
  unfold z_X6_bitsOf
  rw [ez_bdo ho, g1, ez_bd_some, ez_let_eq, if_pos (by decide), g0, ez_bd_some, ez_let_eq, show (5 : Int32) - 1 = nI 4 from by decide +kernel, show (0 : Int32) = nI 0 from nI_0.symm]
  rfl
set_option maxRecDepth 100000 in
theorem ev_iL {i : Nat} (hi : i < 7776) : z_X6_isLegal ev_s0 26 (nI (ev_bn i)) = some 1 := by
  have g0 : ez_gi ev_s0 6 26 0 = some (nI 5) := by decide +kernel
  have g2 : ez_gi ev_s0 6 26 2 = some 5 := by decide +kernel
  have hab : ∀ a : Nat, a < 6 → ∀ b : Nat, b < 6 → (if 0 ≤ nI a - nI b then nI a - nI b else 0 - (nI a - nI b)) ≤ 5 := by decide +kernel
  have st : ∀ (K : Nat → Int32 → Int32 → Option Int32) (c : Nat), c + 1 < 5 → z_X6_isLegal_2 ev_s0 K 26 (nI (ev_bn i)) (nI (c + 1)) = K 26 (nI (ev_bn i)) (nI (c + 1 + 1)) := by
    intro K c hc
    unfold z_X6_isLegal_2
    rw [g0, ez_bd_some, if_neg (nI_ge hc (by decide)), ev_da ev_o26 hi hc, ez_bd_some, ez_let_eq, nI_pred, ev_da ev_o26 hi (by omega), ez_bd_some, ez_let_eq, ez_let_eq, g2, ez_bd_some, if_pos (hab _ (ev_dg6 _ _) _ (ev_dg6 _ _)), ez_let_eq, nI_1]
  unfold z_X6_isLegal
  rw [ez_bdo ev_o26, show (1 : Int32) = nI (0 + 1) from by decide +kernel, show ez_N = 16379 + 1 + 1 + 1 + 1 + 1 from rfl, ez_fix1, st _ 0 (by decide), ez_fix1, st _ 1 (by decide), ez_fix1, st _ 2 (by decide), ez_fix1, st _ 3 (by decide), ez_fix1]
  generalize ez_fix (fun _ _ _ => none) (z_X6_isLegal_2 ev_s0) 16379 = K
  unfold z_X6_isLegal_2
  rw [g0, ez_bd_some, if_pos (Int32.le_refl _)]
  exact congrArg some (by decide +kernel)
set_option maxRecDepth 100000 in
theorem ev_bits {k : Nat} (hk : k < 2 ^ 31) : z_X6_bitsOf ev_s0 26 (nI k) = some (if k < 7776 then nI (ev_bn k) else 0) := by
  have g0 : ez_gi ev_s0 6 26 0 = some 5 := by decide +kernel
  have g1 : ez_gi ev_s0 6 26 1 = some 6 := by decide +kernel
  rw [ev_bst ev_o26 g0 g1, ez_fix1, ev_bs _ _ hk (by decide), pk_m1, ez_fix1, ev_bs _ _ (by omega) (by decide), pk_m1, ez_fix1, ev_bs _ _ (by omega) (by decide), pk_m1, ez_fix1, ev_bs _ _ (by omega) (by decide), pk_m1, ez_fix1, ev_bs _ _ (by omega) (by decide), ez_fix1, show nI 0 + -1 = -1 from by decide +kernel]
  generalize ez_fix (fun _ _ _ _ _ _ => none) (z_X6_bitsOf_22 ev_s0) 16378 = K
  unfold z_X6_bitsOf_22 z_X6_bitsOf_74 z_X6_bitsOf_75
  rw [if_pos (by decide), if_neg (nI_pos hk)]
  by_cases q : k < 7776
  · have e0 : k / 6 / 6 / 6 / 6 / 6 = 0 := by omega
    have e1 : ((((0 ||| 2 ^ (6 * 4 + k % 6)) ||| 2 ^ (6 * 3 + k / 6 % 6)) ||| 2 ^ (6 * 2 + k / 6 / 6 % 6)) ||| 2 ^ (6 * 1 + k / 6 / 6 / 6 % 6)) ||| 2 ^ (6 * 0 + k / 6 / 6 / 6 / 6 % 6) = ev_bn k := (ev_cka q).2.1
    rw [e0, nI_0, if_pos rfl, e1, ev_iL q, ez_bd_some, if_neg (by decide), if_pos q]
  · rw [if_neg (nI_ne0 (by omega) (by omega)), if_neg q]
set_option maxRecDepth 100000 in
theorem ev_bitsN {b : Int32} (hb : b < 0) : z_X6_bitsOf ev_s0 26 b = some 0 := by
  have g0 : ez_gi ev_s0 6 26 0 = some 5 := by decide +kernel
  have g1 : ez_gi ev_s0 6 26 1 = some 6 := by decide +kernel
  rw [ev_bst ev_o26 g0 g1, ez_fix1]
  obtain ⟨v1, e1⟩ := ev_bsn (σ := ev_s0) (ez_fix (fun _ _ _ _ _ _ => none) (z_X6_bitsOf_22 ev_s0) (16378 + 1 + 1 + 1 + 1 + 1)) b b (nI 0) (c := 4) (by decide)
  rw [e1, pk_m1, ez_fix1]
  obtain ⟨v2, e2⟩ := ev_bsn (σ := ev_s0) (ez_fix (fun _ _ _ _ _ _ => none) (z_X6_bitsOf_22 ev_s0) (16378 + 1 + 1 + 1 + 1)) b (b / nI 6) v1 (c := 3) (by decide)
  rw [e2, pk_m1, ez_fix1]
  obtain ⟨v3, e3⟩ := ev_bsn (σ := ev_s0) (ez_fix (fun _ _ _ _ _ _ => none) (z_X6_bitsOf_22 ev_s0) (16378 + 1 + 1 + 1)) b (b / nI 6 / nI 6) v2 (c := 2) (by decide)
  rw [e3, pk_m1, ez_fix1]
  obtain ⟨v4, e4⟩ := ev_bsn (σ := ev_s0) (ez_fix (fun _ _ _ _ _ _ => none) (z_X6_bitsOf_22 ev_s0) (16378 + 1 + 1)) b (b / nI 6 / nI 6 / nI 6) v3 (c := 1) (by decide)
  rw [e4, pk_m1, ez_fix1]
  obtain ⟨v5, e5⟩ := ev_bsn (σ := ev_s0) (ez_fix (fun _ _ _ _ _ _ => none) (z_X6_bitsOf_22 ev_s0) (16378 + 1)) b (b / nI 6 / nI 6 / nI 6 / nI 6) v4 (c := 0) (by decide)
  rw [e5, ez_fix1, show nI 0 + -1 = -1 from by decide +kernel]
  generalize ez_fix (fun _ _ _ _ _ _ => none) (z_X6_bitsOf_22 ev_s0) 16378 = K
  unfold z_X6_bitsOf_22 z_X6_bitsOf_74 z_X6_bitsOf_75
  rw [if_pos (by decide), if_pos hb]
set_option maxRecDepth 100000 in
theorem ev_bitsE (b : Int32) : ∃ v, z_X6_bitsOf ev_s0 26 b = some v := by
  by_cases q : b < 0
  · exact ⟨0, ev_bitsN q⟩
  · obtain ⟨k, hk, rfl⟩ := nI_of q
    exact ⟨_, ev_bits hk⟩
set_option maxRecDepth 100000 in
theorem pr_opens (a0 a1 : Int32) : ∃ r, z_X11_opens ev_s0 0 a0 a1 = some r ∧ z_X12_opens ev_s0 170 a0 a1 = some r := by
  refine ⟨-1, ?_, ?_⟩
  · obtain ⟨v, e⟩ := ev_bitsE a0
    unfold z_X11_opens z_X11_opens_24
    rw [ez_bdo ev_o0]
    simp only [ev_cd, ez_bd_some, cl_hasLock]
    rw [e, ez_bd_some]
    by_cases q : v = 0
    · rw [if_pos q]
    · rw [if_neg q, if_pos trivial]
  · unfold z_X12_opens z_X12_opens_16
    rw [ez_bdo (ev_m0 ev_MF0), md_isLock ev_MF0]
    rcases ev_split a0 with q | ⟨k, hk, rfl⟩
    · rw [md_illegal ev_MF0 q, ez_bd_some, if_pos rfl]
    · rw [md_legal ev_MF0 hk, ez_bd_some, if_neg (by decide), ez_bd_some, if_pos rfl]
set_option maxRecDepth 100000 in
theorem pr_recut (a0 a1 : Int32) : ∃ r σ1 σ2, z_X11_recut ev_s0 0 a0 a1 = some (r, σ1) ∧ z_X12_recut σ1 170 a0 a1 = some (r, σ2) := by
  refine ⟨-1, ev_s0, ev_s0, ?_, ?_⟩
  · obtain ⟨v, e⟩ := ev_bitsE a1
    unfold z_X11_recut z_X11_recut_24
    rw [ez_bdo ev_o0]
    simp only [ev_cd, ez_bd_some, cl_hasKey]
    rw [e, ez_bd_some, if_pos trivial]
  · unfold z_X12_recut z_X12_recut_16
    rw [ez_bdo (ev_m0 ev_MF0), md_isKey ev_MF0, ez_bd_some, if_pos rfl]
set_option maxRecDepth 100000 in
theorem ev_pin (K : ez_H → Nat → Int32 → Int32 → Int32 → Int32 → Option (Int32 × ez_H)) {c dep : Nat} (hc : c < 5) (hdep : dep < 6) (x : Int32) : ∀ t n d s, d + t = dep → t < n → ez_fix (fun _ _ _ _ _ _ _ => none) (z_X6_placeOf_41 K) n ev_sH 26 x (nI s) (nI c) (nI dep) (nI d) = K ev_sH 26 x (nI (s + t * 6 ^ (4 - c))) (nI 0) (nI (c + 1)) := by
  intro t
  induction t with
  | zero =>
    intro n d s hd hn
    obtain ⟨j, rfl⟩ := ev_pos hn
    rw [ez_fix1]
    generalize ez_fix (fun _ _ _ _ _ _ _ => none) (z_X6_placeOf_41 K) j = G
    unfold z_X6_placeOf_41
    rw [if_pos (nI_le (by omega) (by omega)), (ev_lo hdep).1, ez_bd_some, ez_let_eq, nI_1, Nat.zero_mul]
    rfl
  | succ t ih =>
    intro n d s hd hn
    obtain ⟨j, rfl⟩ := ev_pos hn
    rw [ez_fix1]
    generalize hK : ez_fix (fun _ _ _ _ _ _ _ => none) (z_X6_placeOf_41 K) j = G
    unfold z_X6_placeOf_41
    rw [if_neg (nI_ge (by omega) (by omega)), ev_ow hc (by omega), ez_bd_some, ez_let_eq, ez_let_eq, nI_add, nI_1, ← hK, ih j (d + 1) (s + 6 ^ (4 - c)) (by omega) (by omega), Nat.succ_mul, show s + 6 ^ (4 - c) + t * 6 ^ (4 - c) = s + (t * 6 ^ (4 - c) + 6 ^ (4 - c)) by omega]
set_option maxRecDepth 100000 in
theorem ev_pst (K : ez_H → Nat → Int32 → Int32 → Int32 → Int32 → Option (Int32 × ez_H)) {i c s : Nat} (hi : i < 7776) (hc : c < 5) : z_X6_placeOf_20 K ev_sH 26 (nI (ev_bn i)) (nI s) (nI 0) (nI c) = K ev_sH 26 (nI (ev_bn i)) (nI (s + ev_dg i c * 6 ^ (4 - c))) (nI 0) (nI (c + 1)) := by
  unfold z_X6_placeOf_20
  rw [ev_hd.1, ez_bd_some, if_neg (nI_ge hc (by decide)), ev_da ev_ho hi hc, ez_bd_some, ev_pin K hc (ev_dg6 i c) _ (ev_dg i c) ez_N 0 s (by omega) (by have := ev_dg6 i c; show _ < 16384; omega)]
set_option maxRecDepth 100000 in
theorem ev_place {i : Nat} (hi : i < 7776) : z_X6_placeOf ev_s0 26 (nI (ev_bn i)) = some (nI i, ev_sH) := by
  unfold z_X6_placeOf
  rw [ez_bdo ev_o26, ev_ev, ez_bd_some, show ez_gi ev_s0 6 26 2 = some 5 from by decide +kernel, ez_bd_some, ev_hm, ez_b2_some, show (0 : Int32) = nI 0 from nI_0.symm, show ez_N = 16378 + 1 + 1 + 1 + 1 + 1 + 1 from rfl, ez_fix1, ev_pst _ hi (by decide), ez_fix1, ev_pst _ hi (by decide), ez_fix1, ev_pst _ hi (by decide), ez_fix1, ev_pst _ hi (by decide), ez_fix1, ev_pst _ hi (by decide), ez_fix1]
  generalize ez_fix (fun _ _ _ _ _ _ => none) z_X6_placeOf_20 16378 = K
  unfold z_X6_placeOf_20
  rw [ev_hd.1, ez_bd_some, if_pos (Int32.le_refl _)]
  have e : 0 + ev_dg i 0 * 6 ^ (4 - 0) + ev_dg i 1 * 6 ^ (4 - 1) + ev_dg i 2 * 6 ^ (4 - 2) + ev_dg i 3 * 6 ^ (4 - 3) + ev_dg i 4 * 6 ^ (4 - 4) = i := by
    have h := ev_dgs hi
    show 0 + ev_dg i 0 * 1296 + ev_dg i 1 * 216 + ev_dg i 2 * 36 + ev_dg i 3 * 6 + ev_dg i 4 * 1 = i
    omega
  rw [e]
set_option maxRecDepth 100000 in
theorem pr_rank (a0 : Int32) : ∃ r σ1, z_X11_rank ev_s0 0 a0 = some (r, σ1) ∧ z_X12_rank σ1 170 a0 = some r := by
  have no : ∀ b : Int32, (b < 0 ∨ nI 7775 < b) → z_X6_bitsOf ev_s0 26 b = some 0 := by
    intro b hb
    by_cases q : b < 0
    · exact ev_bitsN q
    · obtain ⟨k, hk, rfl⟩ := nI_of q
      rw [ev_bits hk, if_neg]
      intro q2
      exact nI_nlt (show k ≤ 7775 by omega) (by decide) (hb.resolve_left q)
  rcases ev_split a0 with q | ⟨k, hk, rfl⟩
  · refine ⟨-1, ev_s0, ?_, md_rankN ev_MF0 q⟩
    unfold z_X11_rank z_X11_rank_25
    rw [ez_bdo ev_o0]
    simp only [ev_cd, ez_bd_some]
    rw [no a0 q, ez_bd_some, if_pos rfl]
  · refine ⟨nI k, ev_sH, ?_, md_rank ev_MFH hk⟩
    obtain ⟨-, -, h3, h4⟩ := ev_cka hk
    unfold z_X11_rank z_X11_rank_25
    rw [ez_bdo ev_o0]
    simp only [ev_cd, ez_bd_some]
    rw [ev_bits (by omega), if_pos hk, ez_bd_some, if_neg (nI_ne0 h3 h4), ev_place hk, ez_b2_some]
/-! a field, a byte are written -/
set_option maxRecDepth 100000 in
theorem ev_pfx {σ : ez_H} {ci a k : Nat} {fs : List ez_V} {x : Int32} (h : σ[a]? = some (.inr (.inr (.inr (ci, fs))))) (hk : k < fs.length) : ez_pf σ ci a k (.inl x) = some (σ.set a (.inr (.inr (.inr (ci, fs.set k (.inl x)))))) := by
  have ho : ez_ob σ ci a = some fs := by
    unfold ez_ob
    rw [ez_at_eq, h]
    simp [ez_beq]
  unfold ez_pf
  rw [ho]
  show (bif Nat.blt k fs.length then _ else none) = _
  rw [Nat.blt_eq.mpr hk, cond_true, ez_setK_eq, ez_setK_eq]
set_option maxRecDepth 100000 in
theorem ev_gix {σ : ez_H} {ci a k : Nat} {fs : List ez_V} {x : Int32} (h : σ[a]? = some (.inr (.inr (.inr (ci, fs))))) (hk : fs[k]? = some (.inl x)) : ez_gi σ ci a k = some x := by
  unfold ez_gi ez_ob
  rw [ez_at_eq, h]
  simp [ez_beq, ez_at_eq, hk]
set_option maxRecDepth 100000 in
theorem ev_grx {σ : ez_H} {ci a k b : Nat} {fs : List ez_V} (h : σ[a]? = some (.inr (.inr (.inr (ci, fs))))) (hk : fs[k]? = some (.inr (.inr (some b)))) : ez_gr σ ci a k = some b := by
  unfold ez_gr ez_ob
  rw [ez_at_eq, h]
  simp [ez_beq, ez_at_eq, hk]
set_option maxRecDepth 100000 in
theorem ev_obx {σ : ez_H} {ci a : Nat} {fs : List ez_V} (h : σ[a]? = some (.inr (.inr (.inr (ci, fs))))) : ∃ fs, ez_ob σ ci a = some fs := by
  refine ⟨fs, ?_⟩
  unfold ez_ob
  rw [ez_at_eq, h]
  simp [ez_beq]
set_option maxRecDepth 100000 in
theorem ev_isx {σ : ez_H} {a n i : Nat} {l : List (Nat × Int32)} {x : Int32} (h : σ[a]? = some (.inl (0, n, l))) (hi : i < n) (hn : n < 100000) : ez_is σ 0 a (nI i) x = some (σ.set a (.inl (0, n, ez_put l i x))) := by
  have e1 : ez_ix (nI i) = i := pk_tn (by omega)
  unfold ez_is
  rw [ez_at_eq, h]
  show (bif Nat.beq 0 0 && ez_inb (nI i) n then _ else none) = _
  have e2 : ez_inb (nI i) n = true := by
    unfold ez_inb
    rw [e1, Bool.and_eq_true]
    exact ⟨Nat.blt_eq.mpr hi, Nat.blt_eq.mpr hn⟩
  rw [e2, show Nat.beq 0 0 = true from rfl, Bool.true_and, cond_true, ez_pwK_eq, ez_setK_eq, e1]
  rfl
set_option maxRecDepth 100000 in
theorem ev_mob {σ : ez_H} (h : ev_MF σ) : ∃ fs, σ[170]? = some (.inr (.inr (.inr (12, fs)))) ∧ fs.length = 70 ∧ fs[0]? = some (.inr (.inr (some 171))) ∧ fs[2]? = some (.inl 0) ∧ fs[67]? = some (.inl 0) := by
  have e := h 170 (by decide)
  rw [ez_at_eq] at e
  rw [e]
  exact ⟨_, rfl, rfl, rfl, rfl, rfl⟩
set_option maxRecDepth 100000 in
theorem pr_later (w : Int32) : ∃ r σ1 σ2, z_X11_later ev_s0 0 w = some (r, σ1) ∧ z_X12_later σ1 170 w = some (r, σ2) := by
  by_cases q : w < 0
  · refine ⟨-1, ev_s0, ev_s0, ?_, ?_⟩
    · unfold z_X11_later z_X10_goOn z_X10_goOn_22
      rw [ez_bdo ev_o0]
      simp only [ev_cd, ez_bd_some]
      rw [ez_bdo ev_o164, if_pos q, ez_b2_some]
    · unfold z_X12_later z_X12_later_23
      rw [ez_bdo (ev_m0 ev_MF0), md_inN (Or.inl q), ez_bd_some, if_pos rfl]
  by_cases q1 : (1000 : Int32) < w
  · refine ⟨-1, ev_s0, ev_s0, ?_, ?_⟩
    · unfold z_X11_later z_X10_goOn z_X10_goOn_22
      rw [ez_bdo ev_o0]
      simp only [ev_cd, ez_bd_some]
      rw [ez_bdo ev_o164, if_neg q, if_pos q1, ez_b2_some]
    · unfold z_X12_later z_X12_later_23
      rw [ez_bdo (ev_m0 ev_MF0), md_inN (Or.inr q1), ez_bd_some, if_pos rfl]
  have q2 : (0 : Int32) + w ≤ 100000 := by
    rw [Int32.zero_add, Int32.le_iff_toInt_le]
    rw [Int32.lt_iff_toInt_lt] at q1
    have c1 : (1000 : Int32).toInt = 1000 := by decide
    have c2 : (100000 : Int32).toInt = 100000 := by decide
    omega
  obtain ⟨f1, e1, l1⟩ : ∃ fs, ev_s0[164]? = some (.inr (.inr (.inr (10, fs)))) ∧ fs.length = 6 := ⟨_, rfl, rfl⟩
  have p1 := ev_pfx (k := 5) (x := 0 + w) e1 (by omega)
  have m1 : ev_MF (ev_s0.set 164 (.inr (.inr (.inr (10, f1.set 5 (.inl (0 + w))))))) := ev_pf p1 (by decide) ev_MF0
  have r1 : ez_gi (ev_s0.set 164 (.inr (.inr (.inr (10, f1.set 5 (.inl (0 + w))))))) 10 164 5 = some (0 + w) := by
    refine ev_gix (fs := f1.set 5 (.inl (0 + w))) ?_ (by rw [List.getElem?_set_self (by omega)])
    rw [List.getElem?_set_self (List.getElem?_eq_some_iff.mp e1).1]
  generalize ev_s0.set 164 (.inr (.inr (.inr (10, f1.set 5 (.inl (0 + w)))))) = σ1 at p1 m1 r1
  obtain ⟨f2, e2, l2, -, -, -⟩ := ev_mob m1
  have p2 := ev_pfx (k := 67) (x := 0 + w) e2 (by omega)
  have r2 : ez_gi (σ1.set 170 (.inr (.inr (.inr (12, f2.set 67 (.inl (0 + w))))))) 12 170 67 = some (0 + w) := by
    refine ev_gix (fs := f2.set 67 (.inl (0 + w))) ?_ (by rw [List.getElem?_set_self (by omega)])
    rw [List.getElem?_set_self (List.getElem?_eq_some_iff.mp e2).1]
  refine ⟨0 + w, σ1, σ1.set 170 (.inr (.inr (.inr (12, f2.set 67 (.inl (0 + w)))))), ?_, ?_⟩
  · unfold z_X11_later z_X10_goOn
    rw [ez_bdo ev_o0, show ez_gr ev_s0 11 0 14 = some 164 from by decide +kernel, ez_bd_some, ez_bdo ev_o164, if_neg q, if_neg q1, show ez_gi ev_s0 10 164 5 = some 0 from by decide +kernel, ez_bd_some, ez_let_eq, if_pos q2, ez_bd_some, ez_let_eq, p1, ez_bd_some, r1, ez_bd_some, ez_b2_some]
  · unfold z_X12_later
    rw [ez_bdo (ev_m0 m1), md_inY q q1, ez_bd_some, if_neg (by decide), show ez_gi σ1 12 170 67 = some 0 from (ev_gi m1 (by decide)).trans (by decide +kernel), ez_bd_some, ez_let_eq, if_pos q2, ez_bd_some, ez_let_eq, p2, ez_bd_some, r2, ez_bd_some]
/-! feed -/
def ev_TP (σ : ez_H) (t : Nat) : Prop := (∃ fs : List ez_V, σ[0]? = some (.inr (.inr (.inr (11, fs)))) ∧ fs[0]? = some (.inr (.inr (some 1))) ∧ fs[1]? = some (.inl (nI t))) ∧ (∃ l, σ[1]? = some (.inl (0, 1600, l))) ∧ ev_MF σ
set_option maxRecDepth 100000 in
theorem ev_TP1 {σ : ez_H} {t : Nat} (h : ev_TP σ t) (ht : t < 1600) (K : ez_H → Nat → Int32 → Int32 → Option (Unit × ez_H)) (x s : Int32) (hs : ¬ s < 0) : ∃ σ2, ev_TP σ2 (t + 1) ∧ z_X11_putOnTape_3 K σ 0 x s = K σ2 0 x (s + -8) := by
  obtain ⟨⟨fs, h1, h2, h3⟩, ⟨l, h4⟩, h5⟩ := h
  have l1 : 1 < fs.length := (List.getElem?_eq_some_iff.mp h3).1
  have z1 : 1 < σ.length := (List.getElem?_eq_some_iff.mp h4).1
  obtain ⟨b, hb⟩ : ∃ b, b = vp_nar .byte (Int32.toInt8 (x >>> (s &&& 31))).toInt32 := ⟨_, rfl⟩
  have p1 := ev_isx (i := t) (x := b) h4 ht (by decide)
  have q0 : (σ.set 1 (.inl (0, 1600, ez_put l t b)))[0]? = some (.inr (.inr (.inr (11, fs)))) := by rw [List.getElem?_set_ne (by decide)]; exact h1
  have p2 := ev_pfx (k := 1) (x := nI (t + 1)) q0 l1
  refine ⟨(σ.set 1 (.inl (0, 1600, ez_put l t b))).set 0 (.inr (.inr (.inr (11, fs.set 1 (.inl (nI (t + 1))))))), ⟨⟨fs.set 1 (.inl (nI (t + 1))), ?_, ?_, ?_⟩, ⟨ez_put l t b, ?_⟩, ?_⟩, ?_⟩
  · rw [List.getElem?_set_self (by rw [List.length_set]; omega)]
  · rw [List.getElem?_set_ne (by decide)]; exact h2
  · rw [List.getElem?_set_self l1]
  · rw [List.getElem?_set_ne (by decide), List.getElem?_set_self z1]
  · intro j hj
    rw [ez_at_eq, List.getElem?_set_ne (by omega), List.getElem?_set_ne (by omega), ← ez_at_eq]
    exact h5 j hj
  · have c16 : ¬ (1600 : Int32) ≤ nI t := show ¬ nI 1600 ≤ nI t from nI_ge ht (by decide)
    unfold z_X11_putOnTape_3 z_X11_putOnTape_47
    simp only [ez_let_eq]
    rw [if_neg hs, ev_gix h1 h3, ez_bd_some, if_neg (nI_pos (by omega)), ez_bd_some, if_neg c16, ev_grx h1 h2, ez_bd_some, ez_bd_some, ← hb, p1, ez_bd_some, ev_gix q0 h3, ez_bd_some, nI_1, p2, ez_bd_some]
set_option maxRecDepth 100000 in
theorem ev_TP4 {σ : ez_H} {t : Nat} (h : ev_TP σ t) (ht : t + 4 ≤ 1600) (x : Int32) : ∃ σ2, ev_TP σ2 (t + 4) ∧ z_X11_putOnTape σ 0 x = some ((), σ2) := by
  have ho : ∃ fs, ez_ob σ 11 0 = some fs := by
    obtain ⟨⟨fs, h1, -, -⟩, -, -⟩ := h
    exact ev_obx h1
  unfold z_X11_putOnTape
  rw [ez_bdo ho, show ez_N = 16379 + 1 + 1 + 1 + 1 + 1 from rfl, ez_fix1]
  obtain ⟨s1, h1, e1⟩ := ev_TP1 h (by omega) (ez_fix (fun _ _ _ _ => none) z_X11_putOnTape_3 (16379 + 1 + 1 + 1 + 1)) x 24 (by decide)
  rw [e1, ez_fix1]
  obtain ⟨s2, h2, e2⟩ := ev_TP1 h1 (by omega) (ez_fix (fun _ _ _ _ => none) z_X11_putOnTape_3 (16379 + 1 + 1 + 1)) x (24 + -8) (by decide)
  rw [e2, ez_fix1]
  obtain ⟨s3, h3, e3⟩ := ev_TP1 h2 (by omega) (ez_fix (fun _ _ _ _ => none) z_X11_putOnTape_3 (16379 + 1 + 1)) x (24 + -8 + -8) (by decide)
  rw [e3, ez_fix1]
  obtain ⟨s4, h4, e4⟩ := ev_TP1 h3 (by omega) (ez_fix (fun _ _ _ _ => none) z_X11_putOnTape_3 (16379 + 1)) x (24 + -8 + -8 + -8) (by decide)
  rw [e4, ez_fix1]
  refine ⟨s4, h4, ?_⟩
  generalize ez_fix (fun _ _ _ _ => none) z_X11_putOnTape_3 16379 = K
  unfold z_X11_putOnTape_3
  rw [if_pos (by decide)]
set_option maxRecDepth 100000 in
theorem ev_TP0 : ev_TP ev_s0 0 := ⟨⟨_, rfl, rfl, rfl⟩, ⟨_, rfl⟩, ev_MF0⟩
def ev_TQ (σ : ez_H) : Prop := (∃ fs : List ez_V, σ[170]? = some (.inr (.inr (.inr (12, fs)))) ∧ 2 < fs.length ∧ fs[0]? = some (.inr (.inr (some 171))) ∧ fs[2]? = some (.inl 0)) ∧ ∃ l, σ[171]? = some (.inl (0, 1620, l))
set_option maxRecDepth 100000 in
theorem ev_TQ0 {σ : ez_H} (h : ev_MF σ) : ev_TQ σ := by
  obtain ⟨fs, e1, e2, e3, e4, -⟩ := ev_mob h
  refine ⟨⟨fs, e1, by omega, e3, e4⟩, ?_⟩
  have e := h 171 (by decide)
  rw [ez_at_eq] at e
  rw [e]
  exact ⟨_, rfl⟩
set_option maxRecDepth 100000 in
theorem ev_TQ1 {σ : ez_H} (h : ev_TQ σ) {k : Nat} (hk : k < 20) (K : ez_H → Nat → Int32 → Int32 → Int32 → Int32 → Int32 → Int32 → Option (Int32 × ez_H)) (a b c d e y : Int32) : ∃ σ2, ev_TQ σ2 ∧ z_X12_feed_71 K σ 170 a b c d e (nI k) y = K σ2 170 a b c d e (nI (k + 1)) := by
  obtain ⟨⟨fs, h1, h2, h3, h4⟩, ⟨l, h5⟩⟩ := h
  have z1 : 171 < σ.length := (List.getElem?_eq_some_iff.mp h5).1
  obtain ⟨v, hv⟩ : ∃ v, v = vp_nar .byte (Int32.toInt8 (y >>> ((24 - 8 * (nI k &&& 3)) &&& 31))).toInt32 := ⟨_, rfl⟩
  have p1 := ev_isx (i := k) (x := v) h5 (by omega) (by decide)
  refine ⟨σ.set 171 (.inl (0, 1620, ez_put l k v)), ⟨⟨fs, ?_, h2, h3, h4⟩, ⟨ez_put l k v, ?_⟩⟩, ?_⟩
  · rw [List.getElem?_set_ne (by decide)]; exact h1
  · rw [List.getElem?_set_self z1]
  · unfold z_X12_feed_71
    simp only [ez_let_eq]
    rw [ev_grx h1 h3, ez_bd_some, ev_gix h1 h4, ez_bd_some, Int32.zero_add, ← hv, p1, ez_bd_some, nI_1]
set_option maxRecDepth 100000 in
theorem ev_TQ2 (a b c d e : Int32) : ∀ m n k (σ : ez_H), ev_TQ σ → k + m = 20 → m < n → ∃ σ2, ez_fix (fun _ _ _ _ _ _ _ _ => none) z_X12_feed_18 n σ 170 a b c d e (nI k) = some (20, σ2) := by
  intro m
  induction m with
  | zero =>
    intro n k σ h hk hn
    obtain ⟨j, rfl⟩ := ev_pos hn
    obtain ⟨⟨fs, h1, h2, h3, h4⟩, -⟩ := h
    have z1 : 170 < σ.length := (List.getElem?_eq_some_iff.mp h1).1
    have p2 := ev_pfx (k := 2) (x := 0 + 20) h1 h2
    have r2 : ez_gi (σ.set 170 (.inr (.inr (.inr (12, fs.set 2 (.inl (0 + 20))))))) 12 170 2 = some (0 + 20) := ev_gix (fs := fs.set 2 (.inl (0 + 20))) (by rw [List.getElem?_set_self z1]) (by rw [List.getElem?_set_self h2])
    rw [ez_fix1]
    generalize ez_fix (fun _ _ _ _ _ _ _ _ => none) z_X12_feed_18 j = K
    unfold z_X12_feed_18
    have c20 : (20 : Int32) ≤ nI k := show nI 20 ≤ nI k from nI_le (by omega) (by omega)
    refine ⟨σ.set 170 (.inr (.inr (.inr (12, fs.set 2 (.inl (0 + 20)))))), ?_⟩
    rw [if_pos c20, ev_gix h1 h4, ez_bd_some, ez_let_eq, p2, ez_bd_some, r2, ez_bd_some]
    rfl
  | succ m ih =>
    intro n k σ h hk hn
    obtain ⟨j, rfl⟩ := ev_pos hn
    rw [ez_fix1]
    have go : ∀ y : Int32, ∃ σ2, z_X12_feed_71 (ez_fix (fun _ _ _ _ _ _ _ _ => none) z_X12_feed_18 j) σ 170 a b c d e (nI k) y = some (20, σ2) := by
      intro y
      obtain ⟨s1, q1, q2⟩ := ev_TQ1 h (show k < 20 by omega) (ez_fix (fun _ _ _ _ _ _ _ _ => none) z_X12_feed_18 j) a b c d e y
      rw [q2]
      exact ih j (k + 1) s1 q1 (by omega) (by omega)
    revert go
    generalize ez_fix (fun _ _ _ _ _ _ _ _ => none) z_X12_feed_18 j = K
    intro go
    unfold z_X12_feed_18
    have c20 : ¬ (20 : Int32) ≤ nI k := show ¬ nI 20 ≤ nI k from nI_ge (by omega) (by decide)
    rw [if_neg c20]
    split
    · split
      · split
        · split
          · exact go _
          · exact go _
        · exact go _
      · exact go _
    · exact go _
set_option maxRecDepth 100000 in
theorem pr_feed (a0 a1 a2 a3 a4 : Int32) : ∃ r σ1 σ2, z_X11_feed ev_s0 0 a0 a1 a2 a3 a4 = some (r, σ1) ∧ z_X12_feed σ1 170 a0 a1 a2 a3 a4 = some (r, σ2) := by
  obtain ⟨s1, h1, e1⟩ := ev_TP4 ev_TP0 (by decide) a0
  obtain ⟨s2, h2, e2⟩ := ev_TP4 h1 (by decide) a1
  obtain ⟨s3, h3, e3⟩ := ev_TP4 h2 (by decide) a2
  obtain ⟨s4, h4, e4⟩ := ev_TP4 h3 (by decide) a3
  obtain ⟨s5, h5, e5⟩ := ev_TP4 h4 (by decide) a4
  obtain ⟨⟨fs, g1, g2, g3⟩, -, g4⟩ := id h5
  obtain ⟨s6, e6⟩ := ev_TQ2 a0 a1 a2 a3 a4 20 ez_N 0 s5 (ev_TQ0 g4) (by decide) (by decide)
  refine ⟨20, s5, s6, ?_, ?_⟩
  · unfold z_X11_feed
    rw [ez_bdo ev_o0, show ez_gi ev_s0 11 0 1 = some 0 from by decide +kernel, ez_bd_some, ez_let_eq, if_pos (by decide), e1, ez_b2_some, e2, ez_b2_some, e3, ez_b2_some, e4, ez_b2_some, e5, ez_b2_some, ev_gix g1 g3, ez_bd_some]
    rfl
  · unfold z_X12_feed
    rw [nI_0] at e6
    rw [ez_bdo (ev_m0 g4), show ez_gi s5 12 170 2 = some 0 from (ev_gi g4 (by decide)).trans (by decide +kernel), ez_bd_some, ez_let_eq, if_pos (by decide), e6]
