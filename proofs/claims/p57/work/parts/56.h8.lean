/-! The reader of a text: a line. -/
/-- what is known while a text is read -/
def PL (p : tz_P) (s : ez_H) : Prop := tp p s ∧ pm s ∧ (2 ≤ cr p s 173 ∧ cr p s 173 ≤ 5) ∧ (2 ≤ cr p s 174 ∧ cr p s 174 ≤ 6) ∧ RC p s
def FQ (p : tz_P) (s : ez_H) (nm : Int64) : Prop := (nm = 7038329 → cr p s 176 < 8) ∧ (nm = 1819239275 → cr p s 177 < 6) ∧ (nm = 1919905645 → cr p s 178 < 6) ∧ (nm = 1685024626 → cr p s 179 < 8) ∧ (nm = 123581014175598 → cr p s 180 < 4) ∧ (nm = 2003132786 → ¬ cr p s 183 / 8 % 2 = 1)
def OQ (p : tz_P) (σ : ez_H) (x2 x3 : Int32) (z : Int32 × ez_H) : Prop := tp p z.2 ∧ tm σ z.2 ∧ (∀ k, 43 ≤ k → k ≤ 48 → fv z.2 k = fv σ k) ∧ (∀ r i, tnr r = true → ¬ r = 183 → rv z.2 r i = rv σ r i) ∧ (cr p z.2 183 / 8 % 2 = 1 ↔ cr p σ 183 / 8 % 2 = 1) ∧ x2.toInt ≤ z.1.toInt ∧ (z.1.toInt = x2.toInt ∨ z.1.toInt ≤ x3.toInt)
section H8
variable {p : tz_P} {σ s s1 s2 : ez_H} {r : Nat} {i x x1 x2 x3 : Int32} {nm : Int64}
theorem RC_of (h : RC p σ) (h183 : cr p s 183 / 8 % 2 = 1 ↔ cr p σ 183 / 8 % 2 = 1) (h193 : cr p s 193 = cr p σ 193) (h194 : cr p s 194 = cr p σ 194) (h45 : fv s 45 = fv σ 45) (h0 : ∀ i, rv s 200 i = rv σ 200 i) : RC p s := by
  unfold RC at h ⊢
  rw [h193, h194, h45, funext h0]
  exact ⟨fun q => h.1 (h183.mp q), fun q => h.2 (fun w => q (h183.mpr w))⟩
theorem PL_PW (h : PL p σ) (h2 : PW p σ s) : PL p s := by
  obtain ⟨a1, a2, a3, a4, a5⟩ := h
  obtain ⟨b1, b2, b3, b4⟩ := h2
  have k173 : cr p s 173 = cr p σ 173 := b4 173 _ (by decide)
  have k174 : cr p s 174 = cr p σ 174 := b4 174 _ (by decide)
  have k183 : cr p s 183 = cr p σ 183 := b4 183 _ (by decide)
  refine ⟨b1, (b2 a2).1, by rw [k173]; exact a3, by rw [k174]; exact a4, RC_of a5 (by rw [k183]) (b4 193 _ (by decide)) (b4 194 _ (by decide)) (b3 45 (by decide) (by decide)) (fun i => b4 200 i (by decide))⟩
theorem isFullE (hT : tp p s) (hn : ez_gl s 12 170 10 = some nm) (h8 : fv s 8 = 3) : tz_O (fun z : Int32 => z = 0 → FQ p s nm) (z_X12_isFull s 170) := by
  have no : (¬ nm = 7038329) → (¬ nm = 1819239275) → (¬ nm = 1919905645) → (¬ nm = 1685024626) → (¬ nm = 123581014175598) → (¬ nm = 2003132786) → FQ p s nm := fun a b c d e f => ⟨fun q => absurd q a, fun q => absurd q b, fun q => absurd q c, fun q => absurd q d, fun q => absurd q e, fun q => absurd q f⟩
  have nz : ∀ {t : Int32} {w : Int64}, (t = 0 ↔ ¬ (fv s 8 = 3 ∧ nm = w)) → t = 0 → ¬ nm = w := fun h q w => h.mp q ⟨h8, w⟩
  have ny : ∀ {t : Int32} {w : Int64}, (t = 0 ↔ ¬ (fv s 8 = 3 ∧ nm = w)) → ¬ t = 0 → nm = w := fun {t w} h q => by
    by_cases e : nm = w
    · exact e
    · exact absurd (h.mpr (fun v => e v.2)) q
  unfold z_X12_isFull
  refine tz_bd (tz_ob (G := tz_Gp p) (a := 170) (ci := 12) hT tc_170) (fun _ _ => ?_)
  refine tz_bd (isWordE hT hn) (fun t h1 => tz_if _ (fun c1 => ?_) (fun c => ?_))
  rotate_left
  · have e := ny h1 c
    refine tz_bd (tz_X12_isLate hT tc_170) (fun t i => tz_nr (tq_nr_boolean i) (tz_some (fun _ => ?_)))
    subst e
    exact no (by decide) (by decide) (by decide) (by decide) (by decide) (by decide)
  refine tz_bd (isWordE hT hn) (fun t h2 => tz_if _ (fun c2 => ?_) (fun c => ?_))
  rotate_left
  · have e := ny h2 c
    refine tz_bd (tz_X12_isLate hT tc_170) (fun t i => tz_nr (tq_nr_boolean i) (tz_some (fun _ => ?_)))
    subst e
    exact no (by decide) (by decide) (by decide) (by decide) (by decide) (by decide)
  refine tz_bd (isWordE hT hn) (fun t h3 => tz_if _ (fun c3 => ?_) (fun c => ?_))
  rotate_left
  · have e := ny h3 c
    refine tz_bd (tz_X12_isLate hT tc_170) (fun t i => tz_nr (tq_nr_boolean i) (tz_some (fun _ => ?_)))
    subst e
    exact no (by decide) (by decide) (by decide) (by decide) (by decide) (by decide)
  refine tz_bd (isWordE hT hn) (fun t h4 => tz_if _ (fun c4 => ?_) (fun c => ?_))
  rotate_left
  · have e := ny h4 c
    refine tz_bk (tr_14 hT tc_170) ?_
    refine tz_bd (rbE hT) (fun t5 h5 => ?_)
    refine tz_bd (rdC hT tc_176 (te_176 (p := p)) h5.1) (fun t6 h6 => ?_)
    unfold z_X12_isFull_77
    refine tz_if _ (fun _ => tz_nr (tq_nr_boolean ⟨by decide, by decide⟩) (tz_some (fun q => absurd q i1n))) (fun c => tz_nr (tq_nr_boolean ⟨by decide, by decide⟩) (tz_some (fun _ => ?_)))
    have c := ne_c c
    rw [i8e] at c
    subst e
    exact ⟨fun _ => by omega, fun q => absurd q (by decide), fun q => absurd q (by decide), fun q => absurd q (by decide), fun q => absurd q (by decide), fun q => absurd q (by decide)⟩
  refine tz_bd (isWordE hT hn) (fun t h5 => tz_if _ (fun c5 => ?_) (fun c => ?_))
  rotate_left
  · have e := ny h5 c
    refine tz_bk (tr_15 hT tc_170) ?_
    refine tz_bd (rbE hT) (fun t5 h5 => ?_)
    refine tz_bd (rdC hT tc_177 (te_177 (p := p)) h5.1) (fun t6 h6 => ?_)
    unfold z_X12_isFull_107
    refine tz_if _ (fun _ => tz_nr (tq_nr_boolean ⟨by decide, by decide⟩) (tz_some (fun q => absurd q i1n))) (fun c => tz_nr (tq_nr_boolean ⟨by decide, by decide⟩) (tz_some (fun _ => ?_)))
    have c := ne_c c
    rw [i6e] at c
    subst e
    exact ⟨fun q => absurd q (by decide), fun _ => by omega, fun q => absurd q (by decide), fun q => absurd q (by decide), fun q => absurd q (by decide), fun q => absurd q (by decide)⟩
  refine tz_bd (isWordE hT hn) (fun t h6 => tz_if _ (fun c6 => ?_) (fun c => ?_))
  rotate_left
  · have e := ny h6 c
    refine tz_bk (tr_16 hT tc_170) ?_
    refine tz_bd (rbE hT) (fun t5 h5 => ?_)
    refine tz_bd (rdC hT tc_178 (te_178 (p := p)) h5.1) (fun t6 h6 => ?_)
    unfold z_X12_isFull_137
    refine tz_if _ (fun _ => tz_nr (tq_nr_boolean ⟨by decide, by decide⟩) (tz_some (fun q => absurd q i1n))) (fun c => tz_nr (tq_nr_boolean ⟨by decide, by decide⟩) (tz_some (fun _ => ?_)))
    have c := ne_c c
    rw [i6e] at c
    subst e
    exact ⟨fun q => absurd q (by decide), fun q => absurd q (by decide), fun _ => by omega, fun q => absurd q (by decide), fun q => absurd q (by decide), fun q => absurd q (by decide)⟩
  refine tz_bd (isWordE hT hn) (fun t h7 => tz_if _ (fun c7 => ?_) (fun c => ?_))
  rotate_left
  · have e := ny h7 c
    refine tz_bk (tr_17 hT tc_170) ?_
    refine tz_bd (rbE hT) (fun t5 h5 => ?_)
    refine tz_bd (rdC hT tc_179 (te_179 (p := p)) h5.1) (fun t6 h6 => ?_)
    unfold z_X12_isFull_167
    refine tz_if _ (fun _ => tz_nr (tq_nr_boolean ⟨by decide, by decide⟩) (tz_some (fun q => absurd q i1n))) (fun c => tz_nr (tq_nr_boolean ⟨by decide, by decide⟩) (tz_some (fun _ => ?_)))
    have c := ne_c c
    rw [i8e] at c
    subst e
    exact ⟨fun q => absurd q (by decide), fun q => absurd q (by decide), fun q => absurd q (by decide), fun _ => by omega, fun q => absurd q (by decide), fun q => absurd q (by decide)⟩
  refine tz_bd (isWordE hT hn) (fun t h9 => tz_if _ (fun c9 => ?_) (fun c => ?_))
  rotate_left
  · have e := ny h9 c
    refine tz_bk (tr_18 hT tc_170) ?_
    refine tz_bd (rbE hT) (fun t5 h5 => ?_)
    refine tz_bd (rdC hT tc_180 (te_180 (p := p)) h5.1) (fun t6 h6 => ?_)
    unfold z_X12_isFull_196
    refine tz_if _ (fun _ => tz_nr (tq_nr_boolean ⟨by decide, by decide⟩) (tz_some (fun q => absurd q i1n))) (fun c => tz_nr (tq_nr_boolean ⟨by decide, by decide⟩) (tz_some (fun _ => ?_)))
    have c := ne_c c
    rw [i4e] at c
    subst e
    exact ⟨fun q => absurd q (by decide), fun q => absurd q (by decide), fun q => absurd q (by decide), fun q => absurd q (by decide), fun _ => by omega, fun q => absurd q (by decide)⟩
  refine tz_bd (isWordE hT hn) (fun t hm => tz_if _ (fun cm => ?_) (fun c => ?_))
  rotate_left
  · have e := ny hm c
    unfold z_X12_isFull_217
    refine tz_some (fun _ => ?_)
    subst e
    exact no (by decide) (by decide) (by decide) (by decide) (by decide) (by decide)
  refine tz_bd (isWordE hT hn) (fun t hm => tz_if _ (fun cm => ?_) (fun c => ?_))
  rotate_left
  · have e := ny hm c
    unfold z_X12_isFull_217
    refine tz_some (fun _ => ?_)
    subst e
    exact no (by decide) (by decide) (by decide) (by decide) (by decide) (by decide)
  refine tz_bd (isWordE hT hn) (fun t hw => tz_if _ (fun cw => ?_) (fun c => ?_))
  rotate_left
  · have e := ny hw c
    refine tz_bk (tr_21 hT tc_170) ?_
    refine tz_bd (rbE hT) (fun t5 h5 => ?_)
    refine tz_bd (rd183 hT h5.1) (fun t6 g6 => ?_)
    refine tz_bd (bitE (x := t6) (k := 3) tk_3 (by decide) (by decide)) (fun t7 h7 => ?_)
    refine tz_nr (tq_nr_boolean h7.1) (tz_some (fun q => ?_))
    have e3 : (3 : Int32).toInt.toNat = 3 := by decide
    have hf := h7.2.mp q
    rw [e3] at hf
    subst e
    refine ⟨fun q => absurd q (by decide), fun q => absurd q (by decide), fun q => absurd q (by decide), fun q => absurd q (by decide), fun q => absurd q (by decide), fun _ w => ?_⟩
    rw [← g6, tb_8, hf] at w
    cases w
  have f : FQ p s nm := no (nz h4 c4) (nz h5 c5) (nz h6 c6) (nz h7 c7) (nz h9 c9) (nz hw cw)
  unfold z_X12_isFull_269 z_X12_isFull_274
  refine tz_bd (isWordE hT hn) (fun t hd => tz_if _ (fun cd => tz_nr (tq_nr_boolean ⟨by decide, by decide⟩) (tz_some (fun _ => f))) (fun c => ?_))
  refine tz_bk (tr_21 hT tc_170) ?_
  refine tz_bd (rbE hT) (fun t5 h5 => ?_)
  refine tz_bd (rd183 hT h5.1) (fun t6 h6 => ?_)
  refine tz_bd (tz_X12_bit hT) (fun t7 _ => ?_)
  exact tz_if _ (fun _ => tz_nr (tq_nr_boolean ⟨by decide, by decide⟩) (tz_some (fun _ => f))) (fun _ => tz_nr (tq_nr_boolean ⟨by decide, by decide⟩) (tz_some (fun _ => f)))
theorem onceE (hT : tp p σ) (hm : pm σ) (hb : ¬ p.1 3 = p.1 2) (hx : tq_iv 0 4 x1) (h3 : ¬ x1.toInt = 3) : tz_O (OQ p σ x2 x3) (z_X12_once σ 170 x1 x2 x3) := by
  unfold z_X12_once
  refine tz_bd (tz_ob (G := tz_Gp p) (a := 170) (ci := 12) hT tc_170) (fun _ _ => ?_)
  refine tz_bk (tr_21 hT tc_170) ?_
  refine tz_bd (rbE hT) (fun t5 h5 => ?_)
  refine tz_bd (rd183 hT h5.1) (fun t9 h9 => tz_let (fun t12 e12 => tz_let (fun t13 e13 => ?_)))
  refine tz_be (isRT (x := t13) hT hb h5.1 (Or.inl rfl)) (fun s1 c1 hs1 => ?_)
  have m1 : tm σ s1 := tm_is tm_0 c1
  refine tz_b3 (numE (x1 := x2) (x2 := x3) (x3 := 0) hs1 (m1 hm).1) (fun t19 s2 hn => ?_)
  obtain ⟨n1, n2, n3⟩ := hn
  have n1 : PR p s1 s2 := n1
  have hbit : cr p s2 183 / 8 % 2 = 1 ↔ cr p σ 183 / 8 % 2 = 1 := by
    rw [cr_PR n1 (by decide), cr_isS c1 h5.1, ← h9, tb_8, tb_8, e13, tb_or, tb_s e12 hx (by decide) (by decide) 3 (by decide)]
    have : Nat.beq 3 x1.toInt.toNat = false := by
      cases w : Nat.beq 3 x1.toInt.toNat with
      | false => rfl
      | true =>
        have := Nat.eq_of_beq_eq_true w
        have := hx.1
        omega
    rw [this, Bool.or_false]
  exact tz_some ⟨n1.1, tm_tr m1 n1.2.1, fun k a b => (n1.2.2.1 k a b).trans (fv_is c1), fun r i q w => (n1.2.2.2 r i q).trans (rv_is_ne c1 w i), hbit, n2, n3⟩
/-- a number that is told once, written -/
theorem PL_once {a : Nat} {z : Int32 × ez_H} (h : PL p σ) (ho : OQ p σ x2 x3 z) (c : ez_is z.2 1 a i z.1 = some s) (hT : tp p s) (hi : i.toInt = p.1 3) (ha : (a = 173 ∧ x2.toInt = 2 ∧ x3.toInt = 5) ∨ (a = 174 ∧ x2.toInt = 2 ∧ x3.toInt = 6) ∨ a = 175 ∨ a = 182) : PL p s ∧ M s ≤ M σ := by
  obtain ⟨a1, a2, a3, a4, a5⟩ := h
  obtain ⟨b1, b2, b3, b4, b5, b6, b7⟩ := ho
  have hM : M s = M z.2 := M_of (fv_is c) (fv_is c) (fv_is c)
  have hp : pm s := by
    have := (b2 a2).1
    unfold pm at this ⊢
    rw [fv_is c, fv_is c]
    exact this
  have k173 : 2 ≤ cr p s 173 ∧ cr p s 173 ≤ 5 := by
    by_cases q : 173 = a
    · subst q
      rw [cr_isS c hi]
      rcases ha with w | w | w | w <;> omega
    · have e : cr p s 173 = cr p σ 173 := (cr_is c q).trans (b4 173 _ (by decide) (by decide))
      rw [e]
      exact a3
  have k174 : 2 ≤ cr p s 174 ∧ cr p s 174 ≤ 6 := by
    by_cases q : 174 = a
    · subst q
      rw [cr_isS c hi]
      rcases ha with w | w | w | w <;> omega
    · have e : cr p s 174 = cr p σ 174 := (cr_is c q).trans (b4 174 _ (by decide) (by decide))
      rw [e]
      exact a4
  have hne : ¬ 183 = a ∧ ¬ 193 = a ∧ ¬ 194 = a ∧ ¬ 200 = a := by
    rcases ha with w | w | w | w <;> omega
  refine ⟨⟨hT, hp, k173, k174, RC_of a5 (by rw [cr_is c hne.1]; exact b5) ((cr_is c hne.2.1).trans (b4 193 _ (by decide) (by decide))) ((cr_is c hne.2.2.1).trans (b4 194 _ (by decide) (by decide))) ((fv_is c).trans (b3 45 (by decide) (by decide))) (fun i => (rv_is_ne c hne.2.2.2 i).trans (b4 200 i (by decide) (by decide)))⟩, ?_⟩
  have := (b2 a2).2.1
  omega
theorem lineE (hb : ¬ p.1 3 = p.1 2) (hL : PL p σ) (h4 : fv σ 4 = 0) (h8 : ¬ fv σ 8 = 0) : tz_O (fun z : Unit × ez_H => PL p z.2 ∧ M z.2 < M σ) (z_X12_readLine σ 170) := by
  have gr := gh_r hL.1.1
  have gb := gh_b hL.1.1
  have mle : ∀ {s s' : ez_H}, PL p s → tm s s' → M s < M σ → M s' < M σ := fun h t q => by have := (t h.2.1).2.1; omega
  have step : ∀ {s s' : ez_H}, PL p s ∧ M s < M σ → PW p s s' → PL p s' ∧ M s' < M σ := fun h t => ⟨PL_PW h.1 t, mle h.1 t.2.1 h.2⟩
  have K239 : ∀ s, PL p s ∧ M s < M σ → tz_O (fun z : Unit × ez_H => PL p z.2 ∧ M z.2 < M σ) (z_X12_readLine_239 s 170) := by
    intro s hs
    unfold z_X12_readLine_239
    refine tz_bd (isSignE hs.1.1) (fun t243 _ => ?_)
    refine tz_b3 (mustE (x1 := t243) hs.1.1 hs.1.2.1) (fun _ s2 hs2 => ?_)
    exact tz_some (step hs (PW_PR hs2.1))
  have K213 : ∀ s nm, PL p s ∧ M s < M σ → tz_O (fun z : Unit × ez_H => PL p z.2 ∧ M z.2 < M σ) (z_X12_readLine_213 s 170 nm) := by
    intro s nm hs
    unfold z_X12_readLine_213
    refine tz_let (fun t e => tz_if _ (fun c => ?_) (fun _ => K239 s hs))
    refine tz_bk (tr_20 hs.1.1 tc_170) ?_
    refine tz_bd (rbE hs.1.1) (fun t226 h226 => ?_)
    refine tz_b3 (onceE (x1 := 4) (x2 := 0) (x3 := 999) hs.1.1 hs.1.2.1 hb ⟨by decide, by decide⟩ (by decide)) (fun t235 s2 ho => ?_)
    have b1 := ho.1
    have b6 : (0 : Int32).toInt ≤ t235.toInt := ho.2.2.2.2.2.1
    have b7 : t235.toInt = (0 : Int32).toInt ∨ t235.toInt ≤ (999 : Int32).toInt := ho.2.2.2.2.2.2
    have e999 : (999 : Int32).toInt = 999 := by decide
    rw [i0e] at b6 b7
    rw [e999] at b7
    refine tz_be (wrC b1 tc_182 (te_182 (p := p)) h226.1 (x := t235) ⟨by omega, by omega⟩) (fun s3 c3 hs3 => ?_)
    have := PL_once (z := (t235, s2)) hs.1 ho c3 hs3 h226.1 (Or.inr (Or.inr (Or.inr rfl)))
    exact K239 s3 ⟨this.1, by have := this.2; omega⟩
  have K201 : ∀ s nm, PL p s ∧ M s < M σ → (nm = 2003132786 → ¬ cr p s 183 / 8 % 2 = 1) → tz_O (fun z : Unit × ez_H => PL p z.2 ∧ M z.2 < M σ) (z_X12_readLine_201 s 170 nm) := by
    intro s nm hs hw
    unfold z_X12_readLine_201
    refine tz_let (fun t e => tz_if _ (fun c => ?_) (fun _ => K213 s nm hs))
    rw [e, lg_0] at c
    refine tz_b3 (ruleE hs.1.1 hs.1.2.1 hb (hs.1.2.2.2.2.2 (hw c))) (fun _ s2 hs2 => ?_)
    obtain ⟨b1, b2, b3, b4, b5⟩ := hs2
    obtain ⟨⟨a1, a2, a3, a4, a5⟩, hMs⟩ := hs
    have b2 : tm s s2 := b2
    refine K213 s2 nm ⟨⟨b1, (b2 a2).1, ?_, ?_, b5⟩, by have := (b2 a2).2.1; omega⟩
    · have e : cr p s2 173 = cr p s 173 := b3 _
      rw [e]
      exact a3
    · have e : cr p s2 174 = cr p s 174 := b4 _
      rw [e]
      exact a4
  have K185 : ∀ s nm, PL p s ∧ M s < M σ → (nm = 2003132786 → ¬ cr p s 183 / 8 % 2 = 1) → tz_O (fun z : Unit × ez_H => PL p z.2 ∧ M z.2 < M σ) (z_X12_readLine_185 s 170 nm) := by
    intro s nm hs hw
    unfold z_X12_readLine_185
    refine tz_let (fun t e => tz_if _ (fun c => ?_) (fun _ => K201 s nm hs hw))
    rw [e, lg_0] at c
    refine tz_bk (tr_30 hs.1.1 tc_170) ?_
    refine tz_b3 (readRightE hs.1.1 hs.1.2.1 tc_192 (by decide)) (fun _ s2 hs2 => ?_)
    exact K201 s2 nm (step hs hs2) (fun q => by rw [c] at q; exact absurd q (by decide))
  have K169 : ∀ s nm, PL p s ∧ M s < M σ → (nm = 2003132786 → ¬ cr p s 183 / 8 % 2 = 1) → tz_O (fun z : Unit × ez_H => PL p z.2 ∧ M z.2 < M σ) (z_X12_readLine_169 s 170 nm) := by
    intro s nm hs hw
    unfold z_X12_readLine_169
    refine tz_let (fun t e => tz_if _ (fun c => ?_) (fun _ => K185 s nm hs hw))
    rw [e, lg_0] at c
    refine tz_bk (tr_29 hs.1.1 tc_170) ?_
    refine tz_b3 (readRightE hs.1.1 hs.1.2.1 tc_191 (by decide)) (fun _ s2 hs2 => ?_)
    exact K185 s2 nm (step hs hs2) (fun q => by rw [c] at q; exact absurd q (by decide))
  have K157 : ∀ s nm, PL p s ∧ M s < M σ → (nm = 123581014175598 → cr p s 180 < 4) → (nm = 2003132786 → ¬ cr p s 183 / 8 % 2 = 1) → tz_O (fun z : Unit × ez_H => PL p z.2 ∧ M z.2 < M σ) (z_X12_readLine_157 s 170 nm) := by
    intro s nm hs hp hw
    unfold z_X12_readLine_157
    refine tz_let (fun t e => tz_if _ (fun c => ?_) (fun _ => K169 s nm hs hw))
    rw [e, lg_0] at c
    refine tz_b3 (readPersonE hs.1.1 hs.1.2.1 (hp c)) (fun _ s2 hs2 => ?_)
    exact K169 s2 nm (step hs hs2) (fun q => by rw [c] at q; exact absurd q (by decide))
  have K145 : ∀ s nm, PL p s ∧ M s < M σ → (nm = 1685024626 → cr p s 179 < 8) → (nm = 123581014175598 → cr p s 180 < 4) → (nm = 2003132786 → ¬ cr p s 183 / 8 % 2 = 1) → tz_O (fun z : Unit × ez_H => PL p z.2 ∧ M z.2 < M σ) (z_X12_readLine_145 s 170 nm) := by
    intro s nm hs hd hp hw
    unfold z_X12_readLine_145
    refine tz_let (fun t e => tz_if _ (fun c => ?_) (fun _ => K157 s nm hs hp hw))
    rw [e, lg_0] at c
    refine tz_b3 (readDoorE hs.1.1 hs.1.2.1 (hd c)) (fun _ s2 hs2 => ?_)
    exact K157 s2 nm (step hs hs2) (fun q => by rw [c] at q; exact absurd q (by decide)) (fun q => by rw [c] at q; exact absurd q (by decide))
  have K133 : ∀ s nm, PL p s ∧ M s < M σ → (nm = 1919905645 → cr p s 178 < 6) → (nm = 1685024626 → cr p s 179 < 8) → (nm = 123581014175598 → cr p s 180 < 4) → (nm = 2003132786 → ¬ cr p s 183 / 8 % 2 = 1) → tz_O (fun z : Unit × ez_H => PL p z.2 ∧ M z.2 < M σ) (z_X12_readLine_133 s 170 nm) := by
    intro s nm hs hr hd hp hw
    unfold z_X12_readLine_133
    refine tz_let (fun t e => tz_if _ (fun c => ?_) (fun _ => K145 s nm hs hd hp hw))
    rw [e, lg_0] at c
    refine tz_b3 (readRoomE hs.1.1 hs.1.2.1 (hr c)) (fun _ s2 hs2 => ?_)
    exact K145 s2 nm (step hs hs2) (fun q => by rw [c] at q; exact absurd q (by decide)) (fun q => by rw [c] at q; exact absurd q (by decide)) (fun q => by rw [c] at q; exact absurd q (by decide))
  have K121 : ∀ s nm, PL p s ∧ M s < M σ → (nm = 1819239275 → cr p s 177 < 6) → (nm = 1919905645 → cr p s 178 < 6) → (nm = 1685024626 → cr p s 179 < 8) → (nm = 123581014175598 → cr p s 180 < 4) → (nm = 2003132786 → ¬ cr p s 183 / 8 % 2 = 1) → tz_O (fun z : Unit × ez_H => PL p z.2 ∧ M z.2 < M σ) (z_X12_readLine_121 s 170 nm) := by
    intro s nm hs hl hr hd hp hw
    unfold z_X12_readLine_121
    refine tz_let (fun t e => tz_if _ (fun c => ?_) (fun _ => K133 s nm hs hr hd hp hw))
    rw [e, lg_0] at c
    refine tz_b3 (readLockE hs.1.1 hs.1.2.1 (hl c)) (fun _ s2 hs2 => ?_)
    exact K133 s2 nm (step hs hs2) (fun q => by rw [c] at q; exact absurd q (by decide)) (fun q => by rw [c] at q; exact absurd q (by decide)) (fun q => by rw [c] at q; exact absurd q (by decide)) (fun q => by rw [c] at q; exact absurd q (by decide))
  have K109 : ∀ s nm, PL p s ∧ M s < M σ → FQ p s nm → tz_O (fun z : Unit × ez_H => PL p z.2 ∧ M z.2 < M σ) (z_X12_readLine_109 s 170 nm) := by
    intro s nm hs hf
    obtain ⟨hk, hl, hr, hd, hp, hw⟩ := hf
    unfold z_X12_readLine_109
    refine tz_let (fun t e => tz_if _ (fun c => ?_) (fun _ => K121 s nm hs hl hr hd hp hw))
    rw [e, lg_0] at c
    refine tz_b3 (readKeyE hs.1.1 hs.1.2.1 (hk c)) (fun _ s2 hs2 => ?_)
    exact K121 s2 nm (step hs hs2) (fun q => by rw [c] at q; exact absurd q (by decide)) (fun q => by rw [c] at q; exact absurd q (by decide)) (fun q => by rw [c] at q; exact absurd q (by decide)) (fun q => by rw [c] at q; exact absurd q (by decide)) (fun q => by rw [c] at q; exact absurd q (by decide))
  have vac : ∀ s nm, nm = 1937007984 ∨ nm = 110386841151603 ∨ nm = 7163082329762919027 → FQ p s nm := by
    intro s nm h
    rcases h with h | h | h <;> subst h <;> exact ⟨fun q => absurd q (by decide), fun q => absurd q (by decide), fun q => absurd q (by decide), fun q => absurd q (by decide), fun q => absurd q (by decide), fun q => absurd q (by decide)⟩
  have K85 : ∀ s nm, PL p s ∧ M s < M σ → FQ p s nm → tz_O (fun z : Unit × ez_H => PL p z.2 ∧ M z.2 < M σ) (z_X12_readLine_85 s 170 nm) := by
    intro s nm hs hf
    unfold z_X12_readLine_85
    refine tz_let (fun t e => tz_if _ (fun c => ?_) (fun _ => K109 s nm hs hf))
    rw [e, lg_0] at c
    refine tz_bk (tr_13 hs.1.1 tc_170) ?_
    refine tz_bd (rbE hs.1.1) (fun t98 h98 => ?_)
    refine tz_b3 (onceE (x1 := 2) (x2 := 0) (x3 := 5) hs.1.1 hs.1.2.1 hb ⟨by decide, by decide⟩ (by decide)) (fun t105 s2 ho => ?_)
    have b1 := ho.1
    have b6 : (0 : Int32).toInt ≤ t105.toInt := ho.2.2.2.2.2.1
    have b7 : t105.toInt = (0 : Int32).toInt ∨ t105.toInt ≤ (5 : Int32).toInt := ho.2.2.2.2.2.2
    rw [i0e] at b6 b7
    rw [i5e] at b7
    refine tz_be (wrC b1 tc_175 (te_175 (p := p)) h98.1 (x := t105) ⟨by omega, by omega⟩) (fun s3 c3 hs3 => ?_)
    have := PL_once (z := (t105, s2)) hs.1 ho c3 hs3 h98.1 (Or.inr (Or.inr (Or.inl rfl)))
    exact K109 s3 nm ⟨this.1, by have := this.2; omega⟩ (vac _ _ (Or.inl c))
  have K60 : ∀ s nm, PL p s ∧ M s < M σ → FQ p s nm → tz_O (fun z : Unit × ez_H => PL p z.2 ∧ M z.2 < M σ) (z_X12_readLine_60 s 170 nm) := by
    intro s nm hs hf
    unfold z_X12_readLine_60
    refine tz_let (fun t e => tz_if _ (fun c => ?_) (fun _ => K85 s nm hs hf))
    rw [e, lg_0] at c
    refine tz_bk (tr_12 hs.1.1 tc_170) ?_
    refine tz_bd (rbE hs.1.1) (fun t73 h73 => ?_)
    refine tz_b3 (onceE (x1 := 1) (x2 := 2) (x3 := 6) hs.1.1 hs.1.2.1 hb ⟨by decide, by decide⟩ (by decide)) (fun t81 s2 ho => ?_)
    have b1 := ho.1
    have b6 : (2 : Int32).toInt ≤ t81.toInt := ho.2.2.2.2.2.1
    have b7 : t81.toInt = (2 : Int32).toInt ∨ t81.toInt ≤ (6 : Int32).toInt := ho.2.2.2.2.2.2
    have e2 : (2 : Int32).toInt = 2 := by decide
    rw [e2] at b6 b7
    rw [i6e] at b7
    refine tz_be (tz_isS (G := tz_Gp p) (r := 174) b1 tc_174 (tS_174 (p := p) 0 1 2 6 (by decide)) (i := t73) (x := t81) ⟨by omega, by omega⟩ (by decide) (by decide) ⟨by omega, by omega⟩) (fun s3 c3 hs3 => ?_)
    have := PL_once (z := (t81, s2)) hs.1 ho c3 hs3 h73.1 (Or.inr (Or.inl ⟨rfl, by decide, by decide⟩))
    exact K85 s3 nm ⟨this.1, by have := this.2; omega⟩ (vac _ _ (Or.inr (Or.inl c)))
  have K24 : ∀ s nm, (s = σ ∧ FQ p σ nm) ∨ FL p σ s → tz_O (fun z : Unit × ez_H => PL p z.2 ∧ M z.2 < M σ) (z_X12_readLine_24 s 170 nm) := by
    intro s nm hs
    have hP : PL p s := by
      rcases hs with h | h
      · rw [h.1]; exact hL
      · exact PL_PW hL (PW_PR h.1)
    unfold z_X12_readLine_24
    refine tz_bd (isGoodE hP.1) (fun t25 h25 => tz_if _ (fun c => ?_) (fun c => ?_))
    · rcases hs with h | h
      · have := h25.mp c
        rw [h.1] at this
        exact absurd h4 this
      · exact tz_some ⟨hP, h.2.2 h4⟩
    · have g4 : fv s 4 = 0 := by
        by_cases q : fv s 4 = 0
        · exact q
        · exact absurd (h25.mpr q) c
      have hss : s = σ ∧ FQ p σ nm := by
        rcases hs with h | h
        · exact h
        · exact absurd g4 h.2.1
      obtain ⟨hss, hf⟩ := hss
      subst hss
      refine tz_b3 (goE hP.1 hP.2.1) (fun _ s2 hs2 => ?_)
      obtain ⟨hs2, hM2⟩ := hs2
      have hs2 : PR p s s2 := hs2
      have hM2 : M s2 < M s := hM2 h8
      have hI : PL p s2 ∧ M s2 < M s := ⟨PL_PW hP (PW_PR hs2), hM2⟩
      have hf2 : FQ p s2 nm := by
        unfold FQ
        rw [cr_PR hs2 (r := 176) (by decide), cr_PR hs2 (r := 177) (by decide), cr_PR hs2 (r := 178) (by decide), cr_PR hs2 (r := 179) (by decide), cr_PR hs2 (r := 180) (by decide), cr_PR hs2 (r := 183) (by decide)]
        exact hf
      refine tz_let (fun t e => tz_if _ (fun c => ?_) (fun _ => K60 s2 nm hI hf2))
      rw [e, lg_0] at c
      refine tz_bk (tr_11 hI.1.1 tc_170) ?_
      refine tz_bd (rbE hI.1.1) (fun t49 h49 => ?_)
      refine tz_b3 (onceE (x1 := 0) (x2 := 2) (x3 := 5) hI.1.1 hI.1.2.1 hb ⟨by decide, by decide⟩ (by decide)) (fun t56 s3 ho => ?_)
      have b1 := ho.1
      have b6 : (2 : Int32).toInt ≤ t56.toInt := ho.2.2.2.2.2.1
      have b7 : t56.toInt = (2 : Int32).toInt ∨ t56.toInt ≤ (5 : Int32).toInt := ho.2.2.2.2.2.2
      have e2 : (2 : Int32).toInt = 2 := by decide
      rw [e2] at b6 b7
      rw [i5e] at b7
      refine tz_be (tz_isS (G := tz_Gp p) (r := 173) b1 tc_173 (tS_173 (p := p) 0 1 2 5 (by decide)) (i := t49) (x := t56) ⟨by omega, by omega⟩ (by decide) (by decide) ⟨by omega, by omega⟩) (fun s4 c4 hs4 => ?_)
      have := PL_once (z := (t56, s3)) hI.1 ho c4 hs4 h49.1 (Or.inl ⟨rfl, by decide, by decide⟩)
      exact K60 s4 nm ⟨this.1, by have := this.2; omega⟩ (vac _ _ (Or.inr (Or.inr c)))
  have K20 : ∀ nm, tz_O (fun z : Unit × ez_H => PL p z.2 ∧ M z.2 < M σ) (z_X12_readLine_20 σ 170 nm) := by
    intro nm
    unfold z_X12_readLine_20
    refine tz_b3 (misE hL.1) (fun _ s hs => ?_)
    exact K24 s nm (Or.inr hs)
  obtain ⟨nm, hn⟩ := nmE hL.1
  unfold z_X12_readLine
  refine tz_bd (tz_ob (G := tz_Gp p) (a := 170) (ci := 12) hL.1 tc_170) (fun _ _ => ?_)
  refine tz_bk hn ?_
  refine tz_bd (gf (tg_12_8 hL.1 tc_170)) (fun t6 h6 => tz_if _ (fun c => ?_) (fun _ => K20 nm))
  have c := eq_c c
  have e3 : (3 : Int32).toInt = 3 := by decide
  refine tz_bd (isFullE hL.1 hn (by omega)) (fun t14 h14 => tz_if _ (fun c => ?_) (fun _ => K20 nm))
  exact K24 σ nm (Or.inl ⟨rfl, h14 c⟩)
end H8
