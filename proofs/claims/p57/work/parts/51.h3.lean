/-! The reader of a text: small pieces. -/
/-- what a small piece leaves -/
def PR (p : tz_P) (σ s : ez_H) : Prop := tp p s ∧ tm σ s ∧ tn σ s
theorem tz_b3 {α β γ : Type} {P : α × γ → Prop} {Q : β → Prop} {o : Option (α × γ)} {g : α → γ → Option β} (h : tz_O P o) (hg : ∀ x y, P (x, y) → tz_O Q (g x y)) : tz_O Q (ez_b2 o g) := by
  obtain ⟨⟨x, y⟩, e, hx⟩ := h
  rw [e]
  exact hg x y hx
section H3
variable {p : tz_P} {σ s s1 : ez_H}
theorem PR_0 (hT : tp p σ) : PR p σ σ := ⟨hT, tm_0, tn_0⟩
theorem PR_tr (h : PR p σ s) (h2 : PR p s s1) : PR p σ s1 := ⟨h2.1, tm_tr h.2.1 h2.2.1, tn_tr h.2.2 h2.2.2⟩
theorem PR_pm (h : PR p σ s) (hm : pm σ) : pm s := (h.2.1 hm).1
theorem PR_M (h : PR p σ s) (hm : pm σ) : M s ≤ M σ := (h.2.1 hm).2.1
theorem PR_4 (h : PR p σ s) (hm : pm σ) : fv s 4 = 0 → fv σ 4 = 0 := (h.2.1 hm).2.2
theorem isGoodE (hT : tp p σ) : tz_O (fun z => (z = 0 ↔ ¬ fv σ 4 = 0)) (z_X12_isGood σ 170) := by
  have e0 : (0 : Int32).toInt = 0 := by decide
  unfold z_X12_isGood
  refine tz_bd (tz_ob (G := tz_Gp p) (a := 170) (ci := 12) hT tc_170) (fun _ _ => ?_)
  refine tz_bd (gf (tg_12_4 hT tc_170)) (fun t ht => ?_)
  obtain ⟨ht, -, -⟩ := ht
  refine tz_if _ (fun c => ?_) (fun c => ?_)
  · have c := eq_c c
    unfold z_X12_isGood_12
    refine tz_nr (tq_nr_boolean ⟨by decide, by decide⟩) (tz_some ⟨fun h => absurd h (by decide), fun h => absurd (by omega) h⟩)
  · have c := ne_c c
    unfold z_X12_isGood_12
    refine tz_nr (tq_nr_boolean ⟨by decide, by decide⟩) (tz_some ⟨fun _ => by omega, fun _ => rfl⟩)
theorem fv_b (σ : ez_H) (k : Nat) : -2147483648 ≤ fv σ k ∧ fv σ k ≤ 2147483647 := by
  unfold fv
  split
  · next x _ => exact tq_top x
  · exact ⟨by decide, by decide⟩
theorem M_lt (σ : ez_H) : M σ < ez_N := by
  have := fv_b σ 7
  show _ < 4294967296
  unfold M
  split <;> split <;> omega
theorem lg_0 {x y : Int64} : lg_cmp x y = 0 ↔ x = y := by
  unfold lg_cmp
  split
  · next h =>
    refine ⟨fun q => absurd q (by decide), fun q => ?_⟩
    rw [q] at h
    exact absurd h (Int64.lt_irrefl)
  · split
    · next h => exact ⟨fun _ => h, fun _ => rfl⟩
    · next h => exact ⟨fun q => absurd q (by decide), fun q => absurd q h⟩
theorem isWordE {x1 nm : Int64} (hT : tp p σ) (hn : ez_gl σ 12 170 10 = some nm) : tz_O (fun z => (z = 0 ↔ ¬ (fv σ 8 = 3 ∧ nm = x1))) (z_X12_isWord σ 170 x1) := by
  have e3 : (3 : Int32).toInt = 3 := by decide
  unfold z_X12_isWord
  refine tz_bd (tz_ob (G := tz_Gp p) (a := 170) (ci := 12) hT tc_170) (fun _ _ => ?_)
  refine tz_bd (gf (tg_12_8 hT tc_170)) (fun t ht => ?_)
  obtain ⟨ht, -, -⟩ := ht
  refine tz_if _ (fun c => ?_) (fun c => ?_)
  · have c := eq_c c
    refine tz_bk hn ?_
    refine tz_let (fun t13 e13 => ?_)
    refine tz_if _ (fun c2 => ?_) (fun c2 => ?_)
    · rw [e13, lg_0] at c2
      unfold z_X12_isWord_22
      refine tz_nr (tq_nr_boolean ⟨by decide, by decide⟩) (tz_some ⟨fun h => absurd h (by decide), fun h => absurd ⟨by omega, c2⟩ h⟩)
    · rw [e13, lg_0] at c2
      unfold z_X12_isWord_21 z_X12_isWord_22
      refine tz_nr (tq_nr_boolean ⟨by decide, by decide⟩) (tz_some ⟨fun _ h => c2 h.2, fun _ => rfl⟩)
  · have c := ne_c c
    unfold z_X12_isWord_21 z_X12_isWord_22
    refine tz_nr (tq_nr_boolean ⟨by decide, by decide⟩) (tz_some ⟨fun _ h => by omega, fun _ => rfl⟩)
theorem nmE (hT : tp p σ) : ∃ nm, ez_gl σ 12 170 10 = some nm := by
  obtain ⟨x, e, -⟩ := tz_gl (G := tz_Gp p) (a := 170) (ci := 12) (k := 10) hT tc_170 (tf_12_10 (p := p))
  exact ⟨x, e⟩
/-- a word here: there is something to read -/
theorem isWordN {x1 : Int64} (hT : tp p σ) : tz_O (fun z => (¬ z = 0 → fv σ 8 = 3)) (z_X12_isWord σ 170 x1) := by
  obtain ⟨nm, e⟩ := nmE hT
  refine tz_imp (isWordE hT e) (fun z h q => ?_)
  by_cases w : fv σ 8 = 3
  · exact w
  · exact absurd (h.mpr (fun v => w v.1)) q
theorem isSignE {x1 : Int32} (hT : tp p σ) : tz_O (fun z => (¬ z = 0 → fv σ 8 = 5 ∧ ∃ a, ez_gi σ 12 170 6 = some a ∧ z_X12_sign σ 170 a = some x1)) (z_X12_isSignHere σ 170 x1) := by
  have e5 : (5 : Int32).toInt = 5 := by decide
  unfold z_X12_isSignHere
  refine tz_bd (tz_ob (G := tz_Gp p) (a := 170) (ci := 12) hT tc_170) (fun _ _ => ?_)
  refine tz_bd (gf (tg_12_8 hT tc_170)) (fun t ht => ?_)
  obtain ⟨ht, -, -⟩ := ht
  refine tz_if _ (fun c => ?_) (fun c => ?_)
  · have c := eq_c c
    refine tz_be (tg_12_6 hT tc_170) (fun a ea ia => ?_)
    refine tz_be (tz_X12_sign hT tc_170 ia) (fun g eg ig => ?_)
    refine tz_if _ (fun c2 => ?_) (fun c2 => ?_)
    · unfold z_X12_isSignHere_25
      rw [c2] at eg
      refine tz_nr (tq_nr_boolean ⟨by decide, by decide⟩) (tz_some (fun _ => ⟨by omega, a, ea, eg⟩))
    · unfold z_X12_isSignHere_24 z_X12_isSignHere_25
      refine tz_nr (tq_nr_boolean ⟨by decide, by decide⟩) (tz_some (fun h => absurd rfl h))
  · unfold z_X12_isSignHere_24 z_X12_isSignHere_25
    refine tz_nr (tq_nr_boolean ⟨by decide, by decide⟩) (tz_some (fun h => absurd rfl h))
/-- a fault is there now -/
def FL (p : tz_P) (σ s : ez_H) : Prop := PR p σ s ∧ ¬ fv s 4 = 0 ∧ (fv σ 4 = 0 → M s < M σ)
theorem tm_4 (h3 : fv s 3 = fv σ 3) (h7 : fv s 7 = fv σ 7) (h8 : fv s 8 = fv σ 8) (h4 : ¬ fv s 4 = 0) : tm σ s ∧ (fv σ 4 = 0 → M s < M σ) := by
  have key : M s ≤ M σ ∧ (fv σ 4 = 0 → M s < M σ) := by
    unfold M
    rw [h7, h8, if_neg h4]
    refine ⟨?_, fun q => ?_⟩
    · split <;> split <;> omega
    · rw [if_pos q]
      split <;> omega
  refine ⟨fun h0 => ⟨?_, key.1, fun q => absurd q h4⟩, key.2⟩
  unfold pm at h0 ⊢
  rw [h3, h7]
  exact h0
theorem failsE {x1 x2 : Int32} (hT : tp p σ) (h1 : tq_iv 1 5 x1) : tz_O (fun z : Unit × ez_H => FL p σ z.2) (z_X12_fails σ 170 x1 x2) := by
  have e0 : (0 : Int32).toInt = 0 := by decide
  unfold z_X12_fails
  refine tz_bd (tz_ob (G := tz_Gp p) (a := 170) (ci := 12) hT tc_170) (fun _ _ => ?_)
  refine tz_bd (gf (tg_12_4 hT tc_170)) (fun t ht => ?_)
  obtain ⟨ht, -, -⟩ := ht
  refine tz_if _ (fun c => ?_) (fun c => ?_)
  · refine tz_be (tw_12_4 hT tc_170 (tq_top x1)) (fun s c1 hs => ?_)
    refine tz_be (tw_12_5 hs tc_170 (tq_top x2)) (fun s2 c2 hs2 => ?_)
    have h4 : ¬ fv s2 4 = 0 := by
      rw [fv_pf_ne c2 (by decide), fv_pf c1]
      have := h1.1
      omega
    have ht := tm_4 (σ := σ) (s := s2) (by rw [fv_pf_ne c2 (by decide), fv_pf_ne c1 (by decide)]) (by rw [fv_pf_ne c2 (by decide), fv_pf_ne c1 (by decide)]) (by rw [fv_pf_ne c2 (by decide), fv_pf_ne c1 (by decide)]) h4
    exact tz_some ⟨⟨hs2, ht.1, tn_pf (tn_pf tn_0 c1 tc_170 (by decide)) c2 tc_170 (by decide)⟩, h4, ht.2⟩
  · have c := nle_c c
    exact tz_some ⟨PR_0 hT, by show ¬ fv σ 4 = 0; omega, fun q => by omega⟩
theorem misE (hT : tp p σ) : tz_O (fun z : Unit × ez_H => FL p σ z.2) (z_X12_misplaced σ 170) := by
  have K : ∀ y, tq_iv 1 5 y → tz_O (fun z : Unit × ez_H => FL p σ z.2) (z_X12_misplaced_14 σ 170 170 y) := by
    intro y hy
    unfold z_X12_misplaced_14
    refine tz_bd (tg_12_6 hT tc_170) (fun t _ => ?_)
    refine tz_b3 (failsE (x2 := t) hT hy) (fun _ s hs => ?_)
    exact tz_some hs
  unfold z_X12_misplaced
  refine tz_bd (tz_ob (G := tz_Gp p) (a := 170) (ci := 12) hT tc_170) (fun _ _ => ?_)
  refine tz_bd (tg_12_8 hT tc_170) (fun t _ => ?_)
  exact tz_if _ (fun _ => K _ ⟨by decide, by decide⟩) (fun _ => K _ ⟨by decide, by decide⟩)
/-- goOn, with what it leaves -/
theorem goE (hT : tp p σ) (hm : pm σ) : tz_O (fun z : Unit × ez_H => PR p σ z.2 ∧ (¬ fv σ 8 = 0 → M z.2 < M σ)) (z_X12_goOn σ 170) := by
  refine tz_imp (tz_goOnS hT tc_170 hm) (fun z h => ⟨⟨h.1, h.2.1, h.2.2.1⟩, h.2.2.2⟩)
theorem fv_w {k : Nat} {x : Int32} (e : ez_gi σ 12 170 k = some x) : x.toInt = fv σ k := (fv_gi e).symm
def NQ (p : tz_P) (σ : ez_H) (x1 x2 : Int32) (z : Int32 × ez_H) : Prop := PR p σ z.2 ∧ x1.toInt ≤ z.1.toInt ∧ (z.1.toInt = x1.toInt ∨ z.1.toInt ≤ x2.toInt)
theorem numE {x1 x2 x3 : Int32} (hT : tp p σ) (hm : pm σ) : tz_O (NQ p σ x1 x2) (z_X12_numeral σ 170 x1 x2 x3) := by
  have K97 : ∀ s x4, PR p σ s → (fv s 4 = 0 → x1.toInt ≤ x4.toInt ∧ x4.toInt ≤ x2.toInt) → tz_O (NQ p σ x1 x2) (z_X12_numeral_97 s 170 x1 x4) := by
    intro s x4 hs hx
    unfold z_X12_numeral_97
    refine tz_bd (isGoodE hs.1) (fun t ht => ?_)
    refine tz_if _ (fun c => ?_) (fun c => ?_)
    · unfold z_X12_numeral_110
      exact tz_some ⟨hs, Int.le_refl _, Or.inl rfl⟩
    · unfold z_X12_numeral_110
      have h4 : fv s 4 = 0 := by
        by_cases q : fv s 4 = 0
        · exact q
        · exact absurd (ht.mpr q) c
      exact tz_some ⟨hs, (hx h4).1, Or.inr (hx h4).2⟩
  have K80 : ∀ s, PR p σ s → (fv s 4 = 0 → x1.toInt ≤ fv s 9 ∧ fv s 9 ≤ x2.toInt) → tz_O (NQ p σ x1 x2) (z_X12_numeral_80 s 170 x1) := by
    intro s hs hx
    unfold z_X12_numeral_80
    refine tz_bd (gf (tg_12_9 hs.1 tc_170)) (fun t81 h81 => ?_)
    obtain ⟨h81, -, -⟩ := h81
    refine tz_bd (isGoodE hs.1) (fun t ht => ?_)
    refine tz_if _ (fun c => ?_) (fun c => ?_)
    · exact K97 s t81 hs (fun q => by rw [h81]; exact hx q)
    · refine tz_b3 (goE hs.1 (PR_pm hs hm)) (fun _ s2 hs2 => ?_)
      exact K97 s2 t81 (PR_tr hs hs2.1) (fun q => by rw [h81]; exact hx (PR_4 hs2.1 (PR_pm hs hm) q))
  have K53 : ∀ s, PR p σ s → (fv s 4 = 0 → x1.toInt ≤ fv s 9 ∧ fv s 9 ≤ x2.toInt) → tz_O (NQ p σ x1 x2) (z_X12_numeral_53 s 170 x1 x3) := by
    intro s hs hx
    unfold z_X12_numeral_53
    refine tz_bd (isGoodE hs.1) (fun t ht => ?_)
    refine tz_if _ (fun c => ?_) (fun c => ?_)
    · exact K80 s hs hx
    · refine tz_bd (tg_12_9 hs.1 tc_170) (fun t62 h62 => ?_)
      refine tz_bd (tz_X12_bit hs.1) (fun t65 _ => ?_)
      refine tz_if _ (fun c => K80 s hs hx) (fun c => ?_)
      refine tz_bd (tg_12_6 hs.1 tc_170) (fun t74 _ => ?_)
      refine tz_b3 (failsE (x1 := 3) (x2 := t74) hs.1 ⟨by decide, by decide⟩) (fun _ s2 hs2 => ?_)
      exact K80 s2 (PR_tr hs hs2.1) (fun q => absurd q hs2.2.1)
  have K44 : ∀ s, PR p σ s → tz_O (NQ p σ x1 x2) (z_X12_numeral_44 s 170 x1 x3) := by
    intro s hs
    unfold z_X12_numeral_44
    refine tz_bd (tg_12_6 hs.1 tc_170) (fun t47 _ => ?_)
    refine tz_b3 (failsE (x1 := 4) (x2 := t47) hs.1 ⟨by decide, by decide⟩) (fun _ s2 hs2 => ?_)
    exact K53 s2 (PR_tr hs hs2.1) (fun q => absurd q hs2.2.1)
  have K21 : ∀ s, PR p σ s → tz_O (NQ p σ x1 x2) (z_X12_numeral_21 s 170 x1 x2 x3) := by
    intro s hs
    unfold z_X12_numeral_21
    refine tz_bd (isGoodE hs.1) (fun t ht => ?_)
    refine tz_if _ (fun c => K53 s hs (fun q => absurd q (ht.mp c))) (fun c => ?_)
    refine tz_be (gf (tg_12_9 hs.1 tc_170)) (fun t29 e29 h29 => ?_)
    refine tz_if _ (fun _ => K44 s hs) (fun c1 => ?_)
    have c1 := nlt_c c1
    refine tz_bk e29 ?_
    refine tz_if _ (fun c2 => ?_) (fun _ => K44 s hs)
    have c2 := le_c c2
    exact K53 s hs (fun _ => by rw [← h29.1]; exact ⟨c1, c2⟩)
  unfold z_X12_numeral
  refine tz_bd (tz_ob (G := tz_Gp p) (a := 170) (ci := 12) hT tc_170) (fun _ _ => ?_)
  refine tz_bd (isGoodE hT) (fun t ht => ?_)
  refine tz_if _ (fun c => tz_some ⟨PR_0 hT, Int.le_refl _, Or.inl rfl⟩) (fun c => ?_)
  refine tz_bd (tg_12_8 hT tc_170) (fun t10 _ => ?_)
  refine tz_if _ (fun _ => K21 σ (PR_0 hT)) (fun _ => ?_)
  refine tz_b3 (misE hT) (fun _ s2 hs2 => ?_)
  exact K21 s2 hs2.1
theorem hereE {h1 n : Nat} {x2 x3 : Int32} (hT : tp p σ) (k : tz_C h1 = some (1, 0, n, 0)) (hn : n ≤ 16) (h2 : 0 ≤ x2.toInt) (h3 : x2.toInt + x3.toInt ≤ n) : tz_O (fun z : Int32 => -1 ≤ z.toInt ∧ (z.toInt < x3.toInt ∨ z.toInt = -1)) (z_X12_here σ 170 h1 x2 x3) := by
  unfold z_X12_here
  refine tz_bd (tz_ob (G := tz_Gp p) (a := 170) (ci := 12) hT tc_170) (fun _ _ => ?_)
  refine lpG (fun (k : Nat → Nat → Int32 → Int32 → Int32 → Option Int32) (a : Int32) => k 170 h1 x2 x3 a) (fun a => 0 ≤ a.toInt) (fun a => (2147483647 - a.toInt).toNat) ?_ 0 (by decide) (tq_m0 _)
  intro k2 a ha hk
  have ha : 0 ≤ a.toInt := ha
  show tz_O _ (z_X12_here_3 σ k2 170 h1 x2 x3 a)
  unfold z_X12_here_3
  refine tz_if _ (fun _ => tz_some ⟨by decide, Or.inr (by decide)⟩) (fun c => ?_)
  have c := nle_c c
  have K : tz_O (fun z : Int32 => -1 ≤ z.toInt ∧ (z.toInt < x3.toInt ∨ z.toInt = -1)) (z_X12_here_34 σ k2 170 h1 x2 x3 a) := by
    unfold z_X12_here_34
    refine tz_let (fun t e => ?_)
    have ht := tq_inc e ha (by omega)
    exact hk t (by omega) (by omega)
  refine tz_bd (tg_12_8 hT tc_170) (fun t _ => ?_)
  refine tz_if _ (fun _ => ?_) (fun _ => K)
  refine tz_let (fun t21 e21 => ?_)
  have h21 : t21.toInt = x2.toInt + a.toInt := by
    rw [e21]
    exact tq_addT (a := 0) (b := 16) (c := 0) (d := 16) ⟨by omega, by omega⟩ ⟨by omega, by omega⟩ (by decide) (by decide)
  refine tz_bd (tz_la (G := tz_Gp p) (r := h1) hT k (lo := t21.toInt) (hi := t21.toInt) ⟨Int.le_refl _, Int.le_refl _⟩ (by omega) (by omega)) (fun t22 _ => ?_)
  refine tz_bd (tz_gl (G := tz_Gp p) (a := 170) (ci := 12) (k := 10) hT tc_170 (tf_12_10 (p := p))) (fun t24 _ => ?_)
  refine tz_let (fun t27 _ => ?_)
  exact tz_if _ (fun _ => tz_some ⟨by omega, Or.inl c⟩) (fun _ => K)
theorem keyE (hT : tp p σ) : tz_O (fun z : Int32 => -1 ≤ z.toInt ∧ z.toInt ≤ 7) (z_X12_keyHere σ 170) := by
  unfold z_X12_keyHere
  refine tz_bd (tz_ob (G := tz_Gp p) (a := 170) (ci := 12) hT tc_170) (fun _ _ => ?_)
  refine tz_bk (tr_33 hT tc_170) ?_
  refine tz_be (tg_12_44 hT tc_170) (fun t8 e8 i8 => ?_)
  refine tz_let (fun t11 e11 => ?_)
  have i11 : tq_iv 0 8 t11 := tq_mul e11 tk_8 i8 (by decide) (by decide) (by decide)
  refine tz_bk (tr_14 hT tc_170) ?_
  refine tz_bk e8 ?_
  refine tz_bd (tz_ia hT tc_176 (te_176 (p := p)) i8 (by decide) (by decide)) (fun t20 i20 => ?_)
  have i20 : tq_iv 0 8 t20 := i20
  refine tz_bd (hereE hT tc_195 (by decide) i11.1 (by have := i11.2; have := i20.2; omega)) (fun z hz => ?_)
  exact tz_some ⟨hz.1, by have := i20.2; have := hz.2; omega⟩
theorem lockE (hT : tp p σ) : tz_O (fun z : Int32 => -1 ≤ z.toInt ∧ z.toInt ≤ 5) (z_X12_lockHere σ 170) := by
  unfold z_X12_lockHere
  refine tz_bd (tz_ob (G := tz_Gp p) (a := 170) (ci := 12) hT tc_170) (fun _ _ => ?_)
  refine tz_bk (tr_34 hT tc_170) ?_
  refine tz_be (tg_12_44 hT tc_170) (fun t8 e8 i8 => ?_)
  refine tz_let (fun t11 e11 => ?_)
  have i11 : tq_iv 0 6 t11 := tq_mul e11 tk_6 i8 (by decide) (by decide) (by decide)
  refine tz_bk (tr_15 hT tc_170) ?_
  refine tz_bk e8 ?_
  refine tz_bd (tz_ia hT tc_177 (te_177 (p := p)) i8 (by decide) (by decide)) (fun t20 i20 => ?_)
  have i20 : tq_iv 0 6 t20 := i20
  refine tz_bd (hereE hT tc_196 (by decide) i11.1 (by have := i11.2; have := i20.2; omega)) (fun z hz => ?_)
  exact tz_some ⟨hz.1, by have := i20.2; have := hz.2; omega⟩
theorem roomE (hT : tp p σ) : tz_O (fun z : Int32 => -1 ≤ z.toInt ∧ z.toInt ≤ 5) (z_X12_roomHere σ 170) := by
  unfold z_X12_roomHere
  refine tz_bd (tz_ob (G := tz_Gp p) (a := 170) (ci := 12) hT tc_170) (fun _ _ => ?_)
  refine tz_bk (tr_35 hT tc_170) ?_
  refine tz_be (tg_12_44 hT tc_170) (fun t8 e8 i8 => ?_)
  refine tz_let (fun t11 e11 => ?_)
  have i11 : tq_iv 0 6 t11 := tq_mul e11 tk_6 i8 (by decide) (by decide) (by decide)
  refine tz_bk (tr_16 hT tc_170) ?_
  refine tz_bk e8 ?_
  refine tz_bd (tz_ia hT tc_178 (te_178 (p := p)) i8 (by decide) (by decide)) (fun t20 i20 => ?_)
  have i20 : tq_iv 0 6 t20 := i20
  refine tz_bd (hereE hT tc_197 (by decide) i11.1 (by have := i11.2; have := i20.2; omega)) (fun z hz => ?_)
  exact tz_some ⟨hz.1, by have := i20.2; have := hz.2; omega⟩
theorem freshE {x1 : Int32} (hT : tp p σ) (hm : pm σ) : tz_O (fun z : Int64 × ez_H => PR p σ z.2) (z_X12_fresh σ 170 x1) := by
  have K37 : ∀ s, PR p σ s → tz_O (fun z : Int64 × ez_H => PR p σ z.2) (z_X12_fresh_37 s 170) := by
    intro s hs
    unfold z_X12_fresh_37
    refine tz_bd (tz_gl (G := tz_Gp p) (a := 170) (ci := 12) (k := 10) hs.1 tc_170 (tf_12_10 (p := p))) (fun t38 _ => ?_)
    refine tz_bd (isGoodE hs.1) (fun t ht => ?_)
    refine tz_if _ (fun c => ?_) (fun c => ?_)
    · unfold z_X12_fresh_53
      exact tz_some hs
    · refine tz_b3 (goE hs.1 (PR_pm hs hm)) (fun _ s2 hs2 => ?_)
      unfold z_X12_fresh_53
      exact tz_some (PR_tr hs hs2.1)
  unfold z_X12_fresh
  refine tz_bd (tz_ob (G := tz_Gp p) (a := 170) (ci := 12) hT tc_170) (fun _ _ => ?_)
  refine tz_bd (isGoodE hT) (fun t ht => ?_)
  refine tz_if _ (fun c => tz_some (PR_0 hT)) (fun c => ?_)
  refine tz_bd (tg_12_8 hT tc_170) (fun t10 _ => ?_)
  refine tz_if _ (fun _ => ?_) (fun _ => ?_)
  · refine tz_if _ (fun _ => K37 σ (PR_0 hT)) (fun _ => ?_)
    refine tz_bd (tg_12_6 hT tc_170) (fun t31 _ => ?_)
    refine tz_b3 (failsE (x1 := 3) (x2 := t31) hT ⟨by decide, by decide⟩) (fun _ s2 hs2 => ?_)
    exact K37 s2 hs2.1
  · refine tz_b3 (misE hT) (fun _ s2 hs2 => ?_)
    exact K37 s2 hs2.1
theorem mustE {x1 : Int32} (hT : tp p σ) (hm : pm σ) : tz_O (fun z : Unit × ez_H => PR p σ z.2 ∧ (fv σ 4 = 0 → (¬ x1 = 0 → ¬ fv σ 8 = 0) → M z.2 < M σ)) (z_X12_must σ 170 x1) := by
  unfold z_X12_must
  refine tz_bd (tz_ob (G := tz_Gp p) (a := 170) (ci := 12) hT tc_170) (fun _ _ => ?_)
  refine tz_bd (isGoodE hT) (fun t ht => ?_)
  refine tz_if _ (fun c => tz_some ⟨PR_0 hT, fun q => absurd q (ht.mp c)⟩) (fun c => ?_)
  refine tz_if _ (fun _ => ?_) (fun c2 => ?_)
  · refine tz_b3 (misE hT) (fun _ s2 hs2 => ?_)
    unfold z_X12_must_23
    exact tz_some ⟨hs2.1, fun q _ => hs2.2.2 q⟩
  · refine tz_b3 (goE hT hm) (fun _ s2 hs2 => ?_)
    unfold z_X12_must_23
    exact tz_some ⟨hs2.1, fun _ q => hs2.2 (q c2)⟩
def KQ (p : tz_P) (σ : ez_H) (x1 : Int32) (z : Int32 × ez_H) : Prop := PR p σ z.2 ∧ 0 ≤ z.1.toInt ∧ (z.1.toInt = 0 ∨ z.1.toInt ≤ x1.toInt) ∧ (fv σ 4 = 0 → M z.2 < M σ)
theorem i0w : (0 : Int32).toInt = 0 := by decide
theorem i0z : 0 ≤ (0 : Int32).toInt := by decide
theorem knownE {x1 x2 : Int32} (hT : tp p σ) (hm : pm σ) : tz_O (KQ p σ x1) (z_X12_known σ 170 x1 x2) := by
  have e2 : (2 : Int32).toInt = 2 := by decide
  have e0 : (0 : Int32).toInt = 0 := by decide
  have K : ∀ s, PR p σ s → (fv σ 4 = 0 → M s < M σ) → tz_O (KQ p σ x1) (z_X12_known_64 s x1) := by
    intro s hs hM
    unfold z_X12_known_64
    refine tz_if _ (fun c => ?_) (fun c => ?_)
    · have c := le_c c
      unfold z_X12_known_73
      exact tz_some ⟨hs, by show 0 ≤ x1.toInt; omega, Or.inr (Int.le_refl _), hM⟩
    · unfold z_X12_known_73
      exact tz_some ⟨hs, i0z, Or.inl i0w, hM⟩
  unfold z_X12_known
  refine tz_bd (tz_ob (G := tz_Gp p) (a := 170) (ci := 12) hT tc_170) (fun _ _ => ?_)
  refine tz_bd (isGoodE hT) (fun t ht => ?_)
  refine tz_if _ (fun c => tz_some ⟨PR_0 hT, i0z, Or.inl i0w, fun q => absurd q (ht.mp c)⟩) (fun c => ?_)
  refine tz_bd (gf (tg_12_8 hT tc_170)) (fun t10 h10 => ?_)
  refine tz_if _ (fun c1 => ?_) (fun _ => ?_)
  · have c1 := eq_c c1
    refine tz_if _ (fun _ => ?_) (fun _ => ?_)
    · refine tz_bd (tz_X12_bit hT) (fun t42 _ => ?_)
      refine tz_if _ (fun _ => ?_) (fun _ => ?_)
      · refine tz_b3 (goE hT hm) (fun _ s2 hs2 => ?_)
        exact K s2 hs2.1 (fun _ => hs2.2 (by have := h10.1; omega))
      · refine tz_bd (tg_12_6 hT tc_170) (fun t51 _ => ?_)
        refine tz_b3 (failsE (x1 := 3) (x2 := t51) hT ⟨by decide, by decide⟩) (fun _ s2 hs2 => ?_)
        exact K s2 hs2.1 hs2.2.2
    · refine tz_bd (tg_12_6 hT tc_170) (fun t31 _ => ?_)
      refine tz_b3 (failsE (x1 := 5) (x2 := t31) hT ⟨by decide, by decide⟩) (fun _ s2 hs2 => ?_)
      exact K s2 hs2.1 hs2.2.2
  · refine tz_b3 (misE hT) (fun _ s2 hs2 => ?_)
    exact K s2 hs2.1 hs2.2.2
end H3
