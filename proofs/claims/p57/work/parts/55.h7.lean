/-! The rule's text: behind a unit, and all of it. -/
section H7
variable {p : tz_P} {σ s s1 s2 : ez_H} {r : Nat} {i x x1 x2 : Int32}
theorem sg_is {t a : Nat} {x : Int32} (hT : tp p s) (hs : tp p s1) (c : ez_is s t a i x2 = some s1) (ha : ¬ 172 = a) : z_X12_sign s1 170 x = z_X12_sign s 170 x := by
  unfold z_X12_sign
  obtain ⟨fs, hfs, -⟩ := tz_ob (G := tz_Gp p) (a := 170) (ci := 12) hT tc_170
  obtain ⟨fs2, hfs2, -⟩ := tz_ob (G := tz_Gp p) (a := 170) (ci := 12) hs tc_170
  rw [hfs, hfs2, ez_bd_some, ez_bd_some, fr_is_gi c, tr_1 hT tc_170, tr_1 hs tc_170]
  show ez_bd _ _ = ez_bd _ _
  congr 1
  funext t
  rw [ez_bd_some, ez_bd_some, fr_is_ia c ha]
  rfl
theorem sgs_pf {k : Nat} {v : ez_V} (h : sgs s) (hT : tp p s) (hs : tp p s1) (c : ez_pf s 12 170 k v = some s1) (h3 : ¬ 3 = k) (h6 : ¬ 6 = k) : sgs s1 := by
  obtain ⟨a, g, e1, e2, e3⟩ := h
  exact ⟨a, g, (fr_pf_v c (fun q => h6 q.2.2)).1.trans e1, (sg_pf hT hs c h3).trans e2, e3⟩
theorem sgs_is {t a : Nat} (h : sgs s) (hT : tp p s) (hs : tp p s1) (c : ez_is s t a i x2 = some s1) (ha : ¬ 172 = a) : sgs s1 := by
  obtain ⟨a', g, e1, e2, e3⟩ := h
  exact ⟨a', g, (fr_is_gi c).trans e1, (sg_is hT hs c ha).trans e2, e3⟩
/-- emit, with the sign that stands here -/
theorem emitS (hT : tp p s) (hb : ¬ p.1 3 = p.1 2) (h0 : 560 * p.1 3 ≤ fv s 45) (h1 : fv s 45 < 560 * p.1 3 + 560) : tz_O (fun z : Unit × ez_H => EM p s x1 z.2 ∧ (sgs s → sgs z.2)) (z_X12_emit s 170 x1 x2) := by
  have gr := gh_r hT.1
  have gb := gh_b hT.1
  unfold z_X12_emit
  refine tz_bd (tz_ob (G := tz_Gp p) (a := 170) (ci := 12) hT tc_170) (fun _ _ => ?_)
  refine tz_bk (tr_38 hT tc_170) ?_
  refine tz_bd (gf (tg_12_45 hT tc_170)) (fun t5 h5 => ?_)
  refine tz_be (wrE hT tc_200 (i := t5) (by omega) (by omega) (el_200n (by omega)) (tq_top x1)) (fun s1 c1 hs1 => ?_)
  refine tz_bk (tr_39 hs1 tc_170) ?_
  refine tz_bd (gf (tg_12_45 hs1 tc_170)) (fun t15 h15 => ?_)
  have q1 : fv s1 45 = fv s 45 := fv_is c1
  refine tz_be (wrE hs1 tc_201 (i := t15) (by omega) (by omega) (te_0 _) (tq_top x2)) (fun s2 c2 hs2 => ?_)
  refine tz_bd (gf (tg_12_45 hs2 tc_170)) (fun t22 h22 => ?_)
  have q2 : fv s2 45 = fv s1 45 := fv_is c2
  refine tz_let (fun t26 e26 => ?_)
  have h26 := tq_inc e26 (by omega) (by omega)
  refine tz_be (tw_12_45 hs2 tc_170 (tq_top t26)) (fun s3 c3 hs3 => ?_)
  refine tz_some ⟨⟨hs3, fun k hk => ?_, ?_, fun r i a b => ?_, fun i => ?_⟩, fun q => ?_⟩
  · show fv s3 k = _
    rw [fv_pf_ne c3 hk, fv_is c2, fv_is c1]
  · show fv s3 45 = _
    rw [fv_pf c3]
    omega
  · show rv s3 r i = _
    rw [rv_pf c3, rv_is_ne c2 b, rv_is_ne c1 a]
  · show rv s3 200 i = _
    rw [rv_pf c3, rv_is_ne c2 (by decide), rv_isU c1, h5.1]
  · exact sgs_pf (sgs_is (sgs_is q hT hs1 c1 (by decide)) hs1 hs2 c2 (by decide)) hs2 hs3 c3 (by decide) (by decide)
theorem SN_8 (h : SN p s) (hP : 1 ≤ fv s 47) : rv s 202 0 = 8 ∧ ∀ i : Nat, (i : Int) < fv s 47 → (i = 0 ∧ rv s 202 i = 8) ∨ (1 ≤ i ∧ 1 ≤ rv s 202 i ∧ rv s 202 i ≤ 7) := by
  obtain ⟨⟨⟨-, a⟩, b, -⟩, -⟩ := h
  have a := a (by omega)
  refine ⟨a, fun i hi => ?_⟩
  by_cases q : i = 0
  · rw [q]
    exact Or.inl ⟨rfl, a⟩
  · have := (b i (by omega) hi).1
    exact Or.inr ⟨by omega, this⟩
theorem behindE (hT : tp p σ) (hm : pm σ) (hb : ¬ p.1 3 = p.1 2) (hj : SN p σ) (hP : 0 < fv σ 47) (h4 : fv σ 4 = 0) : tz_O (UQ p σ) (z_X12_behindUnit σ 170) := by
  have e7 : (7 : Int32).toInt = 7 := by decide
  have e6 : (6 : Int32).toInt = 6 := by decide
  have e3 : (3 : Int32).toInt = 3 := by decide
  have e2 : (2 : Int32).toInt = 2 := by decide
  unfold z_X12_behindUnit
  refine tz_bd (tz_ob (G := tz_Gp p) (a := 170) (ci := 12) hT tc_170) (fun _ _ => ?_)
  refine tz_bd (rankE hT) (fun x1 hr => ?_)
  have hx0 : 0 ≤ x1.toInt := by
    rcases hr with h | h
    · omega
    · have := of_decide_eq_true h.1
      omega
  -- the way out
  have K104 : ∀ s, ER p σ s → M s = M σ → fv s 4 = fv σ 4 → fv s 8 = fv σ 8 → SN p s → 1 ≤ fv s 47 → (sgs σ → sgs s) → (6 < rv s 202 (fv s 47 - 1).toNat ∨ rv s 202 (fv s 47 - 1).toNat < x1.toInt) → tz_O (UQ p σ) (z_X12_behindUnit_104 s 170 x1) := by
    intro s hs hMs hf4 hf8 hn hP hsg hex
    obtain ⟨P0, P1, c0, c1, u0, u1, w1, w0⟩ := SN_P hn
    have w0 := w0 hP
    obtain ⟨h80, h8i⟩ := SN_8 hn hP
    unfold z_X12_behindUnit_104
    refine tz_if _ (fun c => ?_) (fun c => ?_)
    · have c := le_c c
      rw [i0e] at c
      have htop := h8i (fv s 47 - 1).toNat (by omega)
      refine tz_bd (gf (tg_12_47 hs.1 tc_170)) (fun t149 h149 => ?_)
      refine tz_let (fun t153 e153 => ?_)
      have h153 := sub_c e153 (by omega) (by omega) (by decide) (by decide)
      rw [i1e] at h153
      refine tz_be (tw_12_47 hs.1 tc_170 (tq_top t153)) (fun s1 c1 hs1 => ?_)
      have q47 := fv_pf c1
      refine tz_bk (tr_40 hs1 tc_170) ?_
      refine tz_bd (gf (tg_12_47 hs1 tc_170)) (fun t162 h162 => ?_)
      refine tz_bd (pileE hs1 (i := t162) (by omega) (by omega)) (fun t165 h165 => ?_)
      have h165 : t165.toInt = rv s 202 (fv s 47 - 1).toNat := by
        rw [h165, rv_pf c1, show t162.toInt.toNat = (fv s 47 - 1).toNat by omega]
      have er1 : ER p σ s1 := ER_tr hs (ER_pf c1 hs1 (by decide))
      have hM1 : M s1 = M σ := (M_of (fv_pf_ne c1 (by decide)) (fv_pf_ne c1 (by decide)) (fv_pf_ne c1 (by decide))).trans hMs
      have hop : ∀ v : Int, rv s 202 (fv s 47 - 1).toNat = v → 7 ≤ v → v ≤ 8 → opw (rv s 202 (fv s 47 - 1).toNat) = false := by
        intro v hv a b
        rw [hv]
        exact decide_eq_false (by omega)
      refine tz_if _ (fun c7 => ?_) (fun c7 => ?_)
      · have c7 := eq_c c7
        rw [e7] at c7
        refine tz_bd (gf (tg_12_46 hs1 tc_170)) (fun t173 h173 => ?_)
        have q46 := fv_pf_ne (j := 46) c1 (by decide)
        refine tz_let (fun t177 e177 => ?_)
        have h177 := sub_c e177 (by omega) (by omega) (by decide) (by decide)
        rw [i1e] at h177
        refine tz_be (tw_12_46 hs1 tc_170 (tq_top t177)) (fun s2 c2 hs2 => ?_)
        have n2 : SN p s2 := by
          unfold SN
          rw [fv_pf_ne (j := 47) c2 (by decide), q47, h153, h149.1, fv_pf c2, h177, h173.1, q46, fv_pf_ne (j := 48) c2 (by decide), fv_pf_ne (j := 48) c1 (by decide), fv_pf_ne (j := 45) c2 (by decide), fv_pf_ne (j := 45) c1 (by decide)]
          refine EN_pop (w2 := fv s 46 - 1) hn (by omega) (hop _ rfl (by omega) (by omega)) (Or.inr rfl) (fun q => by omega) (fun i => ?_) (fun i => ?_) (fun i => ?_) <;> rw [rv_pf c2, rv_pf c1]
        have er2 : ER p σ s2 := ER_tr er1 (ER_pf c2 hs2 (by decide))
        have hM2 : M s2 = M σ := (M_of (fv_pf_ne c2 (by decide)) (fv_pf_ne c2 (by decide)) (fv_pf_ne c2 (by decide))).trans hM1
        refine tz_bd (isSignE hs2) (fun t185 h185 => ?_)
        refine tz_b3 (mustE (x1 := t185) hs2 (ER_pm er2 hm)) (fun _ s3 hs3 => ?_)
        obtain ⟨hs3, hM3⟩ := hs3
        have hs3 : PR p s2 s3 := hs3
        have hM3 : M s3 < M s2 := hM3 (by rw [fv_pf_ne c2 (by decide), fv_pf_ne c1 (by decide), hf4]; exact h4) (fun q => by have := (h185 q).1; omega)
        unfold z_X12_behindUnit_191
        have n3 := SN_tn n2 hs3.2.2
        exact tz_some ⟨ER_tr er2 (ER_PR hs3), Or.inl (by show M s3 < M σ; omega), Or.inr n3, fun _ => ⟨fun _ => n3, fun q => absurd rfl q⟩⟩
      · have c7 := ne_c c7
        rw [e7] at c7
        have hP1 : fv s 47 = 1 := by
          rcases htop with h | h
          · omega
          · omega
        have n1 : SN p s1 := by
          unfold SN
          rw [q47, h153, h149.1, fv_pf_ne (j := 46) c1 (by decide), fv_pf_ne (j := 48) c1 (by decide), fv_pf_ne (j := 45) c1 (by decide)]
          refine EN_pop (w2 := fv s 46) hn (by omega) (hop _ rfl (by omega) (by omega)) (Or.inl rfl) (fun _ => hP1) (fun i => ?_) (fun i => ?_) (fun i => ?_) <;> rw [rv_pf c1]
        unfold z_X12_behindUnit_191
        exact tz_some ⟨er1, Or.inr ⟨by show M s1 ≤ M σ; omega, by show fv s1 47 = 0; omega⟩, Or.inr n1, fun _ => ⟨fun _ => n1, fun q => absurd rfl q⟩⟩
    · have c := nle_c c
      rw [i0e] at c
      have hr : opw x1.toInt = true ∧ ¬ fv σ 8 = 0 ∧ (x1.toInt ≤ 2 ∨ sgs σ) := by
        rcases hr with h | h
        · omega
        · exact h
      obtain ⟨ho, h8, hsg2⟩ := hr
      have ho' := of_decide_eq_true ho
      have K138 : ∀ y : Int32, okS y.toInt → tz_O (UQ p σ) (z_X12_behindUnit_138 s 170 170 x1 y) := by
        intro y hy
        unfold z_X12_behindUnit_138
        refine tz_b3 (pushF (x1 := x1) (x2 := y) hs.1 (by omega) (by omega)) (fun _ s4 hs4 => ?_)
        have hs4 : PU p s x1 y s4 := hs4
        have a4 : SA p s4 := by
          unfold SA
          rw [hs4.2.2.1, hs4.2.1 46 (by decide), hs4.2.1 48 (by decide), hs4.2.1 45 (by decide)]
          exact EN_push (x := x1.toInt) (y := y.toInt) hn hP ho hy hs4.2.2.2.2.1 hs4.2.2.2.2.2 (fun i => hs4.2.2.2.1 200 i (by decide) (by decide))
        have er4 : ER p σ s4 := ER_tr hs (ER_PU hs4)
        have hM4 : M s4 = M σ := (M_of (hs4.2.1 4 (by decide)) (hs4.2.1 7 (by decide)) (hs4.2.1 8 (by decide))).trans hMs
        refine tz_b3 (goE hs4.1 (ER_pm er4 hm)) (fun _ s5 hs5 => ?_)
        obtain ⟨hs5, hM5⟩ := hs5
        have hs5 : PR p s4 s5 := hs5
        have hM5 : M s5 < M s4 := hM5 (by rw [hs4.2.1 8 (by decide), hf8]; exact h8)
        have a5 := SA_tn a4 hs5.2.2
        exact tz_some ⟨ER_tr er4 (ER_PR hs5), Or.inl (by show M s5 < M σ; omega), Or.inl a5, fun _ => ⟨fun q => absurd q i1n, fun _ => a5⟩⟩
      refine tz_if _ (fun _ => K138 38 (okS_d (by decide))) (fun c2 => ?_)
      have c2 := ne_c c2
      rw [e2] at c2
      refine tz_if _ (fun _ => K138 124 (okS_d (by decide))) (fun c1 => ?_)
      have c1 := ne_c c1
      rw [i1e] at c1
      have hss : sgs s := by
        rcases hsg2 with h | h
        · omega
        · exact hsg h
      obtain ⟨a, g, ea, eg, hg⟩ := hss
      refine tz_bk ea ?_
      refine tz_bk eg ?_
      exact K138 g hg
  have KL : tz_O (UQ p σ) (ez_fix (fun _ _ _ => none) z_X12_behindUnit_23 ez_N σ 170 x1) := by
    refine lpG (fun (k : ez_H → Nat → Int32 → Option (Int32 × ez_H)) (a : ez_H) => k a 170 x1) (fun s => ER p σ s ∧ M s = M σ ∧ fv s 4 = fv σ 4 ∧ fv s 8 = fv σ 8 ∧ SN p s ∧ 1 ≤ fv s 47 ∧ (sgs σ → sgs s)) (fun s => (fv s 47).toNat) ?_ σ ⟨ER_0 hT, rfl, rfl, rfl, hj, by omega, id⟩ (by have := fv_b σ 47; show _ < 4294967296; omega)
    rintro k s ⟨hs, hMs, hf4, hf8, hn, hP, hsg⟩ hk
    obtain ⟨P0, P1, c0, c1, u0, u1, w1, w0⟩ := SN_P hn
    have w0 := w0 hP
    obtain ⟨h80, h8i⟩ := SN_8 hn hP
    show tz_O _ (z_X12_behindUnit_23 k s 170 x1)
    unfold z_X12_behindUnit_23
    refine tz_bk (tr_40 hs.1 tc_170) ?_
    refine tz_bd (gf (tg_12_47 hs.1 tc_170)) (fun t28 h28 => ?_)
    refine tz_let (fun t32 e32 => ?_)
    have h32 := sub_c e32 (by omega) (by omega) (by decide) (by decide)
    rw [i1e] at h32
    refine tz_bd (pileE hs.1 (i := t32) (by omega) (by omega)) (fun t33 h33 => ?_)
    rw [show t32.toInt.toNat = (fv s 47 - 1).toNat by omega] at h33
    refine tz_if _ (fun c => ?_) (fun c => ?_)
    · have c := lt_c c
      exact K104 s hs hMs hf4 hf8 hn hP hsg (Or.inl (by omega))
    have c := nlt_c c
    rw [e6] at c
    refine tz_bk (tr_40 hs.1 tc_170) ?_
    refine tz_bd (gf (tg_12_47 hs.1 tc_170)) (fun t44 h44 => ?_)
    refine tz_let (fun t48 e48 => ?_)
    have h48 := sub_c e48 (by omega) (by omega) (by decide) (by decide)
    rw [i1e] at h48
    refine tz_bd (pileE hs.1 (i := t48) (by omega) (by omega)) (fun t49 h49 => ?_)
    rw [show t48.toInt.toNat = (fv s 47 - 1).toNat by omega] at h49
    refine tz_if _ (fun c2 => ?_) (fun _ => ?_)
    · have c2 := lt_c c2
      exact K104 s hs hMs hf4 hf8 hn hP hsg (Or.inr (by omega))
    have htop := h8i (fv s 47 - 1).toNat (by omega)
    have hP2 : 2 ≤ fv s 47 ∧ 1 ≤ rv s 202 (fv s 47 - 1).toNat := by
      rcases htop with h | h
      · omega
      · omega
    obtain ⟨hP2, hge⟩ := hP2
    refine tz_bd (gf (tg_12_47 hs.1 tc_170)) (fun t56 h56 => ?_)
    refine tz_let (fun t60 e60 => ?_)
    have h60 := sub_c e60 (by omega) (by omega) (by decide) (by decide)
    rw [i1e] at h60
    refine tz_be (tw_12_47 hs.1 tc_170 (tq_top t60)) (fun s1 c1 hs1 => ?_)
    have q47 := fv_pf c1
    have er1 : ER p σ s1 := ER_tr hs (ER_pf c1 hs1 (by decide))
    have hM1 : M s1 = M σ := (M_of (fv_pf_ne c1 (by decide)) (fv_pf_ne c1 (by decide)) (fv_pf_ne c1 (by decide))).trans hMs
    have hsg1 : sgs σ → sgs s1 := fun q => sgs_pf (hsg q) hs.1 hs1 c1 (by decide) (by decide)
    -- what is written, and what is left
    have K87 : ∀ s', tp p s' → ER p σ s' → M s' = M σ → fv s' 4 = fv σ 4 → fv s' 8 = fv σ 8 → (sgs σ → sgs s') → fv s' 47 = fv s 47 - 1 → fv s' 45 = fv s 45 → (∀ r i, rv s' r i = rv s r i) → (∀ s4, EM p s' (s4 : Int32 × ez_H).1 s4.2 → s4.1.toInt = rv s 203 (fv s 47 - 1).toNat → SN p s4.2) → tz_O (UQ p σ) (z_X12_behindUnit_87 k s' 170 x1) := by
      intro s' hs' er' hM' f4' f8' hsg' p' c' hr' hSN
      unfold z_X12_behindUnit_87
      refine tz_bk (tr_41 hs' tc_170) ?_
      refine tz_bd (gf (tg_12_47 hs' tc_170)) (fun t93 h93 => ?_)
      refine tz_bd (pileS hs' (i := t93) (by omega) (by omega)) (fun t96 h96 => ?_)
      rw [hr', show t93.toInt.toNat = (fv s 47 - 1).toNat by omega] at h96
      refine tz_b3 (emitS (x1 := t96) (x2 := 0) hs' hb (by omega) (by omega)) (fun _ s4 hs4 => ?_)
      obtain ⟨hs4, hsg4⟩ := hs4
      have hs4 : EM p s' t96 s4 := hs4
      refine hk s4 ⟨ER_tr er' (ER_EM hs4), ?_, ?_, ?_, hSN (t96, s4) hs4 h96, ?_, fun q => hsg4 (hsg' q)⟩ ?_
      · rw [M_of (σ := s') (hs4.2.1 4 (by decide)) (hs4.2.1 7 (by decide)) (hs4.2.1 8 (by decide)), hM']
      · rw [hs4.2.1 4 (by decide), f4']
      · rw [hs4.2.1 8 (by decide), f8']
      · rw [hs4.2.1 47 (by decide), p']
        omega
      · rw [hs4.2.1 47 (by decide), p']
        omega
    refine tz_bk (tr_40 hs1 tc_170) ?_
    refine tz_bd (gf (tg_12_47 hs1 tc_170)) (fun t69 h69 => ?_)
    refine tz_bd (pileE hs1 (i := t69) (by omega) (by omega)) (fun t72 h72 => ?_)
    rw [rv_pf c1, show t69.toInt.toNat = (fv s 47 - 1).toNat by omega] at h72
    refine tz_if _ (fun c3 => ?_) (fun c3 => ?_)
    · have c3 := eq_c c3
      rw [e3] at c3
      refine tz_bd (gf (tg_12_46 hs1 tc_170)) (fun t79 h79 => ?_)
      have q46 := fv_pf_ne (j := 46) c1 (by decide)
      refine tz_let (fun t83 e83 => ?_)
      have h83 := sub_c e83 (by omega) (by omega) (by decide) (by decide)
      rw [i1e] at h83
      refine tz_be (tw_12_46 hs1 tc_170 (tq_top t83)) (fun s2 c2 hs2 => ?_)
      have f2 : ∀ k, ¬ k = 46 → ¬ k = 47 → fv s2 k = fv s k := fun k a b => by rw [fv_pf_ne c2 a, fv_pf_ne c1 b]
      have f47 : fv s2 47 = fv s 47 - 1 := by rw [fv_pf_ne c2 (by decide), q47, h60, h56.1]
      have f46 : fv s2 46 = fv s 46 - 1 := by rw [fv_pf c2, h83, h79.1, q46]
      have rr : ∀ r i, rv s2 r i = rv s r i := fun r i => by rw [rv_pf c2, rv_pf c1]
      refine K87 s2 hs2 (ER_tr er1 (ER_pf c2 hs2 (by decide))) ((M_of (fv_pf_ne c2 (by decide)) (fv_pf_ne c2 (by decide)) (fv_pf_ne c2 (by decide))).trans hM1) (by rw [f2 4 (by decide) (by decide), hf4]) (by rw [f2 8 (by decide) (by decide), hf8]) (fun q => sgs_pf (hsg1 q) hs1 hs2 c2 (by decide) (by decide)) f47 (f2 45 (by decide) (by decide)) rr ?_
      rintro ⟨g, s4⟩ hs4 hg
      have hg : g.toInt = rv s 203 (fv s 47 - 1).toNat := hg
      have hs4 : EM p s2 g s4 := hs4
      show SN p s4
      unfold SN
      rw [hs4.2.1 47 (by decide), f47, hs4.2.1 46 (by decide), f46, hs4.2.1 48 (by decide), f2 48 (by decide) (by decide), hs4.2.2.1, f2 45 (by decide) (by decide)]
      refine EN_popNot hn hP2 (by omega) (fun i => ?_) (fun i => ?_) (fun i => ?_)
      · rw [hs4.2.2.2.1 202 i (by decide) (by decide), rr]
      · rw [hs4.2.2.2.1 203 i (by decide) (by decide), rr]
      · rw [hs4.2.2.2.2, f2 45 (by decide) (by decide), hg]
        unfold upf
        rw [rr]
    · have c3 := ne_c c3
      rw [e3] at c3
      have f2 : ∀ k, ¬ k = 47 → fv s1 k = fv s k := fun k b => fv_pf_ne c1 b
      have f47 : fv s1 47 = fv s 47 - 1 := by rw [q47, h60, h56.1]
      have rr : ∀ r i, rv s1 r i = rv s r i := fun r i => rv_pf c1 i
      refine K87 s1 hs1 er1 hM1 (by rw [f2 4 (by decide), hf4]) (by rw [f2 8 (by decide), hf8]) hsg1 f47 (f2 45 (by decide)) rr ?_
      rintro ⟨g, s4⟩ hs4 hg
      have hg : g.toInt = rv s 203 (fv s 47 - 1).toNat := hg
      have hs4 : EM p s1 g s4 := hs4
      show SN p s4
      unfold SN
      rw [hs4.2.1 47 (by decide), f47, hs4.2.1 46 (by decide), f2 46 (by decide), hs4.2.1 48 (by decide), f2 48 (by decide), hs4.2.2.1, f2 45 (by decide)]
      refine EN_popOp hn hP2 (decide_eq_true (by omega)) (fun i => ?_) (fun i => ?_) (fun i => ?_)
      · rw [hs4.2.2.2.1 202 i (by decide) (by decide), rr]
      · rw [hs4.2.2.2.1 203 i (by decide) (by decide), rr]
      · rw [hs4.2.2.2.2, f2 45 (by decide), hg]
        unfold upf
        rw [rr]
  refine tz_if _ (fun _ => ?_) (fun _ => KL)
  obtain ⟨h80, -⟩ := SN_8 hj (by omega)
  have hPP := SN_P hj
  refine tz_bd (comparedE hT (by omega) (by omega) h80) (fun t11 _ => ?_)
  refine tz_if _ (fun _ => KL) (fun _ => ?_)
  refine tz_b3 (misE hT) (fun _ s hs => ?_)
  have hs : FL p σ s := hs
  have n := SN_tn hj hs.1.2.2
  exact tz_some ⟨ER_PR hs.1, Or.inl (hs.2.2 h4), Or.inr n, fun q => absurd q hs.2.1⟩
theorem eE (hT : tp p σ) (hm : pm σ) (hb : ¬ p.1 3 = p.1 2) (hc : fv σ 45 = 560 * p.1 3) (hu : fv σ 48 = 0) : tz_O (fun z : Unit × ez_H => ER p σ z.2 ∧ (SA p z.2 ∨ SN p z.2)) (z_X12_e σ 170) := by
  have gr := gh_r hT.1
  have e8 : (8 : Int32).toInt = 8 := by decide
  unfold z_X12_e
  refine tz_bd (tz_ob (G := tz_Gp p) (a := 170) (ci := 12) hT tc_170) (fun _ _ => ?_)
  refine tz_be (tw_12_47 hT tc_170 (tq_top 0)) (fun s1 c1 hs1 => ?_)
  refine tz_be (tw_12_46 hs1 tc_170 (tq_top 0)) (fun s2 c2 hs2 => ?_)
  have q47 : fv s2 47 = 0 := by rw [fv_pf_ne c2 (by decide), fv_pf c1, i0e]
  refine tz_b3 (pushF (x1 := 8) (x2 := 0) hs2 (by omega) (by omega)) (fun _ s3 hs3 => ?_)
  have hs3 : PU p s2 8 0 s3 := hs3
  have a3 : SA p s3 := by
    unfold SA
    rw [hs3.2.2.1, q47, hs3.2.1 46 (by decide), fv_pf c2, i0e, hs3.2.1 48 (by decide), fv_pf_ne (j := 48) c2 (by decide), fv_pf_ne (j := 48) c1 (by decide), hu, hs3.2.1 45 (by decide), fv_pf_ne (j := 45) c2 (by decide), fv_pf_ne (j := 45) c1 (by decide), hc]
    have h0 : rv s3 202 0 = 8 := by
      rw [hs3.2.2.2.2.1, q47]
      exact e8
    have hoc : oc (rv s3 202) (0 + 1 : Int).toNat = 0 := by
      show 0 + (if opw (rv s3 202 0) = true then 1 else 0) = 0
      rw [h0]
      decide
    refine ⟨⟨⟨by omega, fun _ => h0⟩, fun i i1 i2 => by omega, by omega⟩, ?_, ?_⟩
    · rw [hoc, show (560 * p.1 3 - 560 * p.1 3).toNat = 0 by omega]
      exact rfl
    · rw [hoc]
      exact ⟨by omega, fun _ => by omega, by decide⟩
  have er3 : ER p σ s3 := ER_tr (ER_tr (ER_pf c1 hs1 (by decide)) (ER_pf c2 hs2 (by decide))) (ER_PU hs3)
  refine lpG (fun (k : ez_H → Nat → Int32 → Option (Unit × ez_H)) (a : ez_H × Int32) => k a.1 170 a.2) (fun a => ER p σ a.1 ∧ (SA p a.1 ∨ SN p a.1) ∧ (fv a.1 4 = 0 → (a.2 = 0 → SN p a.1) ∧ (¬ a.2 = 0 → SA p a.1))) (fun a => 2 * M a.1 + (if fv a.1 47 = 0 then 0 else 1)) ?_ (s3, 1) ⟨er3, Or.inl a3, fun _ => ⟨fun q => absurd q i1n, fun _ => a3⟩⟩ ?_
  · rintro k ⟨s, x1⟩ ⟨hs, hor, hg⟩ hk
    have hs : ER p σ s := hs
    have hor : SA p s ∨ SN p s := hor
    have hg : fv s 4 = 0 → (x1 = 0 → SN p s) ∧ (¬ x1 = 0 → SA p s) := hg
    show tz_O _ (z_X12_e_19 k s 170 x1)
    unfold z_X12_e_19
    refine tz_bd (isGoodE hs.1) (fun t20 h20 => ?_)
    refine tz_if _ (fun _ => ?_) (fun c => ?_)
    · unfold z_X12_e_52
      exact tz_some ⟨hs, hor⟩
    have h4 : fv s 4 = 0 := by
      by_cases q : fv s 4 = 0
      · exact q
      · exact absurd (h20.mpr q) c
    obtain ⟨hN, hA⟩ := hg h4
    refine tz_bd (gf (tg_12_47 hs.1 tc_170)) (fun t27 h27 => ?_)
    refine tz_if _ (fun _ => ?_) (fun c2 => ?_)
    · unfold z_X12_e_52
      exact tz_some ⟨hs, hor⟩
    have c2 := nle_c c2
    rw [i0e] at c2
    have hP : 0 < fv s 47 := by omega
    have K : ∀ z : Int32 × ez_H, UQ p s z → tz_O (fun z : Unit × ez_H => ER p σ z.2 ∧ (SA p z.2 ∨ SN p z.2)) (z_X12_e_48 k z.2 170 z.1) := by
      intro z hz
      unfold z_X12_e_48
      refine hk (z.2, z.1) ⟨ER_tr hs hz.1, hz.2.2.1, hz.2.2.2⟩ ?_
      show 2 * M z.2 + (if fv z.2 47 = 0 then 0 else 1) < 2 * M s + (if fv s 47 = 0 then 0 else 1)
      rw [if_neg (show ¬ fv s 47 = 0 by omega)]
      rcases hz.2.1 with q | q
      · split <;> omega
      · rw [if_pos q.2]
        omega
    refine tz_if _ (fun c0 => ?_) (fun c0 => ?_)
    · exact tz_b3 (behindE hs.1 (ER_pm hs hm) hb (hN c0) hP h4) (fun t s' h => K (t, s') h)
    · exact tz_b3 (unitE hs.1 (ER_pm hs hm) hb (hA c0) hP h4) (fun t s' h => K (t, s') h)
  · have hM : M s3 ≤ 1603 := by
      obtain ⟨x, -, hx, h1, h2⟩ := gf (tg_12_7 hs3.1 tc_170)
      unfold M
      split <;> split <;> omega
    show 2 * M s3 + (if fv s3 47 = 0 then 0 else 1) < 4294967296
    split <;> omega
/-- what is known of the bank that is read into, of its rule -/
def RC (p : tz_P) (s : ez_H) : Prop := (cr p s 183 / 8 % 2 = 1 → 560 * p.1 3 ≤ cr p s 193 ∧ cr p s 193 ≤ cr p s 194 ∧ cr p s 194 ≤ 560 * p.1 3 + 560 ∧ ∃ d, rpv (rv s 200) (cr p s 193).toNat (cr p s 194 - cr p s 193).toNat 0 d) ∧ (¬ cr p s 183 / 8 % 2 = 1 → fv s 45 = 560 * p.1 3)
theorem isRT (hT : tp p s) (hb : ¬ p.1 3 = p.1 2) (h : i.toInt = p.1 3) {a : Nat} (ha : a = 183 ∨ a = 193 ∨ a = 194) : tz_O (tp p) (ez_is s 1 a i x) := by
  have g := gh_r hT.1
  rcases ha with q | q | q
  · subst q
    exact wrE hT tc_183 (by omega) (by omega) (el_183n (by omega)) (tq_top x)
  · subst q
    exact wrE hT tc_193 (by omega) (by omega) (el_193n (by omega)) (tq_top x)
  · subst q
    exact wrE hT tc_194 (by omega) (by omega) (el_194n (by omega)) (tq_top x)
theorem rd183 (hT : tp p s) (h : i.toInt = p.1 3) : tz_O (fun z : Int32 => z.toInt = cr p s 183) (ez_ia s 1 183 i) := by
  have g := gh_r hT.1
  refine tz_imp (ga (tz_iaT (G := tz_Gp p) (r := 183) hT tc_183 (i := i) (lo := 0) (hi := 1) ⟨by omega, by omega⟩ (by decide) (by decide))) (fun z hz => hz.1.trans (rv_cr h))
theorem cr_isS {t a : Nat} (c : ez_is s t a i x = some s1) (h : i.toInt = p.1 3) : cr p s1 a = x.toInt := by
  unfold cr
  rw [rv_isU c, h]
  unfold upf
  rw [if_pos rfl]
theorem ruleE (hT : tp p σ) (hm : pm σ) (hb : ¬ p.1 3 = p.1 2) (hc : fv σ 45 = 560 * p.1 3) : tz_O (fun z : Unit × ez_H => tp p z.2 ∧ tm σ z.2 ∧ (∀ i, rv z.2 173 i = rv σ 173 i) ∧ (∀ i, rv z.2 174 i = rv σ 174 i) ∧ RC p z.2) (z_X12_readRule σ 170) := by
  have gr := gh_r hT.1
  unfold z_X12_readRule
  refine tz_bd (tz_ob (G := tz_Gp p) (a := 170) (ci := 12) hT tc_170) (fun _ _ => ?_)
  refine tz_bk (tr_21 hT tc_170) ?_
  refine tz_bd (rbE hT) (fun t5 h5 => ?_)
  refine tz_bd (rd183 hT h5.1) (fun t9 h9 => tz_let (fun t12 e12 => ?_))
  refine tz_be (isRT (x := t12) hT hb h5.1 (Or.inl rfl)) (fun s1 c1 hs1 => ?_)
  refine tz_be (tw_12_48 hs1 tc_170 (tq_top 0)) (fun s2 c2 hs2 => ?_)
  refine tz_bk (tr_31 hs2 tc_170) ?_
  refine tz_bd (rbE hs2) (fun t24 h24 => ?_)
  refine tz_bd (gf (tg_12_45 hs2 tc_170)) (fun t28 h28 => ?_)
  refine tz_be (isRT (x := t28) hs2 hb h24.1 (Or.inr (Or.inl rfl))) (fun s3 c3 hs3 => ?_)
  have m3 : tm σ s3 := tm_is (tm_pf (tm_is tm_0 c1) c2 tc_170 (by decide)) c3
  have f45 : fv s3 45 = 560 * p.1 3 := by rw [fv_is c3, fv_pf_ne c2 (by decide), fv_is c1, hc]
  have f28 : t28.toInt = 560 * p.1 3 := by rw [h28.1, fv_pf_ne c2 (by decide), fv_is c1, hc]
  have f48 : fv s3 48 = 0 := by rw [fv_is c3, fv_pf c2, i0e]
  refine tz_b3 (eE hs3 (m3 hm).1 hb f45 f48) (fun _ s4 hs4 => ?_)
  obtain ⟨hs4, hor⟩ := hs4
  have hs4 : ER p s3 s4 := hs4
  have hor : SA p s4 ∨ SN p s4 := hor
  refine tz_bk (tr_32 hs4.1 tc_170) ?_
  refine tz_bd (rbE hs4.1) (fun t41 h41 => ?_)
  refine tz_bd (gf (tg_12_45 hs4.1 tc_170)) (fun t45 h45 => ?_)
  refine tz_be (isRT (x := t45) hs4.1 hb h41.1 (Or.inr (Or.inr rfl))) (fun s5 c5 hs5 => ?_)
  have k183 : cr p s5 183 = t12.toInt := by
    rw [cr_is c5 (by decide)]
    show rv s4 183 _ = _
    rw [hs4.2.2 183 _ (by decide)]
    show cr p s3 183 = _
    rw [cr_is c3 (by decide)]
    show rv s2 183 _ = _
    rw [rv_pf c2]
    exact cr_isS c1 h5.1
  have k193 : cr p s5 193 = 560 * p.1 3 := by
    rw [cr_is c5 (by decide)]
    show rv s4 193 _ = _
    rw [hs4.2.2 193 _ (by decide)]
    show cr p s3 193 = _
    rw [cr_isS c3 h24.1, f28]
  have k194 : cr p s5 194 = fv s4 45 := by rw [cr_isS c5 h41.1, h45.1]
  have hd : 560 * p.1 3 ≤ fv s4 45 ∧ fv s4 45 ≤ 560 * p.1 3 + 278 ∧ ∃ d, rpv (rv s4 200) (560 * p.1 3).toNat (fv s4 45 - 560 * p.1 3).toNat 0 d := by
    rcases hor with h | h
    · have := SA_P h
      exact ⟨by omega, by omega, _, h.2.1⟩
    · have := SN_P h
      exact ⟨by omega, by omega, _, h.2.1⟩
  obtain ⟨d1, d2, d, d3⟩ := hd
  have hbit : cr p s5 183 / 8 % 2 = 1 := by
    rw [k183, tb_8, e12, tb_or]
    have : tb 8 3 = true := by decide
    rw [this, Bool.or_true]
  refine tz_some ⟨hs5, tm_is (tm_tr m3 hs4.2.1) c5, fun i => ?_, fun i => ?_, fun _ => ?_, fun q => absurd hbit q⟩
  · show rv s5 173 i = _
    rw [rv_is_ne c5 (by decide), hs4.2.2 173 i (by decide), rv_is_ne c3 (by decide), rv_pf c2, rv_is_ne c1 (by decide)]
  · show rv s5 174 i = _
    rw [rv_is_ne c5 (by decide), hs4.2.2 174 i (by decide), rv_is_ne c3 (by decide), rv_pf c2, rv_is_ne c1 (by decide)]
  · show 560 * p.1 3 ≤ cr p s5 193 ∧ cr p s5 193 ≤ cr p s5 194 ∧ cr p s5 194 ≤ 560 * p.1 3 + 560 ∧ ∃ d, rpv (rv s5 200) (cr p s5 193).toNat (cr p s5 194 - cr p s5 193).toNat 0 d
    rw [k193, k194]
    refine ⟨by omega, d1, by omega, d, ?_⟩
    exact rpv_congr _ _ _ _ (fun i _ _ => (rv_is_ne c5 (by decide) i).symm) d3
end H7
