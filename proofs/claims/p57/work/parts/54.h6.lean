/-! The rule's text: its reader. -/
def ter (r : Nat) : Bool := Nat.beq r 173 || (Nat.beq r 174 || (Nat.beq r 183 || Nat.beq r 193))
def te (σ s : ez_H) : Prop := ∀ r i, ter r = true → rv s r i = rv σ r i
def ER (p : tz_P) (σ s : ez_H) : Prop := tp p s ∧ tm σ s ∧ te σ s
def SA (p : tz_P) (s : ez_H) : Prop := EA (560 * p.1 3) (fv s 47) (fv s 46) (fv s 48) (fv s 45) (rv s 202) (rv s 203) (rv s 200)
def SN (p : tz_P) (s : ez_H) : Prop := EN (560 * p.1 3) (fv s 47) (fv s 46) (fv s 48) (fv s 45) (rv s 202) (rv s 203) (rv s 200)
def PU (p : tz_P) (s : ez_H) (x1 x2 : Int32) (s' : ez_H) : Prop := tp p s' ∧ (∀ k, ¬ k = 47 → fv s' k = fv s k) ∧ fv s' 47 = fv s 47 + 1 ∧ (∀ r i, ¬ r = 202 → ¬ r = 203 → rv s' r i = rv s r i) ∧ (∀ i, rv s' 202 i = upf (rv s 202) (fv s 47).toNat x1.toInt i) ∧ (∀ i, rv s' 203 i = upf (rv s 203) (fv s 47).toNat x2.toInt i)
def EM (p : tz_P) (s : ez_H) (x1 : Int32) (s' : ez_H) : Prop := tp p s' ∧ (∀ k, ¬ k = 45 → fv s' k = fv s k) ∧ fv s' 45 = fv s 45 + 1 ∧ (∀ r i, ¬ r = 200 → ¬ r = 201 → rv s' r i = rv s r i) ∧ (∀ i, rv s' 200 i = upf (rv s 200) (fv s 45).toNat x1.toInt i)
/-- the sign that stands here is no letter and not that of NOT -/
def sgs (s : ez_H) : Prop := ∃ a g, ez_gi s 12 170 6 = some a ∧ z_X12_sign s 170 a = some g ∧ okS g.toInt
section H6
variable {p : tz_P} {σ s s1 s2 : ez_H} {r : Nat} {i x x1 x2 : Int32}
theorem ter_tnr (h : ter r = true) : tnr r = true := by
  unfold ter at h
  unfold tnr
  simp only [Bool.or_eq_true] at h ⊢
  rcases h with h | h | h | h <;> simp [h]
theorem ER_0 (hT : tp p σ) : ER p σ σ := ⟨hT, tm_0, fun _ _ _ => rfl⟩
theorem ER_tr (h : ER p σ s) (h2 : ER p s s1) : ER p σ s1 := ⟨h2.1, tm_tr h.2.1 h2.2.1, fun r i q => (h2.2.2 r i q).trans (h.2.2 r i q)⟩
theorem ER_PR (h : PR p σ s) : ER p σ s := ⟨h.1, h.2.1, fun r i q => h.2.2.2 r i (ter_tnr q)⟩
theorem ER_pm (h : ER p σ s) (hm : pm σ) : pm s := (h.2.1 hm).1
theorem ter_ne {a : Nat} (h : ter r = true) (ha : ter a = false) : ¬ r = a := fun e => by rw [e, ha] at h; cases h
theorem ER_of (hT : tp p s) (h3 : fv s 3 = fv σ 3) (h4 : fv s 4 = fv σ 4) (h7 : fv s 7 = fv σ 7) (h8 : fv s 8 = fv σ 8) (hr : ∀ r i, ter r = true → rv s r i = rv σ r i) : ER p σ s := ⟨hT, tm_eq h3 h4 h7 h8, hr⟩
theorem ER_PU (h : PU p s x1 x2 s1) : ER p s s1 := ER_of h.1 (h.2.1 3 (by decide)) (h.2.1 4 (by decide)) (h.2.1 7 (by decide)) (h.2.1 8 (by decide)) (fun r i q => h.2.2.2.1 r i (ter_ne q (by decide)) (ter_ne q (by decide)))
theorem ER_EM (h : EM p s x1 s1) : ER p s s1 := ER_of h.1 (h.2.1 3 (by decide)) (h.2.1 4 (by decide)) (h.2.1 7 (by decide)) (h.2.1 8 (by decide)) (fun r i q => h.2.2.2.1 r i (ter_ne q (by decide)) (ter_ne q (by decide)))
theorem ER_pf {k : Nat} (c : ez_pf s 12 170 k (.inl x) = some s1) (hT : tp p s1) (hk : tmk k = false) : ER p s s1 := by
  obtain ⟨q1, q2, q3, q4⟩ := tmk_ne hk
  exact ER_of hT (fv_pf_ne c q1) (fv_pf_ne c q2) (fv_pf_ne c q3) (fv_pf_ne c q4) (fun r i _ => rv_pf c i)
theorem ER_is {t a : Nat} (c : ez_is s t a i x = some s1) (hT : tp p s1) (ha : ter a = false) : ER p s s1 := ER_of hT (fv_is c) (fv_is c) (fv_is c) (fv_is c) (fun r i q => rv_is_ne c (ter_ne q ha) i)
theorem SA_of (h : SA p σ) (h47 : fv s 47 = fv σ 47) (h46 : fv s 46 = fv σ 46) (h48 : fv s 48 = fv σ 48) (h45 : fv s 45 = fv σ 45) (h2 : ∀ i, rv s 202 i = rv σ 202 i) (h3 : ∀ i, rv s 203 i = rv σ 203 i) (h0 : ∀ i, rv s 200 i = rv σ 200 i) : SA p s := by
  unfold SA at h ⊢
  rw [h47, h46, h48, h45, funext h2, funext h3, funext h0]
  exact h
theorem SN_of (h : SN p σ) (h47 : fv s 47 = fv σ 47) (h46 : fv s 46 = fv σ 46) (h48 : fv s 48 = fv σ 48) (h45 : fv s 45 = fv σ 45) (h2 : ∀ i, rv s 202 i = rv σ 202 i) (h3 : ∀ i, rv s 203 i = rv σ 203 i) (h0 : ∀ i, rv s 200 i = rv σ 200 i) : SN p s := by
  unfold SN at h ⊢
  rw [h47, h46, h48, h45, funext h2, funext h3, funext h0]
  exact h
theorem SA_tn (h : SA p σ) (t : tn σ s) : SA p s := SA_of h (t.1 47 (by decide) (by decide)) (t.1 46 (by decide) (by decide)) (t.1 48 (by decide) (by decide)) (t.1 45 (by decide) (by decide)) (fun i => t.2 202 i (by decide)) (fun i => t.2 203 i (by decide)) (fun i => t.2 200 i (by decide))
theorem SN_tn (h : SN p σ) (t : tn σ s) : SN p s := SN_of h (t.1 47 (by decide) (by decide)) (t.1 46 (by decide) (by decide)) (t.1 48 (by decide) (by decide)) (t.1 45 (by decide) (by decide)) (fun i => t.2 202 i (by decide)) (fun i => t.2 203 i (by decide)) (fun i => t.2 200 i (by decide))
theorem rv_isU {t a : Nat} (c : ez_is s t a i x = some s1) (j : Nat) : rv s1 a j = upf (rv s a) i.toInt.toNat x.toInt j := rv_is c j
theorem pushF (hT : tp p s) (h0 : 0 ≤ fv s 47) (h1 : fv s 47 < 90) : tz_O (fun z : Unit × ez_H => PU p s x1 x2 z.2) (z_X12_pushE s 170 x1 x2) := by
  unfold z_X12_pushE
  refine tz_bd (tz_ob (G := tz_Gp p) (a := 170) (ci := 12) hT tc_170) (fun _ _ => ?_)
  refine tz_bk (tr_40 hT tc_170) ?_
  refine tz_bd (gf (tg_12_47 hT tc_170)) (fun t5 h5 => ?_)
  refine tz_be (wrE hT tc_202 (i := t5) (by omega) (by omega) (te_0 _) (tq_top x1)) (fun s1 c1 hs1 => ?_)
  refine tz_bk (tr_41 hs1 tc_170) ?_
  refine tz_bd (gf (tg_12_47 hs1 tc_170)) (fun t15 h15 => ?_)
  have q1 : fv s1 47 = fv s 47 := fv_is c1
  refine tz_be (wrE hs1 tc_203 (i := t15) (by omega) (by omega) (te_0 _) (tq_top x2)) (fun s2 c2 hs2 => ?_)
  refine tz_bd (gf (tg_12_47 hs2 tc_170)) (fun t22 h22 => ?_)
  have q2 : fv s2 47 = fv s1 47 := fv_is c2
  refine tz_let (fun t26 e26 => ?_)
  have h26 := tq_inc e26 (by omega) (by omega)
  refine tz_be (tw_12_47 hs2 tc_170 (tq_top t26)) (fun s3 c3 hs3 => ?_)
  refine tz_some ⟨hs3, fun k hk => ?_, ?_, fun r i a b => ?_, fun i => ?_, fun i => ?_⟩
  · show fv s3 k = _
    rw [fv_pf_ne c3 hk, fv_is c2, fv_is c1]
  · show fv s3 47 = _
    rw [fv_pf c3]
    omega
  · show rv s3 r i = _
    rw [rv_pf c3, rv_is_ne c2 b, rv_is_ne c1 a]
  · show rv s3 202 i = _
    rw [rv_pf c3, rv_is_ne c2 (by decide), rv_isU c1, h5.1]
  · show rv s3 203 i = _
    rw [rv_pf c3, rv_isU c2, h15.1, q1]
    unfold upf
    rw [rv_is_ne c1 (by decide)]
theorem emitF (hT : tp p s) (hb : ¬ p.1 3 = p.1 2) (h0 : 560 * p.1 3 ≤ fv s 45) (h1 : fv s 45 < 560 * p.1 3 + 560) : tz_O (fun z : Unit × ez_H => EM p s x1 z.2) (z_X12_emit s 170 x1 x2) := by
  have gr := gh_r hT.1
  have gb := gh_b hT.1
  unfold z_X12_emit
  refine tz_bd (tz_ob (G := tz_Gp p) (a := 170) (ci := 12) hT tc_170) (fun _ _ => ?_)
  refine tz_bk (tr_38 hT tc_170) ?_
  refine tz_bd (gf (tg_12_45 hT tc_170)) (fun t5 h5 => ?_)
  refine tz_be (wrE hT tc_200 (i := t5) (by omega) (by omega) (el_200n (by omega)) (tq_top x1)) (fun s1 c1 hs1 => ?_)
  refine tz_bk (tr_39 hs1 tc_170) ?_
  refine tz_bd (gf (tg_12_45 hs1 tc_170)) (fun t15 h15 => ?_)
  have q1 : fv s1 45 = fv s 45 := fv_is c1
  refine tz_be (wrE hs1 tc_201 (i := t15) (by omega) (by omega) (te_0 _) (tq_top x2)) (fun s2 c2 hs2 => ?_)
  refine tz_bd (gf (tg_12_45 hs2 tc_170)) (fun t22 h22 => ?_)
  have q2 : fv s2 45 = fv s1 45 := fv_is c2
  refine tz_let (fun t26 e26 => ?_)
  have h26 := tq_inc e26 (by omega) (by omega)
  refine tz_be (tw_12_45 hs2 tc_170 (tq_top t26)) (fun s3 c3 hs3 => ?_)
  refine tz_some ⟨hs3, fun k hk => ?_, ?_, fun r i a b => ?_, fun i => ?_⟩
  · show fv s3 k = _
    rw [fv_pf_ne c3 hk, fv_is c2, fv_is c1]
  · show fv s3 45 = _
    rw [fv_pf c3]
    omega
  · show rv s3 r i = _
    rw [rv_pf c3, rv_is_ne c2 b, rv_is_ne c1 a]
  · show rv s3 200 i = _
    rw [rv_pf c3, rv_is_ne c2 (by decide), rv_isU c1, h5.1]
theorem wordE (hT : tp p s) : tz_O (fun z : Int32 => z = 0 ∨ (97 ≤ z.toInt ∧ z.toInt ≤ 122 ∧ fv s 8 = 3)) (z_X12_wordHere s 170) := by
  unfold z_X12_wordHere
  refine tz_bd (tz_ob (G := tz_Gp p) (a := 170) (ci := 12) hT tc_170) (fun _ _ => ?_)
  refine tz_bd (isWordN hT) (fun t h => ?_)
  refine tz_if _ (fun _ => ?_) (fun c => tz_some (Or.inr ⟨by decide, by decide, h c⟩))
  refine tz_bd (isWordN hT) (fun t h => ?_)
  refine tz_if _ (fun _ => ?_) (fun c => tz_some (Or.inr ⟨by decide, by decide, h c⟩))
  refine tz_bd (isWordN hT) (fun t h => ?_)
  refine tz_if _ (fun _ => ?_) (fun c => tz_some (Or.inr ⟨by decide, by decide, h c⟩))
  refine tz_bd (isWordN hT) (fun t h => ?_)
  unfold z_X12_wordHere_55
  exact tz_if _ (fun _ => tz_some (Or.inl rfl)) (fun c => tz_some (Or.inr ⟨by decide, by decide, h c⟩))
def RQ (s : ez_H) (z : Int32) : Prop := z.toInt = 0 ∨ (opw z.toInt = true ∧ ¬ fv s 8 = 0 ∧ (z.toInt ≤ 2 ∨ sgs s))
theorem RQ_s {c : Int32} (h : fv s 8 = 5 ∧ ∃ a, ez_gi s 12 170 6 = some a ∧ z_X12_sign s 170 a = some c) (hz : opw x.toInt = true) (hc : okS c.toInt) : RQ s x := by
  obtain ⟨h5, a, e1, e2⟩ := h
  exact Or.inr ⟨hz, by omega, Or.inr ⟨a, c, e1, e2, hc⟩⟩
theorem okS_d {c : Int} (h : (decide (¬ c = 126) && decide (¬ (97 ≤ c ∧ c ≤ 122))) = true) : okS c := by
  rw [Bool.and_eq_true, decide_eq_true_eq, decide_eq_true_eq] at h
  exact h
theorem rankE (hT : tp p s) : tz_O (RQ s) (z_X12_rankHere s 170) := by
  unfold z_X12_rankHere
  refine tz_bd (tz_ob (G := tz_Gp p) (a := 170) (ci := 12) hT tc_170) (fun _ _ => ?_)
  refine tz_bd (isWordN hT) (fun t h => ?_)
  refine tz_if _ (fun _ => ?_) (fun c => tz_some (Or.inr ⟨by decide, by have := h c; omega, Or.inl (by decide)⟩))
  refine tz_bd (isWordN hT) (fun t h => ?_)
  refine tz_if _ (fun _ => ?_) (fun c => tz_some (Or.inr ⟨by decide, by have := h c; omega, Or.inl (by decide)⟩))
  unfold z_X12_rankHere_51 z_X12_rankHere_71 z_X12_rankHere_100 z_X12_rankHere_106
  refine tz_bd (isSignE hT) (fun t h => tz_if _ (fun _ => ?_) (fun c => tz_some (RQ_s (h c) (by decide) (okS_d (by decide)))))
  refine tz_bd (isSignE hT) (fun t h => tz_if _ (fun _ => ?_) (fun c => tz_some (RQ_s (h c) (by decide) (okS_d (by decide)))))
  refine tz_bd (isSignE hT) (fun t h => tz_if _ (fun _ => ?_) (fun c => tz_some (RQ_s (h c) (by decide) (okS_d (by decide)))))
  refine tz_bd (isSignE hT) (fun t h => tz_if _ (fun _ => ?_) (fun c => tz_some (RQ_s (h c) (by decide) (okS_d (by decide)))))
  refine tz_bd (isSignE hT) (fun t h => tz_if _ (fun _ => ?_) (fun c => tz_some (RQ_s (h c) (by decide) (okS_d (by decide)))))
  refine tz_bd (isSignE hT) (fun t h => tz_if _ (fun _ => ?_) (fun c => tz_some (RQ_s (h c) (by decide) (okS_d (by decide)))))
  refine tz_bd (isSignE hT) (fun t h => tz_if _ (fun _ => ?_) (fun c => tz_some (RQ_s (h c) (by decide) (okS_d (by decide)))))
  refine tz_bd (isSignE hT) (fun t h => tz_if _ (fun _ => ?_) (fun c => tz_some (RQ_s (h c) (by decide) (okS_d (by decide)))))
  exact tz_some (Or.inl (by decide))
theorem i1n : ¬ (1 : Int32) = 0 := by decide
/-- an entry of the pile -/
theorem pileE (hT : tp p s) (h0 : 0 ≤ i.toInt) (h1 : i.toInt < 90) : tz_O (fun z : Int32 => z.toInt = rv s 202 i.toInt.toNat) (ez_ia s 1 202 i) := tz_imp (ga (ia_el hT tc_202 (i := i) h0 (by omega) (te_0 _))) (fun _ h => h.1)
theorem pileS (hT : tp p s) (h0 : 0 ≤ i.toInt) (h1 : i.toInt < 90) : tz_O (fun z : Int32 => z.toInt = rv s 203 i.toInt.toNat) (ez_ia s 1 203 i) := tz_imp (ga (ia_el hT tc_203 (i := i) h0 (by omega) (te_0 _))) (fun _ h => h.1)
theorem comparedE (hT : tp p s) (h0 : 1 ≤ fv s 47) (h1 : fv s 47 ≤ 90) (h8 : rv s 202 0 = 8) : tz_O (fun _ => True) (z_X12_isCompared s 170) := by
  unfold z_X12_isCompared
  refine tz_bd (tz_ob (G := tz_Gp p) (a := 170) (ci := 12) hT tc_170) (fun _ _ => ?_)
  refine tz_bd (gf (tg_12_47 hT tc_170)) (fun t1 h1' => ?_)
  refine tz_let (fun t5 e5 => ?_)
  have h5 := sub_c e5 (by omega) (by omega) (by decide) (by decide)
  rw [i1e] at h5
  refine lpG (fun (k : Nat → Int32 → Option Int32) (a : Int32) => k 170 a) (fun a => 0 ≤ a.toInt ∧ a.toInt ≤ 89) (fun a => a.toInt.toNat) ?_ t5 ⟨by omega, by omega⟩ (by show _ < 4294967296; omega)
  rintro k a ⟨a0, a1⟩ hk
  show tz_O _ (z_X12_isCompared_7 s k 170 a)
  unfold z_X12_isCompared_7
  have K : 1 ≤ a.toInt → tz_O (fun _ => True) (z_X12_isCompared_28 s k 170 a) := by
    intro q
    unfold z_X12_isCompared_28
    refine tz_let (fun t e => ?_)
    have ht := add_c e (by omega) (by omega) (by decide) (by decide)
    have hm : (-1 : Int32).toInt = -1 := by decide
    rw [hm] at ht
    exact hk t ⟨by omega, by omega⟩ (by omega)
  have hz : ∀ v : Int, v < 8 → ∀ x : Int32, x.toInt = rv s 202 a.toInt.toNat → x.toInt = v → 1 ≤ a.toInt := by
    intro v hv x hx hxv
    by_cases q : a.toInt = 0
    · rw [q] at hx
      have : (0 : Int).toNat = 0 := rfl
      rw [this, h8] at hx
      omega
    · omega
  refine tz_bk (tr_40 hT tc_170) ?_
  refine tz_bd (pileE hT a0 (by omega)) (fun t12 h12 => ?_)
  refine tz_if _ (fun c => K (hz 5 (by decide) t12 h12 (by rw [c]; decide))) (fun _ => ?_)
  refine tz_bk (tr_40 hT tc_170) ?_
  refine tz_bd (pileE hT a0 (by omega)) (fun t22 h22 => ?_)
  refine tz_if _ (fun c => K (hz 6 (by decide) t22 h22 (by rw [c]; decide))) (fun _ => ?_)
  refine tz_bk (tr_40 hT tc_170) ?_
  refine tz_bd (pileE hT a0 (by omega)) (fun t39 _ => ?_)
  unfold z_X12_isCompared_49
  exact tz_if _ (fun _ => tz_nr (tq_nr_boolean ⟨by decide, by decide⟩) (tz_some trivial)) (fun _ => tz_nr (tq_nr_boolean ⟨by decide, by decide⟩) (tz_some trivial))
theorem SA_P (h : SA p s) : 0 ≤ fv s 47 ∧ fv s 47 ≤ 38 ∧ 560 * p.1 3 ≤ fv s 45 ∧ fv s 45 ≤ 560 * p.1 3 + 278 ∧ 0 ≤ fv s 48 ∧ fv s 48 ≤ 30 ∧ fv s 46 ≤ 7 ∧ (1 ≤ fv s 47 → -31 ≤ fv s 46) := by
  obtain ⟨e0, -, a1, a2, a3⟩ := h
  have := e0.2.2
  have := e0.1.1
  by_cases q : 1 ≤ fv s 47
  · have := a2 q
    omega
  · omega
theorem SN_P (h : SN p s) : 0 ≤ fv s 47 ∧ fv s 47 ≤ 37 ∧ 560 * p.1 3 ≤ fv s 45 ∧ fv s 45 ≤ 560 * p.1 3 + 278 ∧ 0 ≤ fv s 48 ∧ fv s 48 ≤ 30 ∧ fv s 46 ≤ 7 ∧ (1 ≤ fv s 47 → -31 ≤ fv s 46) := by
  obtain ⟨e0, -, a1, a2, a3⟩ := h
  have := e0.2.2
  have := e0.1.1
  by_cases q : 1 ≤ fv s 47
  · have := a2 q
    omega
  · omega
def UQ (p : tz_P) (σ : ez_H) (z : Int32 × ez_H) : Prop := ER p σ z.2 ∧ (M z.2 < M σ ∨ (M z.2 ≤ M σ ∧ fv z.2 47 = 0)) ∧ (SA p z.2 ∨ SN p z.2) ∧ (fv z.2 4 = 0 → (z.1 = 0 → SN p z.2) ∧ (¬ z.1 = 0 → SA p z.2))
theorem M_of (h4 : fv s 4 = fv σ 4) (h7 : fv s 7 = fv σ 7) (h8 : fv s 8 = fv σ 8) : M s = M σ := by
  unfold M
  rw [h4, h7, h8]
theorem unitE (hT : tp p σ) (hm : pm σ) (hb : ¬ p.1 3 = p.1 2) (hj : SA p σ) (hP : 0 < fv σ 47) (h4 : fv σ 4 = 0) : tz_O (UQ p σ) (z_X12_unit σ 170) := by
  have gr := gh_r hT.1
  have gb := gh_b hT.1
  obtain ⟨P0, P1, c0, c1, u0, u1, w1, w0⟩ := SA_P hj
  have w0 := w0 (by omega)
  have K208 : ∀ s x2 x3 x4 y0 (y2 : Int), tp p s → (∀ k, ¬ k = 48 → fv s k = fv σ k) → fv s 48 = fv σ 48 + y2 → (∀ r i, ¬ r = 181 → rv s r i = rv σ r i) → ¬ fv σ 8 = 0 → (x2 = 0 → y2 = 1 ∧ fv σ 48 ≤ 29) → (¬ x2 = 0 → y2 = 0) → (¬ x2 = 0 ∨ ¬ x3 = 0 → fv σ 46 ≤ 6) → (x4 = 0 ∨ (97 ≤ x4.toInt ∧ x4.toInt ≤ 122)) → tz_O (UQ p σ) (z_X12_unit_208 s 170 x2 x3 x4 y0) := by
    intro s x2 x3 x4 y0 y2 hs hf h48 hr h8 hy1 hy0 hw hx4
    unfold z_X12_unit_208
    have es : ER p σ s := ER_of hs (hf 3 (by decide)) (hf 4 (by decide)) (hf 7 (by decide)) (hf 8 (by decide)) (fun r i q => hr r i (ter_ne q (by decide)))
    have hMs : M s = M σ := M_of (hf 4 (by decide)) (hf 7 (by decide)) (hf 8 (by decide))
    refine tz_b3 (goE hs (ER_pm es hm)) (fun _ s3 hs3 => ?_)
    obtain ⟨hs3, hM3⟩ := hs3
    have hs3 : PR p s s3 := hs3
    have hM3 : M s3 < M s := hM3 (by rw [hf 8 (by decide)]; exact h8)
    have es3 : ER p σ s3 := ER_tr es (ER_PR hs3)
    have t3 := hs3.2.2
    have q47 : fv s3 47 = fv σ 47 := (t3.1 47 (by decide) (by decide)).trans (hf 47 (by decide))
    have q46 : fv s3 46 = fv σ 46 := (t3.1 46 (by decide) (by decide)).trans (hf 46 (by decide))
    have q45 : fv s3 45 = fv σ 45 := (t3.1 45 (by decide) (by decide)).trans (hf 45 (by decide))
    have q48 : fv s3 48 = fv σ 48 + y2 := (t3.1 48 (by decide) (by decide)).trans h48
    have r202 : ∀ i, rv s3 202 i = rv σ 202 i := fun i => (t3.2 202 i (by decide)).trans (hr 202 i (by decide))
    have r203 : ∀ i, rv s3 203 i = rv σ 203 i := fun i => (t3.2 203 i (by decide)).trans (hr 203 i (by decide))
    have r200 : ∀ i, rv s3 200 i = rv σ 200 i := fun i => (t3.2 200 i (by decide)).trans (hr 200 i (by decide))
    have K233 : ∀ y1 : Int32, (y1.toInt = 3 ∨ y1.toInt = 7) → fv σ 46 ≤ 6 → (fv σ 48 + y2 = fv σ 48 ∨ (fv σ 48 + y2 = fv σ 48 + 1 ∧ fv σ 48 ≤ 29)) → tz_O (UQ p σ) (z_X12_unit_233 s3 170 170 y1) := by
      intro y1 hy1 hw hu
      unfold z_X12_unit_233
      refine tz_b3 (pushF (x1 := y1) (x2 := 126) hs3.1 (by omega) (by omega)) (fun _ s4 hs4 => ?_)
      have hs4 : PU p s3 y1 126 s4 := hs4
      refine tz_bd (gf (tg_12_46 hs4.1 tc_170)) (fun t240 h240 => ?_)
      have q4 := hs4.2.1 46 (by decide)
      refine tz_let (fun t244 e244 => ?_)
      have h244 := add_c e244 (by omega) (by omega) (by decide) (by decide)
      rw [i1e] at h244
      refine tz_be (tw_12_46 hs4.1 tc_170 (tq_top t244)) (fun s5 c5 hs5 => ?_)
      have e5 : ER p σ s5 := ER_tr es3 (ER_tr (ER_PU hs4) (ER_pf c5 hs5 (by decide)))
      have a5 : SA p s5 := by
        unfold SA
        rw [fv_pf_ne (j := 47) c5 (by decide), hs4.2.2.1, q47, fv_pf c5, h244, h240.1, q4, q46, fv_pf_ne (j := 48) c5 (by decide), hs4.2.1 48 (by decide), q48, fv_pf_ne (j := 45) c5 (by decide), hs4.2.1 45 (by decide), q45]
        refine EA_push (x := y1.toInt) hj (by omega) hw hy1 hu (fun i => ?_) (fun i => ?_) (fun i => ?_)
        · rw [rv_pf c5, hs4.2.2.2.2.1, q47]
          unfold upf
          rw [r202]
        · rw [rv_pf c5, hs4.2.2.2.2.2, q47]
          unfold upf
          rw [r203]
          rfl
        · rw [rv_pf c5, hs4.2.2.2.1 200 i (by decide) (by decide), r200]
      have hM5 : M s5 = M s3 := by
        rw [M_of (σ := s4) (fv_pf_ne c5 (by decide)) (fv_pf_ne c5 (by decide)) (fv_pf_ne c5 (by decide)), M_of (σ := s3) (hs4.2.1 4 (by decide)) (hs4.2.1 7 (by decide)) (hs4.2.1 8 (by decide))]
      exact tz_some ⟨e5, Or.inl (by show M s5 < M σ; omega), Or.inl a5, fun _ => ⟨fun q => absurd q i1n, fun _ => a5⟩⟩
    have K222 : (¬ x2 = 0 ∨ ¬ x3 = 0) → tz_O (UQ p σ) (z_X12_unit_222 s3 170 x2) := by
      intro hq
      unfold z_X12_unit_222
      refine tz_if _ (fun c => K233 7 (Or.inr (by decide)) (hw hq) (Or.inr ⟨by rw [(hy1 c).1], (hy1 c).2⟩)) (fun c => K233 3 (Or.inl (by decide)) (hw hq) (Or.inl (by rw [hy0 c]; omega)))
    have K263 : x2 = 0 → ∀ ch : Int32, (97 ≤ ch.toInt ∧ ch.toInt ≤ 122) → tz_O (UQ p σ) (z_X12_unit_263 s3 y0 170 ch) := by
      intro hx ch hch
      unfold z_X12_unit_263
      refine tz_b3 (emitF (x1 := ch) (x2 := y0) hs3.1 hb (by omega) (by omega)) (fun _ s4 hs4 => ?_)
      have hs4 : EM p s3 ch s4 := hs4
      have n4 : SN p s4 := by
        unfold SN
        rw [hs4.2.1 47 (by decide), q47, hs4.2.1 46 (by decide), q46, hs4.2.1 48 (by decide), q48, hs4.2.2.1, q45, (hy1 hx).1]
        refine EA_unit (x := ch.toInt) hj (hy1 hx).2 hch (fun i => ?_) (fun i => ?_) (fun i => ?_)
        · rw [hs4.2.2.2.1 202 i (by decide) (by decide), r202]
        · rw [hs4.2.2.2.1 203 i (by decide) (by decide), r203]
        · rw [hs4.2.2.2.2, q45]
          unfold upf
          rw [r200]
      have hM4 : M s4 = M s3 := M_of (hs4.2.1 4 (by decide)) (hs4.2.1 7 (by decide)) (hs4.2.1 8 (by decide))
      exact tz_some ⟨ER_tr es3 (ER_EM hs4), Or.inl (by show M s4 < M σ; omega), Or.inr n4, fun _ => ⟨fun _ => n4, fun q => absurd rfl q⟩⟩
    refine tz_if _ (fun cx2 => ?_) (fun c => K222 (Or.inl c))
    refine tz_if _ (fun _ => ?_) (fun c => K222 (Or.inr c))
    refine tz_if _ (fun _ => K263 cx2 110 ⟨by decide, by decide⟩) (fun c => K263 cx2 x4 ?_)
    rcases hx4 with q | q
    · exact absurd q c
    · exact q
  have K147 : ∀ s x2 x3 x4, (s = σ ∨ FL p σ s) → (s = σ → ¬ fv σ 8 = 0 ∧ (x2 = 0 → fv σ 48 ≤ 29 ∧ cr p σ 181 ≤ 59) ∧ (¬ x2 = 0 ∨ ¬ x3 = 0 → fv σ 46 ≤ 6)) → (x4 = 0 ∨ (97 ≤ x4.toInt ∧ x4.toInt ≤ 122)) → tz_O (UQ p σ) (z_X12_unit_147 s 170 x2 x3 x4) := by
    intro s x2 x3 x4 hs hc hx4
    have hts : tp p s := by
      rcases hs with h | h
      · rw [h]; exact hT
      · exact h.1.1
    unfold z_X12_unit_147
    refine tz_bd (isGoodE hts) (fun t148 h148 => ?_)
    refine tz_if _ (fun c => ?_) (fun c => ?_)
    · have n4 := h148.mp c
      rcases hs with h | h
      · rw [h] at n4
        exact absurd h4 n4
      · have a := SA_tn hj h.1.2.2
        exact tz_some ⟨ER_PR h.1, Or.inl (h.2.2 h4), Or.inl a, fun q => absurd q n4⟩
    · have g4 : fv s 4 = 0 := by
        by_cases q : fv s 4 = 0
        · exact q
        · exact absurd (h148.mpr q) c
      have hss : s = σ := by
        rcases hs with h | h
        · exact h
        · exact absurd g4 h.2.1
      subst hss
      obtain ⟨d8, d1, d2⟩ := hc rfl
      refine tz_bk (tr_19 hT tc_170) ?_
      refine tz_bd (rbE hT) (fun t161 h161 => ?_)
      refine tz_bd (rdC hT tc_181 (te_181 (p := p)) h161.1) (fun t165 h165 => ?_)
      have K175 : ∀ y : Int32, (y.toInt = 0 ∨ y.toInt = 1) → (x2 = 0 → y.toInt = 1) → (¬ x2 = 0 → y.toInt = 0) → tz_O (UQ p s) (z_X12_unit_175 s 170 x2 x3 x4 181 t161 t165 y) := by
        intro y hy hy1 hy0
        unfold z_X12_unit_175
        refine tz_let (fun t175 e175 => ?_)
        have h175 := add_c e175 (by omega) (by omega) (by omega) (by omega)
        have b175 : t175.toInt ≤ 60 := by
          by_cases q : x2 = 0
          · have := (d1 q).2
            omega
          · have := hy0 q
            omega
        refine tz_be (wrC hT tc_181 (te_181 (p := p)) h161.1 (x := t175) ⟨by omega, b175⟩) (fun s1 c1 hs1 => ?_)
        refine tz_bd (gf (tg_12_48 hs1 tc_170)) (fun t179 h179 => ?_)
        have f48 : fv s1 48 = fv s 48 := fv_is c1
        have K191 : ∀ y2 : Int32, (y2.toInt = 0 ∨ y2.toInt = 1) → (x2 = 0 → y2.toInt = 1) → (¬ x2 = 0 → y2.toInt = 0) → tz_O (UQ p s) (z_X12_unit_191 s1 170 x2 x3 x4 170 t179 y2) := by
          intro y2 hy hy1 hy0
          unfold z_X12_unit_191
          refine tz_let (fun t191 e191 => ?_)
          have h191 := add_c e191 (by omega) (by omega) (by omega) (by omega)
          refine tz_be (tw_12_48 hs1 tc_170 (tq_top t191)) (fun s2 c2 hs2 => ?_)
          have G : ∀ y0 : Int32, tz_O (UQ p s) (z_X12_unit_208 s2 170 x2 x3 x4 y0) := by
            intro y0
            refine K208 s2 x2 x3 x4 y0 y2.toInt hs2 (fun k hk => ?_) ?_ (fun r i hr => ?_) d8 (fun q => ⟨hy1 q, (d1 q).1⟩) hy0 d2 hx4
            · rw [fv_pf_ne c2 hk, fv_is c1]
            · rw [fv_pf c2]
              omega
            · rw [rv_pf c2, rv_is_ne c1 hr]
          exact tz_if _ (fun _ => tz_bd (tg_12_9 hs2 tc_170) (fun t201 _ => G _)) (fun _ => G _)
        exact tz_if _ (fun c => K191 1 (Or.inr (by decide)) (fun _ => by decide) (fun q => absurd c q)) (fun c => K191 0 (Or.inl (by decide)) (fun q => absurd q c) (fun _ => by decide))
      exact tz_if _ (fun c => K175 1 (Or.inr (by decide)) (fun _ => by decide) (fun q => absurd c q)) (fun c => K175 0 (Or.inl (by decide)) (fun q => absurd q c) (fun _ => by decide))
  have K143 : ∀ x2 x3 x4, (x4 = 0 ∨ (97 ≤ x4.toInt ∧ x4.toInt ≤ 122)) → tz_O (UQ p σ) (z_X12_unit_143 σ 170 x2 x3 x4) := by
    intro x2 x3 x4 hx4
    unfold z_X12_unit_143
    refine tz_b3 (misE hT) (fun _ s hs => ?_)
    have hs : FL p σ s := hs
    exact K147 s x2 x3 x4 (Or.inr hs) (fun q => by subst q; exact absurd h4 hs.2.1) hx4
  have K126 : ∀ x2 x3 x4, ¬ fv σ 8 = 0 → (x2 = 0 → fv σ 48 ≤ 29 ∧ cr p σ 181 ≤ 59) → (x4 = 0 ∨ (97 ≤ x4.toInt ∧ x4.toInt ≤ 122)) → tz_O (UQ p σ) (z_X12_unit_126 σ 170 x2 x3 x4) := by
    intro x2 x3 x4 h8 hu hx4
    have K134 : tz_O (UQ p σ) (z_X12_unit_134 σ 170 x2 x3 x4) := by
      unfold z_X12_unit_134
      refine tz_bd (gf (tg_12_46 hT tc_170)) (fun t135 h135 => ?_)
      refine tz_if _ (fun _ => K143 _ _ _ hx4) (fun c => ?_)
      have c := ne_c c
      have e7 : (7 : Int32).toInt = 7 := by decide
      exact K147 σ x2 x3 x4 (Or.inl rfl) (fun _ => ⟨h8, hu, fun _ => by omega⟩) hx4
    unfold z_X12_unit_126
    refine tz_if _ (fun cx2 => ?_) (fun _ => K134)
    refine tz_if _ (fun cx3 => ?_) (fun _ => K134)
    exact K147 σ x2 x3 x4 (Or.inl rfl) (fun _ => ⟨h8, hu, fun q => by rcases q with q | q; exact absurd cx2 q; exact absurd cx3 q⟩) hx4
  have K56 : ∀ y0 : Int32, (¬ y0 = 0 → fv σ 8 = 3) → tz_O (UQ p σ) (z_X12_unit_56 σ 170 y0) := by
    intro y0 hy0
    unfold z_X12_unit_56
    refine tz_bd (isSignE hT) (fun t60 h60 => ?_)
    refine tz_bd (wordE hT) (fun t65 h65 => ?_)
    have hx4 : t65 = 0 ∨ (97 ≤ t65.toInt ∧ t65.toInt ≤ 122) := by
      rcases h65 with h | h
      · exact Or.inl h
      · exact Or.inr ⟨h.1, h.2.1⟩
    refine tz_bk (tr_19 hT tc_170) ?_
    refine tz_bd (rbE hT) (fun t75 h75 => ?_)
    refine tz_bd (rdC hT tc_181 (te_181 (p := p)) h75.1) (fun t78 h78 => ?_)
    have K98 : ∀ y : Int32, (y = 0 → fv σ 48 ≤ 29 ∧ cr p σ 181 ≤ 59) → tz_O (UQ p σ) (z_X12_unit_98 σ 170 y0 t60 t65 y) := by
      intro y hy
      have K121 : ¬ fv σ 8 = 0 → tz_O (UQ p σ) (z_X12_unit_121 σ 170 y0 t60 t65 y) := by
        intro h8
        unfold z_X12_unit_121
        exact tz_if _ (fun c => K126 _ _ _ h8 (fun _ => hy c) hx4) (fun _ => K143 _ _ _ hx4)
      unfold z_X12_unit_98
      refine tz_if _ (fun cx2 => ?_) (fun c => K126 _ _ _ (by have := hy0 c; omega) (fun q => absurd q c) hx4)
      refine tz_if _ (fun cx4 => ?_) (fun c => ?_)
      · refine tz_bd (gf (tg_12_8 hT tc_170)) (fun t110 h110 => ?_)
        refine tz_if _ (fun c => ?_) (fun _ => ?_)
        · have c := eq_c c
          rw [i4e] at c
          exact K121 (by omega)
        · exact tz_if _ (fun _ => K143 _ _ _ hx4) (fun c => K121 (by have := (h60 c).1; omega))
      · rcases h65 with h | h
        · exact absurd h c
        · exact K121 (by omega)
    have K93 : tz_O (UQ p σ) (z_X12_unit_93 σ 170 y0 t60 t65) := by
      unfold z_X12_unit_93
      exact K98 1 (fun q => absurd q (by decide))
    refine tz_if _ (fun _ => K93) (fun c => ?_)
    have c := ne_c c
    have e60 : (60 : Int32).toInt = 60 := by decide
    refine tz_bd (gf (tg_12_48 hT tc_170)) (fun t85 h85 => ?_)
    refine tz_if _ (fun _ => K93) (fun c2 => ?_)
    have c2 := ne_c c2
    have e30 : (30 : Int32).toInt = 30 := by decide
    exact K98 0 (fun _ => ⟨by omega, by omega⟩)
  have K55 : tz_O (UQ p σ) (z_X12_unit_55 σ 170) := by
    unfold z_X12_unit_55
    exact K56 0 (fun q => absurd rfl q)
  have K36 : ∀ y : Int32, tz_O (UQ p σ) (z_X12_unit_36 σ 170 y) := by
    intro y
    unfold z_X12_unit_36
    refine tz_if _ (fun _ => K55) (fun _ => ?_)
    refine tz_bd (isWordN hT) (fun t45 h45 => ?_)
    exact tz_if _ (fun _ => K55) (fun c => K56 1 (fun _ => h45 c))
  have K31 : tz_O (UQ p σ) (z_X12_unit_31 σ 170) := by
    unfold z_X12_unit_31
    exact K36 1
  unfold z_X12_unit
  refine tz_bd (tz_ob (G := tz_Gp p) (a := 170) (ci := 12) hT tc_170) (fun _ _ => ?_)
  refine tz_bk (tr_40 hT tc_170) ?_
  refine tz_bd (gf (tg_12_47 hT tc_170)) (fun t5 h5 => ?_)
  refine tz_let (fun t9 e9 => ?_)
  have h9 := sub_c e9 (by omega) (by omega) (by decide) (by decide)
  rw [i1e] at h9
  refine tz_bd (pileE hT (i := t9) (by omega) (by omega)) (fun t10 _ => ?_)
  refine tz_if _ (fun _ => K31) (fun _ => ?_)
  refine tz_bk (tr_40 hT tc_170) ?_
  refine tz_bd (gf (tg_12_47 hT tc_170)) (fun t20 h20 => ?_)
  refine tz_let (fun t24 e24 => ?_)
  have h24 := sub_c e24 (by omega) (by omega) (by decide) (by decide)
  rw [i1e] at h24
  refine tz_bd (pileE hT (i := t24) (by omega) (by omega)) (fun t25 _ => ?_)
  exact tz_if _ (fun _ => K36 0) (fun _ => K31)
end H6
