/-! A heap of which each cell's kind is known: what every method keeps. -/
/-- a kind: 0 a row of ints (array class, length, lowest, highest), 1 of longs, 2 of references (array class, length, the class of what it holds), 3 an object (class) -/
abbrev tz_K : Type := Nat × (Nat × (Nat × (Int × Int)))
/-- what a field holds: 0 an int (lowest, highest), 1 a long, 2 a reference to a cell of a kind -/
abbrev tz_f : Type := Nat × (tz_K × (Int × Int))
/-- the kinds of cells, the fields of classes -/
abbrev tz_G : Type := (Nat → Option tz_K) × (Nat → Nat → Option tz_f)
/-- the kind of what a row of references holds: objects of class lo, or rows of hi longs -/
def tz_sub (K : tz_K) : tz_K := if 0 ≤ K.2.2.2.1 then (3, K.2.2.2.1.toNat, 0, 0, 0) else (1, 0, K.2.2.2.2.toNat, 0, 0)
def tz_okV (G : tz_G) (f : tz_f) : ez_V → Prop
  | .inl x => f.1 = 0 ∧ f.2.2.1 ≤ x.toInt ∧ x.toInt ≤ f.2.2.2
  | .inr (.inl _) => f.1 = 1
  | .inr (.inr none) => False
  | .inr (.inr (some a)) => f.1 = 2 ∧ G.1 a = some f.2.1
def tz_ok (G : tz_G) (K : tz_K) : ez_E → Prop
  | .inl (t, n, l) => K.1 = 0 ∧ K.2.1 = t ∧ K.2.2.1 = n ∧ n < 100000 ∧ ∀ i, K.2.2.2.1 ≤ (ez_get 0 l i).toInt ∧ (ez_get 0 l i).toInt ≤ K.2.2.2.2
  | .inr (.inl (n, _)) => K.1 = 1 ∧ K.2.2.1 = n ∧ n < 100000
  | .inr (.inr (.inl (t, n, l))) => K.1 = 2 ∧ K.2.1 = t ∧ K.2.2.1 = n ∧ n < 100000 ∧ ∀ i, i < n → ∃ a, ez_get none l i = some a ∧ G.1 a = some (tz_sub K)
  | .inr (.inr (.inr (ci, fs))) => K.1 = 3 ∧ K.2.1 = ci ∧ ∀ k f, G.2 ci k = some f → ∃ v, fs[k]? = some v ∧ tz_okV G f v
def tz_T (G : tz_G) (σ : ez_H) : Prop := ∀ j K, G.1 j = some K → ∃ e, ez_at σ j = some e ∧ tz_ok G K e
section TZ
variable {G : tz_G} {σ σ1 : ez_H} {a k ci r t n : Nat} {i x : Int32} {lo hi : Int} {y : Int64} {K : tz_K}
theorem tz_at_set {σ : ez_H} {a : Nat} {e0 : ez_E} (h : ez_at σ a = some e0) (e : ez_E) (j : Nat) : ez_at (σ.set a e) j = if j = a then some e else ez_at σ j := by
  rw [ez_at_eq] at h
  have hl := (List.getElem?_eq_some_iff.mp h).1
  rw [ez_at_eq, ez_at_eq]
  by_cases q : j = a
  · rw [if_pos q, q, List.getElem?_set_self hl]
  · rw [if_neg q, List.getElem?_set_ne (fun w => q w.symm)]
theorem tz_up (hT : tz_T G σ) {e0 e : ez_E} (h : ez_at σ a = some e0) (hK : G.1 a = some K) (hok : tz_ok G K e) : tz_T G (σ.set a e) := by
  intro j K2 hj
  rw [tz_at_set h]
  by_cases q : j = a
  · subst q
    rw [hK] at hj
    cases hj
    exact ⟨e, if_pos rfl, hok⟩
  · obtain ⟨e2, h1, h2⟩ := hT j K2 hj
    exact ⟨e2, by rw [if_neg q, h1], h2⟩
theorem tz_ob (hT : tz_T G σ) (hK : G.1 a = some (3, ci, 0, 0, 0)) : ∃ fs, ez_at σ a = some (.inr (.inr (.inr (ci, fs)))) ∧ ez_ob σ ci a = some fs ∧ ∀ k f, G.2 ci k = some f → ∃ v, fs[k]? = some v ∧ tz_okV G f v := by
  obtain ⟨e, h1, h2⟩ := hT a _ hK
  match e, h1, h2 with
  | .inl (_, _, _), _, h2 => exact absurd h2.1 (by show ¬ ((3 : Nat) = 0); decide)
  | .inr (.inl (_, _)), _, h2 => exact absurd h2.1 (by show ¬ ((3 : Nat) = 1); decide)
  | .inr (.inr (.inl (_, _, _))), _, h2 => exact absurd h2.1 (by show ¬ ((3 : Nat) = 2); decide)
  | .inr (.inr (.inr (c2, fs))), h1, ⟨_, h3, h4⟩ =>
    have h3 : ci = c2 := h3
    subst h3
    refine ⟨fs, h1, ?_, h4⟩
    unfold ez_ob
    rw [h1]
    simp [ez_beq]
theorem tz_gi (hT : tz_T G σ) (hK : G.1 a = some (3, ci, 0, 0, 0)) (hF : G.2 ci k = some (0, K, lo, hi)) : ∃ x, ez_gi σ ci a k = some x ∧ lo ≤ x.toInt ∧ x.toInt ≤ hi := by
  obtain ⟨fs, h1, h2, h3⟩ := tz_ob hT hK
  obtain ⟨v, h4, h5⟩ := h3 k _ hF
  match v, h4, h5 with
  | .inl x, h4, ⟨_, h6, h7⟩ => exact ⟨x, by unfold ez_gi; rw [h2]; simp only [ez_at_eq, h4], h6, h7⟩
  | .inr (.inl _), _, h5 => exact absurd h5 (by show ¬ ((0 : Nat) = 1); decide)
  | .inr (.inr none), _, h5 => exact h5.elim
  | .inr (.inr (some _)), _, h5 => exact absurd h5.1 (by show ¬ ((0 : Nat) = 2); decide)
theorem tz_gl (hT : tz_T G σ) (hK : G.1 a = some (3, ci, 0, 0, 0)) (hF : G.2 ci k = some (1, K, lo, hi)) : ∃ x, ez_gl σ ci a k = some x := by
  obtain ⟨fs, h1, h2, h3⟩ := tz_ob hT hK
  obtain ⟨v, h4, h5⟩ := h3 k _ hF
  match v, h4, h5 with
  | .inl _, _, h5 => exact absurd h5.1 (by show ¬ ((1 : Nat) = 0); decide)
  | .inr (.inl x), h4, _ => exact ⟨x, by unfold ez_gl; rw [h2]; simp only [ez_at_eq, h4]⟩
  | .inr (.inr none), _, h5 => exact h5.elim
  | .inr (.inr (some _)), _, h5 => exact absurd h5.1 (by show ¬ ((1 : Nat) = 2); decide)
theorem tz_gr (hT : tz_T G σ) (hK : G.1 a = some (3, ci, 0, 0, 0)) (hF : G.2 ci k = some (2, K, lo, hi)) : ∃ x, ez_gr σ ci a k = some x ∧ G.1 x = some K := by
  obtain ⟨fs, h1, h2, h3⟩ := tz_ob hT hK
  obtain ⟨v, h4, h5⟩ := h3 k _ hF
  match v, h4, h5 with
  | .inl _, _, h5 => exact absurd h5.1 (by show ¬ ((2 : Nat) = 0); decide)
  | .inr (.inl _), _, h5 => exact absurd h5 (by show ¬ ((2 : Nat) = 1); decide)
  | .inr (.inr none), _, h5 => exact h5.elim
  | .inr (.inr (some x)), h4, ⟨_, h6⟩ => exact ⟨x, by unfold ez_gr; rw [h2]; simp only [ez_at_eq, h4], h6⟩
theorem tz_inb (h0 : 0 ≤ i.toInt) (h1 : i.toInt < (n : Int)) (hn : n < 100000) : ez_inb i n = true := by
  have h3 : (ez_ix i : Int) = i.toInt := by
    unfold ez_ix
    rw [← Int32.toInt_toBitVec] at h0 ⊢
    rw [BitVec.toInt_eq_toNat_cond] at h0 ⊢
    split
    · rfl
    · next q =>
      rw [if_neg q] at h0
      have := i.toBitVec.isLt
      omega
  unfold ez_inb
  rw [Nat.blt_eq.mpr (show ez_ix i < n by omega), Nat.blt_eq.mpr hn]
  rfl
theorem tz_row (hT : tz_T G σ) (hK : G.1 r = some (0, t, n, lo, hi)) : ∃ l, ez_at σ r = some (.inl (t, n, l)) ∧ n < 100000 ∧ ∀ i, lo ≤ (ez_get 0 l i).toInt ∧ (ez_get 0 l i).toInt ≤ hi := by
  obtain ⟨e, h1, h2⟩ := hT r _ hK
  match e, h1, h2 with
  | .inl (t2, n2, l), h1, ⟨_, h3, h4, h5, h6⟩ =>
    have h3 : t = t2 := h3
    have h4 : n = n2 := h4
    subst h3 h4
    exact ⟨l, h1, h5, h6⟩
  | .inr (.inl (_, _)), _, h2 => exact absurd h2.1 (by show ¬ ((0 : Nat) = 1); decide)
  | .inr (.inr (.inl (_, _, _))), _, h2 => exact absurd h2.1 (by show ¬ ((0 : Nat) = 2); decide)
  | .inr (.inr (.inr (_, _))), _, h2 => exact absurd h2.1 (by show ¬ ((0 : Nat) = 3); decide)
theorem tz_ia (hT : tz_T G σ) (hK : G.1 r = some (0, t, n, lo, hi)) (h0 : 0 ≤ i.toInt) (h1 : i.toInt < (n : Int)) : ∃ x, ez_ia σ t r i = some x ∧ lo ≤ x.toInt ∧ x.toInt ≤ hi := by
  obtain ⟨l, h2, h3, h4⟩ := tz_row hT hK
  refine ⟨ez_get 0 l (ez_ix i), ?_, h4 _⟩
  unfold ez_ia
  rw [h2]
  simp [ez_beq, tz_inb h0 h1 h3]
theorem tz_ra (hT : tz_T G σ) (hK : G.1 r = some (2, t, n, lo, hi)) (h0 : 0 ≤ i.toInt) (h1 : i.toInt < (n : Int)) : ∃ x, ez_ra σ t r i = some x ∧ G.1 x = some (tz_sub (2, t, n, lo, hi)) := by
  obtain ⟨e, h1', h2⟩ := hT r _ hK
  match e, h1', h2 with
  | .inl (_, _, _), _, h2 => exact absurd h2.1 (by show ¬ ((2 : Nat) = 0); decide)
  | .inr (.inl (_, _)), _, h2 => exact absurd h2.1 (by show ¬ ((2 : Nat) = 1); decide)
  | .inr (.inr (.inl (t2, n2, l))), h1', ⟨_, h3, h4, h5, h6⟩ =>
    have h3 : t = t2 := h3
    have h4 : n = n2 := h4
    subst h3 h4
    have hi := tz_inb h0 h1 h5
    have hlt : ez_ix i < n := by
      unfold ez_inb at hi
      rw [Bool.and_eq_true] at hi
      exact Nat.blt_eq.mp hi.1
    obtain ⟨a, ha, hk⟩ := h6 _ hlt
    refine ⟨a, ?_, hk⟩
    unfold ez_ra
    rw [h1']
    simp [ez_beq, hi, ha]
  | .inr (.inr (.inr (_, _))), _, h2 => exact absurd h2.1 (by show ¬ ((2 : Nat) = 3); decide)
theorem tz_is (hT : tz_T G σ) (hK : G.1 r = some (0, t, n, lo, hi)) (h0 : 0 ≤ i.toInt) (h1 : i.toInt < (n : Int)) (hx : lo ≤ x.toInt) (hx2 : x.toInt ≤ hi) : ∃ σ1, ez_is σ t r i x = some σ1 ∧ tz_T G σ1 := by
  obtain ⟨l, h2, h3, h4⟩ := tz_row hT hK
  refine ⟨σ.set r (.inl (t, n, ez_pw t l (ez_ix i) x)), ?_, tz_up hT h2 hK ⟨rfl, rfl, rfl, h3, fun j => ?_⟩⟩
  · unfold ez_is
    rw [h2]
    simp [ez_beq, tz_inb h0 h1 h3, ez_pwK_eq, ez_setK_eq]
  · rw [ez_get_pw]
    split
    · exact ⟨hx, hx2⟩
    · exact h4 j
theorem tz_pf (hT : tz_T G σ) (hK : G.1 a = some (3, ci, 0, 0, 0)) {f : tz_f} (hF : G.2 ci k = some f) {v : ez_V} (hv : tz_okV G f v) : ∃ σ1, ez_pf σ ci a k v = some σ1 ∧ tz_T G σ1 := by
  obtain ⟨fs, h1, h2, h3⟩ := tz_ob hT hK
  obtain ⟨v0, h4, -⟩ := h3 k _ hF
  have hl := (List.getElem?_eq_some_iff.mp h4).1
  refine ⟨σ.set a (.inr (.inr (.inr (ci, fs.set k v)))), ?_, tz_up hT h1 hK ⟨rfl, rfl, fun k2 f2 hf2 => ?_⟩⟩
  · unfold ez_pf
    rw [h2]
    simp [Nat.blt_eq.mpr hl, ez_setK_eq]
  · by_cases q : k2 = k
    · subst q
      rw [hF] at hf2
      cases hf2
      exact ⟨v, List.getElem?_set_self hl, hv⟩
    · obtain ⟨v2, e1, e2⟩ := h3 k2 f2 hf2
      exact ⟨v2, by rw [List.getElem?_set_ne (fun w => q w.symm), e1], e2⟩
theorem tz_pfi (hT : tz_T G σ) (hK : G.1 a = some (3, ci, 0, 0, 0)) (hF : G.2 ci k = some (0, K, lo, hi)) (hx : lo ≤ x.toInt) (hx2 : x.toInt ≤ hi) : ∃ σ1, ez_pf σ ci a k (.inl x) = some σ1 ∧ tz_T G σ1 := tz_pf hT hK hF ⟨rfl, hx, hx2⟩
theorem tz_pfl (hT : tz_T G σ) (hK : G.1 a = some (3, ci, 0, 0, 0)) (hF : G.2 ci k = some (1, K, lo, hi)) : ∃ σ1, ez_pf σ ci a k (.inr (.inl y)) = some σ1 ∧ tz_T G σ1 := tz_pf hT hK hF rfl
theorem tz_pfr (hT : tz_T G σ) (hK : G.1 a = some (3, ci, 0, 0, 0)) (hF : G.2 ci k = some (2, K, lo, hi)) (hr : G.1 r = some K) : ∃ σ1, ez_pf σ ci a k (.inr (.inr (some r))) = some σ1 ∧ tz_T G σ1 := tz_pf hT hK hF ⟨rfl, hr⟩
end TZ
/-- an answer that is there, and is so -/
def tz_O {β : Type} (Q : β → Prop) (o : Option β) : Prop := ∃ z, o = some z ∧ Q z
section TO
variable {α β γ : Type} {Q : β → Prop} {P : α → Prop} {o : Option α} {g : α → Option β}
theorem tz_some {z : β} (h : Q z) : tz_O Q (some z) := ⟨z, rfl, h⟩
theorem tz_bd (h : tz_O P o) (hg : ∀ x, P x → tz_O Q (g x)) : tz_O Q (ez_bd o g) := by
  obtain ⟨x, e, hx⟩ := h
  rw [e]
  exact hg x hx
theorem tz_b2 {P : α × γ → Prop} {o : Option (α × γ)} {g : α → γ → Option β} (h : tz_O P o) (hg : ∀ x y, P (x, y) → tz_O Q (g x y)) : tz_O Q (ez_b2 o g) := by
  obtain ⟨x, e, hx⟩ := h
  rw [e]
  exact hg x.1 x.2 hx
theorem tz_let {x : α} (hg : ∀ y, y = x → tz_O Q (g y)) : tz_O Q (ez_let x g) := hg x rfl
theorem tz_if {c : Prop} (hc : Decidable c) {f h : Option β} (h1 : c → tz_O Q f) (h2 : ¬ c → tz_O Q h) : tz_O Q (@ite (Option β) c hc f h) := by
  by_cases q : c
  · rw [if_pos q]; exact h1 q
  · rw [if_neg q]; exact h2 q
theorem tz_nz {y : Int32} {f : Option β} (hy : ¬ y = 0) (h : tz_O Q f) : tz_O Q (ez_nz y f) := by
  unfold ez_nz
  rw [if_neg hy]
  exact h
theorem tz_imp {Q2 : β → Prop} {q : Option β} (h : tz_O Q q) (hq : ∀ z, Q z → Q2 z) : tz_O Q2 q := by
  obtain ⟨z, e, hz⟩ := h
  exact ⟨z, e, hq z hz⟩
end TO
