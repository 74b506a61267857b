/-! A heap of which each cell's kind is known: what every method keeps. -/
/-- a kind: 0 a row of ints (array class, length, what its elements are), 1 of longs (length), 2 of references (array class, length, what it holds), 3 an object (class) -/
abbrev tz_K : Type := Nat × (Nat × (Nat × Nat))
/-- what a field holds: 0 an int (lowest, highest), 1 a long, 2 a reference to a cell of a kind (lowest: that cell, if not 0) -/
abbrev tz_f : Type := Nat × (tz_K × (Int × Int))
/-- the kinds of cells, the fields of classes, the elements of rows, what is known besides -/
abbrev tz_G : Type := (Nat → Option tz_K) × ((Nat → Nat → Option tz_f) × ((Nat → Nat → Int × Int) × Prop))
def tz_sub (s : Nat) : tz_K := bif Nat.beq s 0 then (3, 7, 0, 0) else (1, 0, 8, 0)
def tz_okV (G : tz_G) (f : tz_f) : ez_V → Prop
  | .inl x => f.1 = 0 ∧ tq_iv f.2.2.1 f.2.2.2 x
  | .inr (.inl _) => f.1 = 1
  | .inr (.inr none) => False
  | .inr (.inr (some a)) => f.1 = 2 ∧ G.1 a = some f.2.1 ∧ (f.2.2.1 = 0 ∨ f.2.2.1 = (a : Int))
def tz_ok (G : tz_G) (K : tz_K) : ez_E → Prop
  | .inl (t, n, l) => K.1 = 0 ∧ K.2.1 = t ∧ K.2.2.1 = n ∧ n < 100000 ∧ ∀ i, i < n → tq_iv (G.2.2.1 K.2.2.2 i).1 (G.2.2.1 K.2.2.2 i).2 (ez_get 0 l i)
  | .inr (.inl (n, _)) => K.1 = 1 ∧ K.2.2.1 = n ∧ n < 100000
  | .inr (.inr (.inl (t, n, l))) => K.1 = 2 ∧ K.2.1 = t ∧ K.2.2.1 = n ∧ n < 100000 ∧ ∀ i, i < n → ∃ a, ez_get none l i = some a ∧ G.1 a = some (tz_sub K.2.2.2)
  | .inr (.inr (.inr (ci, fs))) => K.1 = 3 ∧ K.2.1 = ci ∧ ∀ k f, G.2.1 ci k = some f → ∃ v, fs[k]? = some v ∧ tz_okV G f v
def tz_T (G : tz_G) (σ : ez_H) : Prop := G.2.2.2 ∧ ∀ j K, G.1 j = some K → ∃ e, ez_at σ j = some e ∧ tz_ok G K e
/-- an answer that is there, and is so -/
def tz_O {β : Type} (Q : β → Prop) (o : Option β) : Prop := ∃ z, o = some z ∧ Q z
abbrev tz_O2 {α γ : Type} (Q : α → γ → Prop) (o : Option (α × γ)) : Prop := tz_O (fun z => Q z.1 z.2) o
theorem ez_bd_some {α β : Type} (x : α) (g : α → Option β) : ez_bd (some x) g = g x := rfl
theorem ez_let_eq {α β : Type} (x : α) (g : α → Option β) : ez_let x g = g x := rfl
section TO
variable {α β γ : Type} {Q : β → Prop} {P : α → Prop} {o : Option α} {g : α → Option β}
theorem tz_some {z : β} (h : Q z) : tz_O Q (some z) := ⟨z, rfl, h⟩
theorem tz_bd (h : tz_O P o) (hg : ∀ x, P x → tz_O Q (g x)) : tz_O Q (ez_bd o g) := by
  obtain ⟨x, e, hx⟩ := h
  rw [e]
  exact hg x hx
/-- the same, with what was read -/
theorem tz_be (h : tz_O P o) (hg : ∀ x, o = some x → P x → tz_O Q (g x)) : tz_O Q (ez_bd o g) := by
  obtain ⟨x, e, hx⟩ := h
  have := hg x e hx
  rw [e]
  exact this
theorem tz_bk {x : α} (h : o = some x) (hg : tz_O Q (g x)) : tz_O Q (ez_bd o g) := by
  rw [h]
  exact hg
theorem tz_b2 {P : α → γ → Prop} {o : Option (α × γ)} {g : α → γ → Option β} (h : tz_O2 P o) (hg : ∀ x y, P x y → tz_O Q (g x y)) : tz_O Q (ez_b2 o g) := by
  obtain ⟨x, e, hx⟩ := h
  rw [e]
  exact hg x.1 x.2 hx
theorem tz_b2e {P : α → γ → Prop} {o : Option (α × γ)} {g : α → γ → Option β} (h : tz_O2 P o) (hg : ∀ x y, o = some (x, y) → P x y → tz_O Q (g x y)) : tz_O Q (ez_b2 o g) := by
  obtain ⟨x, e, hx⟩ := h
  have := hg x.1 x.2 e hx
  rw [e]
  exact this
theorem tz_let {x : α} (hg : ∀ y, y = x → tz_O Q (g y)) : tz_O Q (ez_let x g) := hg x rfl
theorem tz_if {c : Prop} (hc : Decidable c) {f h : Option β} (h1 : c → tz_O Q f) (h2 : ¬ c → tz_O Q h) : tz_O Q (@ite (Option β) c hc f h) := by
  by_cases q : c
  · rw [if_pos q]; exact h1 q
  · rw [if_neg q]; exact h2 q
theorem tz_nz {y : Int32} {f : Option β} (hy : ¬ y = 0) (h : tz_O Q f) : tz_O Q (ez_nz y f) := by
  unfold ez_nz
  rw [if_neg hy]
  exact h
theorem tz_nr {ty : FieldType} {y : Int32} {f : Option β} (hy : vp_nar ty y = y) (h : tz_O Q f) : tz_O Q (ez_nr ty y f) := by
  unfold ez_nr
  rw [if_pos hy]
  exact h
theorem tz_imp {Q2 : β → Prop} {q : Option β} (h : tz_O Q q) (hq : ∀ z, Q z → Q2 z) : tz_O Q2 q := by
  obtain ⟨z, e, hz⟩ := h
  exact ⟨z, e, hq z hz⟩
theorem tz_get {z : β} {q : Option β} (h : tz_O Q q) (e : q = some z) : Q z := by
  obtain ⟨y, e2, hy⟩ := h
  rw [e] at e2
  cases e2
  exact hy
end TO
theorem tz_ix {i : Int32} (h0 : 0 ≤ i.toInt) : ez_ix i = i.toInt.toNat := by
  have h3 : (ez_ix i : Int) = i.toInt := by
    unfold ez_ix
    rw [← Int32.toInt_toBitVec] at h0 ⊢
    rw [BitVec.toInt_eq_toNat_cond] at h0 ⊢
    split
    · rfl
    · next q =>
      rw [if_neg q] at h0
      have := i.toBitVec.isLt
      omega
  omega
section TZ
variable {G : tz_G} {σ σ1 : ez_H} {a k ci r t n e s : Nat} {i x : Int32} {lo hi A B : Int} {y : Int64} {K : tz_K}
theorem tz_at_set {σ : ez_H} {a : Nat} {e0 : ez_E} (h : ez_at σ a = some e0) (e : ez_E) (j : Nat) : ez_at (σ.set a e) j = if j = a then some e else ez_at σ j := by
  rw [ez_at_eq] at h
  have hl := (List.getElem?_eq_some_iff.mp h).1
  rw [ez_at_eq, ez_at_eq]
  by_cases q : j = a
  · rw [if_pos q, q, List.getElem?_set_self hl]
  · rw [if_neg q, List.getElem?_set_ne (fun w => q w.symm)]
theorem tz_up (hT : tz_T G σ) {e0 e : ez_E} (h : ez_at σ a = some e0) (hK : G.1 a = some K) (hok : tz_ok G K e) : tz_T G (σ.set a e) := by
  refine ⟨hT.1, fun j K2 hj => ?_⟩
  rw [tz_at_set h]
  by_cases q : j = a
  · subst q
    rw [hK] at hj
    cases hj
    exact ⟨e, if_pos rfl, hok⟩
  · obtain ⟨e2, h1, h2⟩ := hT.2 j K2 hj
    exact ⟨e2, by rw [if_neg q, h1], h2⟩
theorem tz_obE (hT : tz_T G σ) (hK : G.1 a = some (3, ci, 0, 0)) : ∃ fs, ez_at σ a = some (.inr (.inr (.inr (ci, fs)))) ∧ ez_ob σ ci a = some fs ∧ ∀ k f, G.2.1 ci k = some f → ∃ v, fs[k]? = some v ∧ tz_okV G f v := by
  obtain ⟨e, h1, h2⟩ := hT.2 a _ hK
  match e, h1, h2 with
  | .inl (_, _, _), _, h2 => exact absurd h2.1 (by show ¬ ((3 : Nat) = 0); decide)
  | .inr (.inl (_, _)), _, h2 => exact absurd h2.1 (by show ¬ ((3 : Nat) = 1); decide)
  | .inr (.inr (.inl (_, _, _))), _, h2 => exact absurd h2.1 (by show ¬ ((3 : Nat) = 2); decide)
  | .inr (.inr (.inr (c2, fs))), h1, ⟨_, h3, h4⟩ =>
    have h3 : ci = c2 := h3
    subst h3
    refine ⟨fs, h1, ?_, h4⟩
    unfold ez_ob
    rw [h1]
    simp [ez_beq]
theorem tz_ob (hT : tz_T G σ) (hK : G.1 a = some (3, ci, 0, 0)) : tz_O (fun _ => True) (ez_ob σ ci a) := by
  obtain ⟨fs, -, h, -⟩ := tz_obE hT hK
  exact ⟨fs, h, trivial⟩
theorem tz_gi (hT : tz_T G σ) (hK : G.1 a = some (3, ci, 0, 0)) (hF : G.2.1 ci k = some (0, K, lo, hi)) : tz_O (tq_iv lo hi) (ez_gi σ ci a k) := by
  obtain ⟨fs, h1, h2, h3⟩ := tz_obE hT hK
  obtain ⟨v, h4, h5⟩ := h3 k _ hF
  match v, h4, h5 with
  | .inl x, h4, ⟨_, h6⟩ => exact ⟨x, by unfold ez_gi; rw [h2]; simp only [ez_at_eq, h4], h6⟩
  | .inr (.inl _), _, h5 => exact absurd h5 (by show ¬ ((0 : Nat) = 1); decide)
  | .inr (.inr none), _, h5 => exact h5.elim
  | .inr (.inr (some _)), _, h5 => exact absurd h5.1 (by show ¬ ((0 : Nat) = 2); decide)
theorem tz_gl (hT : tz_T G σ) (hK : G.1 a = some (3, ci, 0, 0)) (hF : G.2.1 ci k = some (1, K, lo, hi)) : tz_O (fun _ => True) (ez_gl σ ci a k) := by
  obtain ⟨fs, h1, h2, h3⟩ := tz_obE hT hK
  obtain ⟨v, h4, h5⟩ := h3 k _ hF
  match v, h4, h5 with
  | .inl _, _, h5 => exact absurd h5.1 (by show ¬ ((1 : Nat) = 0); decide)
  | .inr (.inl x), h4, _ => exact ⟨x, by unfold ez_gl; rw [h2]; simp only [ez_at_eq, h4], trivial⟩
  | .inr (.inr none), _, h5 => exact h5.elim
  | .inr (.inr (some _)), _, h5 => exact absurd h5.1 (by show ¬ ((1 : Nat) = 2); decide)
theorem tz_gr (hT : tz_T G σ) (hK : G.1 a = some (3, ci, 0, 0)) (hF : G.2.1 ci k = some (2, K, 0, hi)) : tz_O (fun x => G.1 x = some K) (ez_gr σ ci a k) := by
  obtain ⟨fs, h1, h2, h3⟩ := tz_obE hT hK
  obtain ⟨v, h4, h5⟩ := h3 k _ hF
  match v, h4, h5 with
  | .inl _, _, h5 => exact absurd h5.1 (by show ¬ ((2 : Nat) = 0); decide)
  | .inr (.inl _), _, h5 => exact absurd h5 (by show ¬ ((2 : Nat) = 1); decide)
  | .inr (.inr none), _, h5 => exact h5.elim
  | .inr (.inr (some x)), h4, ⟨_, h6, _⟩ => exact ⟨x, by unfold ez_gr; rw [h2]; simp only [ez_at_eq, h4], h6⟩
/-- a field that always holds the same cell -/
theorem tz_grx (hT : tz_T G σ) (hK : G.1 a = some (3, ci, 0, 0)) (hF : G.2.1 ci k = some (2, K, (r : Int), hi)) (h0 : ¬ (r : Int) = 0) : ez_gr σ ci a k = some r := by
  obtain ⟨fs, h1, h2, h3⟩ := tz_obE hT hK
  obtain ⟨v, h4, h5⟩ := h3 k _ hF
  match v, h4, h5 with
  | .inl _, _, h5 => exact absurd h5.1 (by show ¬ ((2 : Nat) = 0); decide)
  | .inr (.inl _), _, h5 => exact absurd h5 (by show ¬ ((2 : Nat) = 1); decide)
  | .inr (.inr none), _, h5 => exact h5.elim
  | .inr (.inr (some x)), h4, ⟨_, h6, h7⟩ =>
    have h8 : (r : Int) = (x : Int) := h7.resolve_left h0
    have h9 : r = x := by omega
    subst h9
    unfold ez_gr
    rw [h2]
    simp only [ez_at_eq, h4]
theorem tz_inb (h0 : 0 ≤ i.toInt) (h1 : i.toInt < (n : Int)) (hn : n < 100000) : ez_inb i n = true := by
  have h3 := tz_ix h0
  unfold ez_inb
  rw [Nat.blt_eq.mpr (show ez_ix i < n by omega), Nat.blt_eq.mpr hn]
  rfl
theorem tz_row (hT : tz_T G σ) (hK : G.1 r = some (0, t, n, e)) : ∃ l, ez_at σ r = some (.inl (t, n, l)) ∧ n < 100000 ∧ ∀ i, i < n → tq_iv (G.2.2.1 e i).1 (G.2.2.1 e i).2 (ez_get 0 l i) := by
  obtain ⟨e, h1, h2⟩ := hT.2 r _ hK
  match e, h1, h2 with
  | .inl (t2, n2, l), h1, ⟨_, h3, h4, h5, h6⟩ =>
    have h3 : t = t2 := h3
    have h4 : n = n2 := h4
    subst h3 h4
    exact ⟨l, h1, h5, h6⟩
  | .inr (.inl (_, _)), _, h2 => exact absurd h2.1 (by show ¬ ((0 : Nat) = 1); decide)
  | .inr (.inr (.inl (_, _, _))), _, h2 => exact absurd h2.1 (by show ¬ ((0 : Nat) = 2); decide)
  | .inr (.inr (.inr (_, _))), _, h2 => exact absurd h2.1 (by show ¬ ((0 : Nat) = 3); decide)
theorem tz_iaG (hT : tz_T G σ) (hK : G.1 r = some (0, t, n, e)) (h0 : 0 ≤ i.toInt) (h1 : i.toInt < (n : Int)) : tz_O (tq_iv (G.2.2.1 e i.toInt.toNat).1 (G.2.2.1 e i.toInt.toNat).2) (ez_ia σ t r i) := by
  obtain ⟨l, h2, h3, h4⟩ := tz_row hT hK
  refine ⟨ez_get 0 l (ez_ix i), ?_, ?_⟩
  · unfold ez_ia
    rw [h2]
    simp [ez_beq, tz_inb h0 h1 h3]
  · rw [tz_ix h0]
    exact h4 _ (by omega)
/-- all elements are alike -/
theorem tz_ia (hT : tz_T G σ) (hK : G.1 r = some (0, t, n, e)) (hE : ∀ j, G.2.2.1 e j = (A, B)) (hq : tq_iv lo hi i) (h0 : 0 ≤ lo) (h1 : hi < (n : Int)) : tz_O (tq_iv A B) (ez_ia σ t r i) := by
  have h := tz_iaG hT hK (i := i) (by have := hq.1; omega) (by have := hq.2; omega)
  rw [hE] at h
  exact h
/-- they differ by their places -/
theorem tz_iaS (hT : tz_T G σ) (hK : G.1 r = some (0, t, n, e)) (hE : ∀ j : Nat, lo ≤ (j : Int) → (j : Int) ≤ hi → A ≤ (G.2.2.1 e j).1 ∧ (G.2.2.1 e j).2 ≤ B) (hq : tq_iv lo hi i) (h0 : 0 ≤ lo) (h1 : hi < (n : Int)) : tz_O (tq_iv A B) (ez_ia σ t r i) := by
  obtain ⟨p1, p2⟩ := hq
  have h := tz_iaG hT hK (i := i) (by omega) (by omega)
  refine tz_imp h (fun z hz => ?_)
  obtain ⟨e1, e2⟩ := hE i.toInt.toNat (by omega) (by omega)
  exact ⟨by have := hz.1; omega, by have := hz.2; omega⟩
theorem tz_isG (hT : tz_T G σ) (hK : G.1 r = some (0, t, n, e)) (h0 : 0 ≤ i.toInt) (h1 : i.toInt < (n : Int)) (hx : tq_iv (G.2.2.1 e i.toInt.toNat).1 (G.2.2.1 e i.toInt.toNat).2 x) : tz_O (tz_T G) (ez_is σ t r i x) := by
  obtain ⟨l, h2, h3, h4⟩ := tz_row hT hK
  refine ⟨σ.set r (.inl (t, n, ez_pw t l (ez_ix i) x)), ?_, tz_up hT h2 hK ⟨rfl, rfl, rfl, h3, fun j hj => ?_⟩⟩
  · unfold ez_is
    rw [h2]
    simp [ez_beq, tz_inb h0 h1 h3, ez_pwK_eq, ez_setK_eq]
  · rw [ez_get_pw]
    split
    · next q => rw [q, tz_ix h0]; exact hx
    · exact h4 j hj
theorem tz_is (hT : tz_T G σ) (hK : G.1 r = some (0, t, n, e)) (hE : ∀ j, G.2.2.1 e j = (A, B)) (hq : tq_iv lo hi i) (h0 : 0 ≤ lo) (h1 : hi < (n : Int)) (hx : tq_iv A B x) : tz_O (tz_T G) (ez_is σ t r i x) := by
  refine tz_isG hT hK (by have := hq.1; omega) (by have := hq.2; omega) ?_
  rw [hE]
  exact hx
theorem tz_isS (hT : tz_T G σ) (hK : G.1 r = some (0, t, n, e)) (hE : ∀ j : Nat, lo ≤ (j : Int) → (j : Int) ≤ hi → (G.2.2.1 e j).1 ≤ A ∧ B ≤ (G.2.2.1 e j).2) (hq : tq_iv lo hi i) (h0 : 0 ≤ lo) (h1 : hi < (n : Int)) (hx : tq_iv A B x) : tz_O (tz_T G) (ez_is σ t r i x) := by
  obtain ⟨p1, p2⟩ := hq
  obtain ⟨e1, e2⟩ := hE i.toInt.toNat (by omega) (by omega)
  exact tz_isG hT hK (by omega) (by omega) ⟨by have := hx.1; omega, by have := hx.2; omega⟩
theorem tz_lrow (hT : tz_T G σ) (hK : G.1 r = some (1, 0, n, 0)) : ∃ l, ez_at σ r = some (.inr (.inl (n, l))) ∧ n < 100000 := by
  obtain ⟨e, h1, h2⟩ := hT.2 r _ hK
  match e, h1, h2 with
  | .inr (.inl (n2, l)), h1, ⟨_, h4, h5⟩ =>
    have h4 : n = n2 := h4
    subst h4
    exact ⟨l, h1, h5⟩
  | .inl (_, _, _), _, h2 => exact absurd h2.1 (by show ¬ ((1 : Nat) = 0); decide)
  | .inr (.inr (.inl (_, _, _))), _, h2 => exact absurd h2.1 (by show ¬ ((1 : Nat) = 2); decide)
  | .inr (.inr (.inr (_, _))), _, h2 => exact absurd h2.1 (by show ¬ ((1 : Nat) = 3); decide)
theorem tz_la (hT : tz_T G σ) (hK : G.1 r = some (1, 0, n, 0)) (hq : tq_iv lo hi i) (h0 : 0 ≤ lo) (h1 : hi < (n : Int)) : tz_O (fun _ => True) (ez_la σ r i) := by
  obtain ⟨l, h2, h3⟩ := tz_lrow hT hK
  refine ⟨ez_get 0 l (ez_ix i), ?_, trivial⟩
  unfold ez_la
  rw [h2]
  simp [tz_inb (n := n) (i := i) (by have := hq.1; omega) (by have := hq.2; omega) h3]
theorem tz_lst (hT : tz_T G σ) (hK : G.1 r = some (1, 0, n, 0)) (hq : tq_iv lo hi i) (h0 : 0 ≤ lo) (h1 : hi < (n : Int)) : tz_O (tz_T G) (ez_lst σ r i y) := by
  obtain ⟨l, h2, h3⟩ := tz_lrow hT hK
  refine ⟨σ.set r (.inr (.inl (n, ez_put l (ez_ix i) y))), ?_, tz_up hT h2 hK ⟨rfl, rfl, h3⟩⟩
  unfold ez_lst
  rw [h2]
  simp [tz_inb (n := n) (i := i) (by have := hq.1; omega) (by have := hq.2; omega) h3, ez_putK_eq, ez_setK_eq]
theorem tz_ra (hT : tz_T G σ) (hK : G.1 r = some (2, t, n, s)) (hq : tq_iv lo hi i) (h0 : 0 ≤ lo) (h1 : hi < (n : Int)) : tz_O (fun x => G.1 x = some (tz_sub s)) (ez_ra σ t r i) := by
  obtain ⟨e, h1', h2⟩ := hT.2 r _ hK
  match e, h1', h2 with
  | .inl (_, _, _), _, h2 => exact absurd h2.1 (by show ¬ ((2 : Nat) = 0); decide)
  | .inr (.inl (_, _)), _, h2 => exact absurd h2.1 (by show ¬ ((2 : Nat) = 1); decide)
  | .inr (.inr (.inl (t2, n2, l))), h1', ⟨_, h3, h4, h5, h6⟩ =>
    have h3 : t = t2 := h3
    have h4 : n = n2 := h4
    subst h3 h4
    have hi := tz_inb (n := n) (i := i) (by have := hq.1; omega) (by have := hq.2; omega) h5
    have hlt : ez_ix i < n := by
      unfold ez_inb at hi
      rw [Bool.and_eq_true] at hi
      exact Nat.blt_eq.mp hi.1
    obtain ⟨a, ha, hk⟩ := h6 _ hlt
    refine ⟨a, ?_, hk⟩
    unfold ez_ra
    rw [h1']
    simp [ez_beq, hi, ha]
  | .inr (.inr (.inr (_, _))), _, h2 => exact absurd h2.1 (by show ¬ ((2 : Nat) = 3); decide)
theorem tz_ln (hT : tz_T G σ) (hK : G.1 r = some (0, t, n, e)) : tz_O (tq_iv (n : Int) (n : Int)) (ez_ln σ t r) := by
  obtain ⟨l, h2, h3, -⟩ := tz_row hT hK
  refine ⟨Int32.ofNat n, ?_, ?_⟩
  · unfold ez_ln
    rw [h2]
    simp [ez_beq]
  · have : (Int32.ofNat n).toInt = (n : Int) := by
      have h5 : nI n = Int32.ofNat n := rfl
      rw [← h5, nI_toInt (by omega)]
    exact ⟨by omega, by omega⟩
theorem tz_cp {n1 : Nat} {a : Nat} (hT : tz_T G σ) (hK : G.1 r = some (0, 1, n, e)) (hK1 : G.1 a = some (0, 1, n1, e)) (hE : ∀ j, G.2.2.1 e j = (A, B)) (hq : tq_iv lo hi i) (h0 : 0 ≤ lo) (h1 : hi ≤ (n : Int)) (h1' : hi ≤ (n1 : Int)) : tz_O (tz_T G) (ez_cp σ r a i) := by
  obtain ⟨l, h2, h3, h4⟩ := tz_row hT hK
  obtain ⟨l1, h2', h3', h4'⟩ := tz_row hT hK1
  have hx := tz_ix (i := i) (by have := hq.1; omega)
  have q1 := hq.1
  have q2 := hq.2
  refine ⟨σ.set a (.inl (1, n1, ez_cpl (ez_ix i) l l1)), ?_, tz_up hT h2' hK1 ⟨rfl, rfl, rfl, h3', fun j hj => ?_⟩⟩
  · unfold ez_cp
    rw [h2, h2']
    have c3 : Nat.ble (ez_ix i) n = true := Nat.ble_eq.mpr (by omega)
    have c4 : Nat.ble (ez_ix i) n1 = true := Nat.ble_eq.mpr (by omega)
    have c5 : Nat.blt n1 100000 = true := Nat.blt_eq.mpr h3'
    simp only [c3, c4, c5, ez_frcK_eq, ez_setK_eq]
    rfl
  · rw [ez_cpl_get]
    split
    · have := h4 j (by omega)
      rw [hE] at this ⊢
      exact this
    · exact h4' j hj
theorem tz_pfG (hT : tz_T G σ) (hK : G.1 a = some (3, ci, 0, 0)) {f : tz_f} (hF : G.2.1 ci k = some f) {v : ez_V} (hv : tz_okV G f v) : tz_O (tz_T G) (ez_pf σ ci a k v) := by
  obtain ⟨fs, h1, h2, h3⟩ := tz_obE hT hK
  obtain ⟨v0, h4, -⟩ := h3 k _ hF
  have hl := (List.getElem?_eq_some_iff.mp h4).1
  refine ⟨σ.set a (.inr (.inr (.inr (ci, fs.set k v)))), ?_, tz_up hT h1 hK ⟨rfl, rfl, fun k2 f2 hf2 => ?_⟩⟩
  · unfold ez_pf
    rw [h2]
    simp [Nat.blt_eq.mpr hl, ez_setK_eq]
  · by_cases q : k2 = k
    · subst q
      rw [hF] at hf2
      cases hf2
      exact ⟨v, List.getElem?_set_self hl, hv⟩
    · obtain ⟨v2, e1, e2⟩ := h3 k2 f2 hf2
      exact ⟨v2, by rw [List.getElem?_set_ne (fun w => q w.symm), e1], e2⟩
theorem tz_pfi (hT : tz_T G σ) (hK : G.1 a = some (3, ci, 0, 0)) (hF : G.2.1 ci k = some (0, K, lo, hi)) (hx : tq_iv lo hi x) : tz_O (tz_T G) (ez_pf σ ci a k (.inl x)) := tz_pfG hT hK hF ⟨rfl, hx⟩
theorem tz_pfl (hT : tz_T G σ) (hK : G.1 a = some (3, ci, 0, 0)) (hF : G.2.1 ci k = some (1, K, lo, hi)) : tz_O (tz_T G) (ez_pf σ ci a k (.inr (.inl y))) := tz_pfG hT hK hF rfl
theorem tz_pfr (hT : tz_T G σ) (hK : G.1 a = some (3, ci, 0, 0)) (hF : G.2.1 ci k = some (2, K, 0, hi)) (hr : G.1 r = some K) : tz_O (tz_T G) (ez_pf σ ci a k (.inr (.inr (some r)))) := tz_pfG hT hK hF ⟨rfl, hr, Or.inl rfl⟩
end TZ
