/-! The rule's text: what lies on its pile, what was written. -/
def upf (f : Nat → Int) (k : Nat) (x : Int) : Nat → Int := fun i => if i = k then x else f i
def opw (w : Int) : Bool := decide (w = 1 ∨ w = 2 ∨ w = 4 ∨ w = 5 ∨ w = 6)
def okS (s : Int) : Prop := ¬ s = 126 ∧ ¬ (97 ≤ s ∧ s ≤ 122)
def oc (f : Nat → Int) : Nat → Nat
  | 0 => 0
  | n + 1 => oc f n + (if opw (f n) = true then 1 else 0)
theorem oc_congr {f g : Nat → Int} : ∀ n, (∀ i, i < n → f i = g i) → oc f n = oc g n
  | 0, _ => rfl
  | n + 1, h => by
    show oc f n + _ = oc g n + _
    rw [oc_congr n (fun i q => h i (by omega)), h n (by omega)]
/-- one code: from so many numbers to so many -/
def stp (c : Int) (n m : Nat) : Prop := (c = 126 ∧ 1 ≤ n ∧ m = n) ∨ (97 ≤ c ∧ c ≤ 122 ∧ n < 60 ∧ m = n + 1) ∨ (okS c ∧ 2 ≤ n ∧ m = n - 1)
def rpv (f : Nat → Int) : Nat → Nat → Nat → Nat → Prop
  | _, 0, n, d => n = d
  | k, l + 1, n, d => ∃ m, stp (f k) n m ∧ rpv f (k + 1) l m d
theorem rpv_rp {f : Nat → Int} : ∀ l k n d, rpv f k l n d → tz_rp f k l n
  | 0, _, _, _, _ => by unfold tz_rp; trivial
  | l + 1, k, n, d, h => by
    obtain ⟨m, hs, hr⟩ := h
    have ih := rpv_rp l (k + 1) m d hr
    unfold tz_rp
    rcases hs with ⟨a, b, c⟩ | ⟨a, b, c, e⟩ | ⟨a, b, c⟩
    · subst c
      exact Or.inl ⟨a, b, ih⟩
    · subst e
      exact Or.inr (Or.inl ⟨by omega, a, b, c, ih⟩)
    · subst c
      exact Or.inr (Or.inr ⟨a.1, a.2, b, ih⟩)
theorem rpv_app {f : Nat → Int} {m : Nat} : ∀ l k n d, rpv f k l n d → stp (f (k + l)) d m → rpv f k (l + 1) n m
  | 0, k, n, d, h, hs => by
    have h : n = d := h
    subst h
    exact ⟨m, hs, rfl⟩
  | l + 1, k, n, d, h, hs => by
    obtain ⟨q, h1, h2⟩ := h
    refine ⟨q, h1, rpv_app l (k + 1) q d h2 ?_⟩
    rw [show k + 1 + l = k + (l + 1) by omega]
    exact hs
theorem rpv_congr {f g : Nat → Int} : ∀ l k n d, (∀ i, k ≤ i → i < k + l → f i = g i) → rpv f k l n d → rpv g k l n d
  | 0, _, _, _, _, h => h
  | l + 1, k, n, d, hc, h => by
    obtain ⟨m, h1, h2⟩ := h
    refine ⟨m, ?_, rpv_congr l (k + 1) m d (fun i a b => hc i (by omega) (by omega)) h2⟩
    rw [← hc k (Nat.le_refl _) (by omega)]
    exact h1
def E0 (B P w u c : Int) (f g : Nat → Int) : Prop := (0 ≤ P ∧ (0 < P → f 0 = 8)) ∧ (∀ i : Nat, 1 ≤ i → (i : Int) < P → (1 ≤ f i ∧ f i ≤ 7) ∧ (f i = 3 → g i = 126) ∧ (opw (f i) = true → okS (g i))) ∧ (0 ≤ B ∧ B ≤ c ∧ 0 ≤ u ∧ u ≤ 30 ∧ w ≤ 7)
/-- a unit is wanted -/
def EA (B P w u c : Int) (f g h : Nat → Int) : Prop := E0 B P w u c f g ∧ rpv h B.toNat (c - B).toNat 0 (oc f P.toNat) ∧ (c - B + P ≤ 9 * u + 1 + w ∧ (1 ≤ P → P = 1 + oc f P.toNat + w) ∧ (oc f P.toNat : Int) ≤ u)
/-- behind a unit -/
def EN (B P w u c : Int) (f g h : Nat → Int) : Prop := E0 B P w u c f g ∧ rpv h B.toNat (c - B).toNat 0 (oc f P.toNat + 1) ∧ (c - B + P ≤ 9 * u ∧ (1 ≤ P → P = 1 + oc f P.toNat + w) ∧ (oc f P.toNat : Int) + 1 ≤ u)
section EE
variable {B P w u c x y w2 u2 : Int} {f g h f2 g2 h2 : Nat → Int}
theorem E0_push (e : E0 B P w u c f g) (hP : 1 ≤ P) (hx : 1 ≤ x ∧ x ≤ 7) (h3 : x = 3 → y = 126) (ho : opw x = true → okS y) (hu : 0 ≤ u2 ∧ u2 ≤ 30 ∧ w2 ≤ 7) (hf : ∀ i, f2 i = upf f P.toNat x i) (hg : ∀ i, g2 i = upf g P.toNat y i) : E0 B (P + 1) w2 u2 c f2 g2 := by
  obtain ⟨⟨e1, e2⟩, e3, e4, e5, -⟩ := e
  refine ⟨⟨by omega, fun _ => ?_⟩, fun i i1 i2 => ?_, e4, e5, hu⟩
  · rw [hf]
    unfold upf
    rw [if_neg (by omega)]
    exact e2 (by omega)
  · rw [hf, hg]
    unfold upf
    by_cases q : i = P.toNat
    · rw [if_pos q, if_pos q]
      exact ⟨hx, h3, ho⟩
    · rw [if_neg q, if_neg q]
      exact e3 i i1 (by omega)
theorem oc_le {f : Nat → Int} (h : f 0 = 8) : ∀ n, oc f (n + 1) ≤ n
  | 0 => by
    show 0 + (if opw (f 0) = true then 1 else 0) ≤ 0
    rw [h]
    decide
  | n + 1 => by
    have := oc_le h n
    show oc f (n + 1) + (if opw (f (n + 1)) = true then 1 else 0) ≤ n + 1
    split <;> omega
theorem ocP (e : E0 B P w u c f g) (hP : 1 ≤ P) : (oc f P.toNat : Int) ≤ P - 1 := by
  have := oc_le (e.1.2 (by omega)) (P.toNat - 1)
  rw [show P.toNat - 1 + 1 = P.toNat by omega] at this
  omega
theorem oc_push (hP : 0 ≤ P) (hf : ∀ i, f2 i = upf f P.toNat x i) : oc f2 (P + 1).toNat = oc f P.toNat + (if opw x = true then 1 else 0) := by
  rw [show (P + 1).toNat = P.toNat + 1 by omega]
  show oc f2 P.toNat + (if opw (f2 P.toNat) = true then 1 else 0) = _
  rw [oc_congr (f := f2) (g := f) P.toNat (fun i q => by rw [hf]; unfold upf; rw [if_neg (by omega)]), hf]
  unfold upf
  rw [if_pos rfl]
theorem oc_pop (hP : 1 ≤ P) : oc f P.toNat = oc f (P - 1).toNat + (if opw (f (P - 1).toNat) = true then 1 else 0) := by
  rw [show P.toNat = (P - 1).toNat + 1 by omega]
  rfl
theorem E0_pop (e : E0 B P w u c f g) (hP : 1 ≤ P) {c2 : Int} (hc : c ≤ c2) (hw : w2 ≤ 7) : E0 B (P - 1) w2 u c2 f g := by
  obtain ⟨⟨e1, e2⟩, e3, e4, e5, e6, e7, -⟩ := e
  exact ⟨⟨by omega, fun _ => e2 (by omega)⟩, fun i i1 i2 => e3 i i1 (by omega), e4, by omega, e6, e7, hw⟩
theorem EA_push (e : EA B P w u c f g h) (hP : 1 ≤ P) (hw : w ≤ 6) (hx : x = 3 ∨ x = 7) (hu : u2 = u ∨ (u2 = u + 1 ∧ u ≤ 29)) (hf : ∀ i, f2 i = upf f P.toNat x i) (hg : ∀ i, g2 i = upf g P.toNat 126 i) (hh : ∀ i, h2 i = h i) : EA B (P + 1) (w + 1) u2 c f2 g2 h2 := by
  obtain ⟨e0, e1, e2, e3, e4⟩ := e
  have hub := e0.2.2
  have ho : opw x = false := by rcases hx with h | h <;> rw [h] <;> decide
  have hq := ocP e0 hP
  have hoc := oc_push (f := f) (f2 := f2) (x := x) (P := P) (by omega) hf
  rw [ho] at hoc
  simp only [Bool.false_eq_true, if_false, Nat.add_zero] at hoc
  refine ⟨E0_push e0 hP (by omega) (fun _ => rfl) (fun q => by rw [ho] at q; cases q) (by omega) hf hg, ?_, ?_⟩
  · rw [hoc]
    exact rpv_congr _ _ _ _ (fun i _ _ => (hh i).symm) e1
  · rw [hoc]
    exact ⟨by omega, by omega, by omega⟩
theorem EA_unit (e : EA B P w u c f g h) (hu : u ≤ 29) (hx : 97 ≤ x ∧ x ≤ 122) (hf : ∀ i, f2 i = f i) (hg : ∀ i, g2 i = g i) (hh : ∀ i, h2 i = upf h c.toNat x i) : EN B P w (u + 1) (c + 1) f2 g2 h2 := by
  have hq := fun q => ocP e.1 q
  obtain ⟨⟨e01, e02, e03⟩, e1, e2, e3, e4⟩ := e
  have hoc : oc f2 P.toNat = oc f P.toNat := oc_congr _ (fun i _ => hf i)
  refine ⟨⟨⟨e01.1, fun q => by rw [hf]; exact e01.2 q⟩, fun i i1 i2 => by rw [hf, hg]; exact e02 i i1 i2, by omega⟩, ?_, by omega, fun q => by rw [hoc]; exact e3 q, by rw [hoc]; omega⟩
  rw [hoc, show (c + 1 - B).toNat = (c - B).toNat + 1 by omega]
  refine rpv_app _ _ _ _ (rpv_congr _ _ _ _ (fun i i1 i2 => ?_) e1) (Or.inr (Or.inl ⟨?_, ?_, by omega, rfl⟩))
  · rw [hh]
    unfold upf
    rw [if_neg (by omega)]
  · rw [hh]
    unfold upf
    rw [if_pos (by omega)]
    exact hx.1
  · rw [hh]
    unfold upf
    rw [if_pos (by omega)]
    exact hx.2
theorem EN_popNot (e : EN B P w u c f g h) (hP : 2 ≤ P) (h3 : f (P - 1).toNat = 3) (hf : ∀ i, f2 i = f i) (hg : ∀ i, g2 i = g i) (hh : ∀ i, h2 i = upf h c.toNat (g (P - 1).toNat) i) : EN B (P - 1) (w - 1) u (c + 1) f2 g2 h2 := by
  obtain ⟨e0, e1, e2, e3, e4⟩ := e
  have hp := e0.2.2
  obtain ⟨-, h126, -⟩ := e0.2.1 (P - 1).toNat (by omega) (by omega)
  have h126 := h126 h3
  have hop := oc_pop (f := f) (P := P) (by omega)
  rw [h3] at hop
  have : (if opw 3 = true then 1 else 0 : Nat) = 0 := by decide
  rw [this, Nat.add_zero] at hop
  have hoc : oc f2 (P - 1).toNat = oc f (P - 1).toNat := oc_congr _ (fun i _ => hf i)
  have e0' := E0_pop (w2 := w - 1) (c2 := c + 1) e0 (by omega) (by omega) (by omega)
  refine ⟨⟨⟨e0'.1.1, fun q => by rw [hf]; exact e0'.1.2 q⟩, fun i i1 i2 => by rw [hf, hg]; exact e0'.2.1 i i1 i2, e0'.2.2⟩, ?_, by omega, fun q => by rw [hoc]; have := e3 (by omega); omega, by rw [hoc]; omega⟩
  rw [hoc, ← hop, show (c + 1 - B).toNat = (c - B).toNat + 1 by omega]
  refine rpv_app _ _ _ _ (rpv_congr _ _ _ _ (fun i i1 i2 => ?_) e1) (Or.inl ⟨?_, by omega, rfl⟩)
  · rw [hh]
    unfold upf
    rw [if_neg (by omega)]
  · rw [hh]
    unfold upf
    rw [if_pos (by omega)]
    exact h126
theorem EN_popOp (e : EN B P w u c f g h) (hP : 2 ≤ P) (ho : opw (f (P - 1).toNat) = true) (hf : ∀ i, f2 i = f i) (hg : ∀ i, g2 i = g i) (hh : ∀ i, h2 i = upf h c.toNat (g (P - 1).toNat) i) : EN B (P - 1) w u (c + 1) f2 g2 h2 := by
  obtain ⟨e0, e1, e2, e3, e4⟩ := e
  have hp := e0.2.2
  obtain ⟨-, -, hok⟩ := e0.2.1 (P - 1).toNat (by omega) (by omega)
  have hok := hok ho
  have hop := oc_pop (f := f) (P := P) (by omega)
  rw [if_pos ho] at hop
  have hoc : oc f2 (P - 1).toNat = oc f (P - 1).toNat := oc_congr _ (fun i _ => hf i)
  have e0' := E0_pop (w2 := w) (c2 := c + 1) e0 (by omega) (by omega) (by omega)
  refine ⟨⟨⟨e0'.1.1, fun q => by rw [hf]; exact e0'.1.2 q⟩, fun i i1 i2 => by rw [hf, hg]; exact e0'.2.1 i i1 i2, e0'.2.2⟩, ?_, by omega, fun q => by rw [hoc]; have := e3 (by omega); omega, by rw [hoc]; omega⟩
  rw [hoc, show (c + 1 - B).toNat = (c - B).toNat + 1 by omega]
  refine rpv_app _ _ _ _ (rpv_congr _ _ _ _ (fun i i1 i2 => ?_) e1) (Or.inr (Or.inr ⟨?_, by omega, by omega⟩))
  · rw [hh]
    unfold upf
    rw [if_neg (by omega)]
  · rw [hh]
    unfold upf
    rw [if_pos (by omega)]
    exact hok
theorem EN_push (e : EN B P w u c f g h) (hP : 1 ≤ P) (hx : opw x = true) (hy : okS y) (hf : ∀ i, f2 i = upf f P.toNat x i) (hg : ∀ i, g2 i = upf g P.toNat y i) (hh : ∀ i, h2 i = h i) : EA B (P + 1) w u c f2 g2 h2 := by
  obtain ⟨e0, e1, e2, e3, e4⟩ := e
  have hub := e0.2.2
  have hoc := oc_push (f := f) (f2 := f2) (x := x) (P := P) (by omega) hf
  rw [if_pos hx] at hoc
  have hq := ocP e0 hP
  have hx2 : x = 1 ∨ x = 2 ∨ x = 4 ∨ x = 5 ∨ x = 6 := of_decide_eq_true hx
  refine ⟨E0_push e0 hP (by omega) (fun q => by omega) (fun _ => hy) (by omega) hf hg, ?_, ?_⟩
  · rw [hoc]
    exact rpv_congr _ _ _ _ (fun i _ _ => (hh i).symm) e1
  · rw [hoc]
    exact ⟨by omega, by omega, by omega⟩
theorem EN_pop (e : EN B P w u c f g h) (hP : 1 ≤ P) (ho : opw (f (P - 1).toNat) = false) (hw : w2 = w ∨ w2 = w - 1) (h7 : w2 = w → P = 1) (hf : ∀ i, f2 i = f i) (hg : ∀ i, g2 i = g i) (hh : ∀ i, h2 i = h i) : EN B (P - 1) w2 u c f2 g2 h2 := by
  obtain ⟨e0, e1, e2, e3, e4⟩ := e
  have hp := e0.2.2
  have hop := oc_pop (f := f) (P := P) hP
  rw [ho] at hop
  simp only [Bool.false_eq_true, if_false, Nat.add_zero] at hop
  have hoc : oc f2 (P - 1).toNat = oc f (P - 1).toNat := oc_congr _ (fun i _ => hf i)
  have e0' := E0_pop (w2 := w2) (c2 := c) e0 hP (by omega) (by omega)
  refine ⟨⟨⟨e0'.1.1, fun q => by rw [hf]; exact e0'.1.2 q⟩, fun i i1 i2 => by rw [hf, hg]; exact e0'.2.1 i i1 i2, e0'.2.2⟩, ?_, by omega, fun q => by rw [hoc]; have := e3 (by omega); omega, by rw [hoc]; omega⟩
  rw [hoc, ← hop]
  exact rpv_congr _ _ _ _ (fun i _ _ => (hh i).symm) e1
end EE
