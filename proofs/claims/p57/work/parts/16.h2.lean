/-! The reference's fields and rows as numbers; what a reader of its text changes. -/
def fv (σ : ez_H) (k : Nat) : Int := match ez_gi σ 12 170 k with
  | some x => x.toInt
  | none => 0
def rvE : Option ez_E → Nat → Int
  | some (.inl (_, _, l)), i => (ez_get 0 l i).toInt
  | _, _ => 0
def rv (σ : ez_H) (r i : Nat) : Int := rvE (ez_at σ r) i
section FV
variable {σ s s1 s2 : ez_H} {t a r k ci j : Nat} {i x : Int32} {v : ez_V} {y : Int64} {lo hi : Int} {p : tz_P}
theorem fv_gi (h : ez_gi σ 12 170 k = some x) : fv σ k = x.toInt := by unfold fv; rw [h]
theorem fv_eq (h : ez_gi s 12 170 k = ez_gi σ 12 170 k) : fv s k = fv σ k := by unfold fv; rw [h]
theorem fv_pf (c : ez_pf σ 12 170 k (.inl x) = some s) : fv s k = x.toInt := fv_gi (fr_pf_gi c)
theorem fv_pf_ne (c : ez_pf σ 12 170 k v = some s) (h : ¬ j = k) : fv s j = fv σ j := fv_eq (fr_pf_v c (fun q => h q.2.2)).1
theorem fv_is (c : ez_is σ t r i x = some s) : fv s j = fv σ j := fv_eq (fr_is_gi c)
theorem fv_lst (c : ez_lst σ r i y = some s) : fv s j = fv σ j := fv_eq (fr_lst_gi c)
theorem gf (h : tz_O (tq_iv lo hi) (ez_gi σ 12 170 k)) : tz_O (fun x => x.toInt = fv σ k ∧ lo ≤ x.toInt ∧ x.toInt ≤ hi) (ez_gi σ 12 170 k) := by
  obtain ⟨x, e, h1, h2⟩ := h
  exact ⟨x, e, (fv_gi e).symm, h1, h2⟩
theorem rv_pf (c : ez_pf σ ci a k v = some s) (i : Nat) : rv s r i = rv σ r i := by
  obtain ⟨fs, e0, -, e⟩ := ez_pf_sp c
  have hl := (List.getElem?_eq_some_iff.mp e0).1
  unfold rv
  by_cases q : r = a
  · rw [q, e, ez_at_eq, ez_at_eq, List.getElem?_set_self hl, e0]
    rfl
  · rw [fr_pf_at c q]
theorem rv_lst (c : ez_lst σ a i y = some s) (j : Nat) : rv s r j = rv σ r j := by
  obtain ⟨n, l, e0, -, e⟩ := ez_lst_sp c
  have hl := (List.getElem?_eq_some_iff.mp e0).1
  unfold rv
  by_cases q : r = a
  · rw [q, e, ez_at_eq, ez_at_eq, List.getElem?_set_self hl, e0]
    rfl
  · rw [e, ez_at_eq, ez_at_eq, List.getElem?_set_ne (fun w => q w.symm)]
theorem rv_is_ne (c : ez_is σ t a i x = some s) (h : ¬ r = a) (j : Nat) : rv s r j = rv σ r j := by
  unfold rv
  rw [fr_is_at c h]
theorem rv_is (c : ez_is σ t a i x = some s) (j : Nat) : rv s a j = if j = i.toNatClampNeg then x.toInt else rv σ a j := by
  obtain ⟨n, l, e0, -, e⟩ := ez_is_sp c
  have hl := (List.getElem?_eq_some_iff.mp e0).1
  unfold rv
  rw [e, ez_at_eq, ez_at_eq, List.getElem?_set_self hl, e0]
  show (ez_get 0 (ez_pw t l i.toNatClampNeg x) j).toInt = if j = i.toNatClampNeg then x.toInt else (ez_get 0 l j).toInt
  rw [ez_get_pw]
  split <;> rfl
theorem cl_nat (h : 0 ≤ i.toInt) : i.toNatClampNeg = i.toInt.toNat := by rfl
theorem rv_ia (e : ez_ia σ t a i = some x) : x.toInt = rv σ a i.toNatClampNeg := by
  obtain ⟨n, l, e0, -, hx⟩ := ez_ia_sp e
  unfold rv
  rw [ez_at_eq, e0, hx]
  rfl
/-- a number of a row, and which -/
theorem ga (h : tz_O (tq_iv lo hi) (ez_ia σ t a i)) : tz_O (fun x => x.toInt = rv σ a i.toNatClampNeg ∧ lo ≤ x.toInt ∧ x.toInt ≤ hi) (ez_ia σ t a i) := by
  obtain ⟨x, e, h1, h2⟩ := h
  exact ⟨x, e, rv_ia e, h1, h2⟩
/-- a row of ints read at any place -/
theorem tz_iaT {G : tz_G} {n e : Nat} (hT : tz_T G σ) (hK : G.1 r = some (0, t, n, e)) (hq : tq_iv lo hi i) (h0 : 0 ≤ lo) (h1 : hi < (n : Int)) : tz_O (tq_iv (-2147483648) 2147483647) (ez_ia σ t r i) := by
  obtain ⟨q1, q2⟩ := hq
  exact tz_imp (tz_iaG hT hK (i := i) (by omega) (by omega)) (fun z _ => tq_top z)
/-- how much there is to read -/
abbrev pm (σ : ez_H) : Prop := fv σ 7 ≤ fv σ 3
def M (σ : ez_H) : Nat := (1601 - fv σ 7).toNat + (if fv σ 8 = 0 then 0 else 1) + (if fv σ 4 = 0 then 1 else 0)
def tm (σ s : ez_H) : Prop := pm σ → pm s ∧ M s ≤ M σ ∧ (fv s 4 = 0 → fv σ 4 = 0)
def tnr (r : Nat) : Bool := Nat.beq r 173 || (Nat.beq r 174 || ((Nat.ble 176 r && Nat.ble r 181) || (Nat.beq r 183 || (Nat.beq r 193 || (Nat.beq r 194 || Nat.ble 200 r)))))
def tn (σ s : ez_H) : Prop := (∀ k, 43 ≤ k → k ≤ 48 → fv s k = fv σ k) ∧ ∀ r i, tnr r = true → rv s r i = rv σ r i
theorem tm_0 : tm σ σ := fun h => ⟨h, Nat.le_refl _, id⟩
theorem tm_tr (h : tm σ s) (h2 : tm s s1) : tm σ s1 := fun h0 => by
  obtain ⟨a1, a2, a3⟩ := h h0
  obtain ⟨b1, b2, b3⟩ := h2 a1
  exact ⟨b1, Nat.le_trans b2 a2, fun q => a3 (b3 q)⟩
theorem tm_eq (h3 : fv s 3 = fv σ 3) (h4 : fv s 4 = fv σ 4) (h7 : fv s 7 = fv σ 7) (h8 : fv s 8 = fv σ 8) : tm σ s := fun h0 => by
  unfold pm M
  rw [h3, h4, h7, h8]
  exact ⟨h0, Nat.le_refl _, id⟩
def tmk (k : Nat) : Bool := Nat.beq k 3 || Nat.beq k 4 || Nat.beq k 7 || Nat.beq k 8
theorem tmk_ne (h : tmk k = false) : ¬ 3 = k ∧ ¬ 4 = k ∧ ¬ 7 = k ∧ ¬ 8 = k := by
  refine ⟨fun e => ?_, fun e => ?_, fun e => ?_, fun e => ?_⟩ <;> (subst e; cases h)
theorem tm_pf (h : tm σ s) (c : ez_pf s 12 a k v = some s1) (ka : tz_C a = some (3, 12, 0, 0)) (hk : tmk k = false) : tm σ s1 := by
  have ha := tz_one12 ka
  subst ha
  obtain ⟨q1, q2, q3, q4⟩ := tmk_ne hk
  exact tm_tr h (tm_eq (fv_pf_ne c q1) (fv_pf_ne c q2) (fv_pf_ne c q3) (fv_pf_ne c q4))
theorem tm_is (h : tm σ s) (c : ez_is s t r i x = some s1) : tm σ s1 := tm_tr h (tm_eq (fv_is c) (fv_is c) (fv_is c) (fv_is c))
theorem tm_lst (h : tm σ s) (c : ez_lst s r i y = some s1) : tm σ s1 := tm_tr h (tm_eq (fv_lst c) (fv_lst c) (fv_lst c) (fv_lst c))
theorem tn_0 : tn σ σ := ⟨fun _ _ _ => rfl, fun _ _ _ => rfl⟩
theorem tn_tr (h : tn σ s) (h2 : tn s s1) : tn σ s1 := ⟨fun k a b => (h2.1 k a b).trans (h.1 k a b), fun r i a => (h2.2 r i a).trans (h.2 r i a)⟩
theorem tn_pf (h : tn σ s) (c : ez_pf s 12 a k v = some s1) (ka : tz_C a = some (3, 12, 0, 0)) (hk : k < 43) : tn σ s1 := by
  have ha := tz_one12 ka
  subst ha
  exact tn_tr h ⟨fun j a _ => fv_pf_ne c (by omega), fun r i _ => rv_pf c i⟩
theorem tn_is (h : tn σ s) (c : ez_is s t r i x = some s1) (hr : tnr r = false) : tn σ s1 := tn_tr h ⟨fun _ _ _ => fv_is c, fun r2 i q => rv_is_ne c (fun e => by rw [e, hr] at q; cases q) i⟩
theorem tn_lst (h : tn σ s) (c : ez_lst s r i y = some s1) : tn σ s1 := tn_tr h ⟨fun _ _ _ => fv_lst c, fun r2 i _ => rv_lst c i⟩
end FV
