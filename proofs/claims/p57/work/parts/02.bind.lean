/-! How the pure functions are joined. -/
def ez_bd {α β : Type} (o : Option α) (g : α → Option β) : Option β := match o with
  | none => none
  | some x => g x
theorem ez_bd_sp {α β : Type} {o : Option α} {g : α → Option β} {z : β} (h : ez_bd o g = some z) : ∃ x, o = some x ∧ g x = some z := by
  cases o with
  | none => cases h
  | some x => exact ⟨x, rfl, h⟩
def ez_b2 {α γ β : Type} (o : Option (α × γ)) (g : α → γ → Option β) : Option β := match o with
  | none => none
  | some q => g q.1 q.2
theorem ez_b2_sp {α γ β : Type} {o : Option (α × γ)} {g : α → γ → Option β} {z : β} (h : ez_b2 o g = some z) : ∃ x y, o = some (x, y) ∧ g x y = some z := by
  cases o with
  | none => cases h
  | some q => exact ⟨q.1, q.2, rfl, h⟩
/-- a divisor -/
def ez_nz {β : Type} (y : Int32) (g : Option β) : Option β := if y = 0 then none else g
theorem ez_nz_sp {β : Type} {y : Int32} {g : Option β} {z : β} (h : ez_nz y g = some z) : ¬ y = 0 ∧ g = some z := by
  unfold ez_nz at h
  by_cases q : y = 0
  · rw [if_pos q] at h; cases h
  · rw [if_neg q] at h; exact ⟨q, h⟩
theorem ez_let_sp {α β : Type} {x : α} {g : α → Option β} {z : β} (h : ez_let x g = some z) : ∃ y, y = x ∧ g y = some z := ⟨x, rfl, h⟩
theorem ez_ifp {β : Type} {q : Prop} [Decidable q] {g1 g2 : Option β} {z : β} (h : (if q then g1 else g2) = some z) (hq : q) : g1 = some z := by rw [if_pos hq] at h; exact h
theorem ez_ifn {β : Type} {q : Prop} [Decidable q] {g1 g2 : Option β} {z : β} (h : (if q then g1 else g2) = some z) (hq : ¬ q) : g2 = some z := by rw [if_neg hq] at h; exact h
/-- a loop: so many times at most -/
def ez_fix {T : Type} (bot : T) (F : T → T) : Nat → T
  | 0 => bot
  | n + 1 => F (ez_fix bot F n)
theorem ez_fix_ind {T : Type} {bot : T} {F : T → T} (G : T → Prop) (h0 : G bot) (hs : ∀ k, G k → G (F k)) : ∀ n, G (ez_fix bot F n)
  | 0 => h0
  | n + 1 => hs _ (ez_fix_ind G h0 hs n)
theorem ez_fix_indn {T : Type} {bot : T} {F : T → T} (G : Nat → T → Prop) (h0 : G 0 bot) (hs : ∀ n k, G n k → G (n + 1) (F k)) : ∀ n, G n (ez_fix bot F n)
  | 0 => h0
  | n + 1 => hs n _ (ez_fix_indn G h0 hs n)
/-- how many times -/
def ez_N : Nat := 4294967296
/-- a boolean, a char, a byte that is answered -/
def ez_nr {β : Type} (ty : FieldType) (r : Int32) (g : Option β) : Option β := if vp_nar ty r = r then g else none
theorem ez_nr_sp {β : Type} {ty : FieldType} {r : Int32} {g : Option β} {z : β} (hty : narrow ty (.int r) = .int (vp_nar ty r)) (h : ez_nr ty r g = some z) : narrow ty (.int r) = .int r ∧ g = some z := by
  unfold ez_nr at h
  by_cases q : vp_nar ty r = r
  · rw [if_pos q] at h; exact ⟨by rw [hty, q], h⟩
  · rw [if_neg q] at h; cases h
