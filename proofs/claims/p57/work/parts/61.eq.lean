/-! Pictures compared by a program. -/
def ez_qL {α : Type} (f : α → α → Bool) : List α → List α → Bool
  | [], [] => true
  | x :: l, y :: m => f x y && ez_qL f l m
  | _, _ => false
theorem ez_qL_eq {α : Type} {f : α → α → Bool} (hf : ∀ x y, f x y = true → x = y) : ∀ l m : List α, ez_qL f l m = true → l = m
  | [], [], _ => rfl
  | x :: l, y :: m, h => by
    simp only [ez_qL, Bool.and_eq_true] at h
    rw [hf x y h.1, ez_qL_eq hf l m h.2]
  | [], _ :: _, h => by cases h
  | _ :: _, [], h => by cases h
def ez_qP {α : Type} (f : α → α → Bool) (x y : Nat × α) : Bool := Nat.beq x.1 y.1 && f x.2 y.2
theorem ez_qP_eq {α : Type} {f : α → α → Bool} (hf : ∀ x y, f x y = true → x = y) (x y : Nat × α) (h : ez_qP f x y = true) : x = y := by
  simp only [ez_qP, Bool.and_eq_true] at h
  exact Prod.ext (Nat.eq_of_beq_eq_true h.1) (hf _ _ h.2)
def ez_qO (x y : Option Nat) : Bool := match x, y with
  | none, none => true
  | some a, some b => Nat.beq a b
  | _, _ => false
theorem ez_qO_eq (x y : Option Nat) (h : ez_qO x y = true) : x = y := by
  cases x <;> cases y <;> simp only [ez_qO] at h
  · rfl
  · cases h
  · cases h
  · rw [Nat.eq_of_beq_eq_true h]
def ez_qI (x y : Int32) : Bool := Nat.beq x.toBitVec.toNat y.toBitVec.toNat
theorem ez_qI_eq (x y : Int32) (h : ez_qI x y = true) : x = y := Int32.toBitVec_inj.mp (BitVec.eq_of_toNat_eq (Nat.eq_of_beq_eq_true h))
def ez_qJ (x y : Int64) : Bool := Nat.beq x.toBitVec.toNat y.toBitVec.toNat
theorem ez_qJ_eq (x y : Int64) (h : ez_qJ x y = true) : x = y := Int64.toBitVec_inj.mp (BitVec.eq_of_toNat_eq (Nat.eq_of_beq_eq_true h))
def ez_qV (x y : ez_V) : Bool := match x, y with
  | .inl a, .inl b => ez_qI a b
  | .inr (.inl a), .inr (.inl b) => ez_qJ a b
  | .inr (.inr a), .inr (.inr b) => ez_qO a b
  | _, _ => false
theorem ez_qV_eq (x y : ez_V) (h : ez_qV x y = true) : x = y := by
  match x, y, h with
  | .inl a, .inl b, h => rw [ez_qI_eq a b h]
  | .inr (.inl a), .inr (.inl b), h => rw [ez_qJ_eq a b h]
  | .inr (.inr a), .inr (.inr b), h => rw [ez_qO_eq a b h]
  | .inl _, .inr _, h => cases h
  | .inr (.inl _), .inl _, h => cases h
  | .inr (.inl _), .inr (.inr _), h => cases h
  | .inr (.inr _), .inl _, h => cases h
  | .inr (.inr _), .inr (.inl _), h => cases h
def ez_qE (x y : ez_E) : Bool := match x, y with
  | .inl (t, n, l), .inl (t1, n1, l1) => Nat.beq t t1 && Nat.beq n n1 && ez_qL (ez_qP ez_qI) l l1
  | .inr (.inl (n, l)), .inr (.inl (n1, l1)) => Nat.beq n n1 && ez_qL (ez_qP ez_qJ) l l1
  | .inr (.inr (.inl (t, n, l))), .inr (.inr (.inl (t1, n1, l1))) => Nat.beq t t1 && Nat.beq n n1 && ez_qL (ez_qP ez_qO) l l1
  | .inr (.inr (.inr (c, f))), .inr (.inr (.inr (c1, f1))) => Nat.beq c c1 && ez_qL ez_qV f f1
  | _, _ => false
theorem ez_qE_eq (x y : ez_E) (h : ez_qE x y = true) : x = y := by
  match x, y, h with
  | .inl (t, n, l), .inl (t1, n1, l1), h =>
    simp only [ez_qE, Bool.and_eq_true] at h
    rw [Nat.eq_of_beq_eq_true h.1.1, Nat.eq_of_beq_eq_true h.1.2, ez_qL_eq (ez_qP_eq ez_qI_eq) l l1 h.2]
  | .inr (.inl (n, l)), .inr (.inl (n1, l1)), h =>
    simp only [ez_qE, Bool.and_eq_true] at h
    rw [Nat.eq_of_beq_eq_true h.1, ez_qL_eq (ez_qP_eq ez_qJ_eq) l l1 h.2]
  | .inr (.inr (.inl (t, n, l))), .inr (.inr (.inl (t1, n1, l1))), h =>
    simp only [ez_qE, Bool.and_eq_true] at h
    rw [Nat.eq_of_beq_eq_true h.1.1, Nat.eq_of_beq_eq_true h.1.2, ez_qL_eq (ez_qP_eq ez_qO_eq) l l1 h.2]
  | .inr (.inr (.inr (c, f))), .inr (.inr (.inr (c1, f1))), h =>
    simp only [ez_qE, Bool.and_eq_true] at h
    rw [Nat.eq_of_beq_eq_true h.1, ez_qL_eq ez_qV_eq f f1 h.2]
  | .inl _, .inr _, h => cases h
  | .inr (.inl _), .inl _, h => cases h
  | .inr (.inl _), .inr (.inr _), h => cases h
  | .inr (.inr (.inl _)), .inl _, h => cases h
  | .inr (.inr (.inl _)), .inr (.inl _), h => cases h
  | .inr (.inr (.inl _)), .inr (.inr (.inr _)), h => cases h
  | .inr (.inr (.inr _)), .inl _, h => cases h
  | .inr (.inr (.inr _)), .inr (.inl _), h => cases h
  | .inr (.inr (.inr _)), .inr (.inr (.inl _)), h => cases h
/-- what comes of a function, with its heap -/
def ez_qU (o : Option (Unit × ez_H)) (σ : ez_H) : Bool := match o with
  | some q => ez_qL ez_qE q.2 σ
  | none => false
theorem ez_qU_eq {o : Option (Unit × ez_H)} {σ : ez_H} (h : ez_qU o σ = true) : o = some ((), σ) := by
  match o, h with
  | some (u, s1), h =>
    have h1 : ez_qL ez_qE s1 σ = true := h
    rw [ez_qL_eq ez_qE_eq s1 σ h1]
def ez_qR (o : Option (Int32 × ez_H)) (r : Int32) (σ : ez_H) : Bool := match o with
  | some q => ez_qI q.1 r && ez_qL ez_qE q.2 σ
  | none => false
theorem ez_qR_eq {o : Option (Int32 × ez_H)} {r : Int32} {σ : ez_H} (h : ez_qR o r σ = true) : o = some (r, σ) := by
  match o, h with
  | some (u, s1), h =>
    have h1 : (ez_qI u r && ez_qL ez_qE s1 σ) = true := h
    rw [Bool.and_eq_true] at h1
    rw [ez_qL_eq ez_qE_eq s1 σ h1.2, ez_qI_eq u r h1.1]
theorem ez_b2_some {α γ β : Type} (x : α) (y : γ) (g : α → γ → Option β) : ez_b2 (some (x, y)) g = g x y := rfl
