def ez_apK {β : Type} : List ez_E → Nat → ez_E → (Nat → List ez_E → β) → β
  | [], n, e, k => k n [e]
  | x :: l, n, e, k => ez_apK l (n + 1) e (fun m l1 => k m (x :: l1))
theorem ez_apK_eq {β : Type} (l : List ez_E) (n : Nat) (e : ez_E) (k : Nat → List ez_E → β) : ez_apK l n e k = k (n + l.length) (l ++ [e]) := by
  induction l generalizing n k with
  | nil => rfl
  | cons x l ih =>
    rw [ez_apK, ih]
    show k (n + 1 + l.length) _ = k (n + (l.length + 1)) _
    rw [show n + 1 + l.length = n + (l.length + 1) by omega]
    rfl
def ez_nw {β : Type} (σ : ez_H) (e : ez_E) (g : Nat → ez_H → Option β) : Option β := ez_apK σ 0 e (fun n σ1 => ez_nf n (fun n => g n σ1))
theorem ez_nw_eq {β : Type} (σ : ez_H) (e : ez_E) (g : Nat → ez_H → Option β) : ez_nw σ e g = g σ.length (σ ++ [e]) := by
  unfold ez_nw
  rw [ez_apK_eq, ez_nf_eq, Nat.zero_add]
def ez_len : List Nat := [120, 11]
def ez_byt : List (List Int32) := [[99, 104, 97, 109, 98, 101, 114, 115, 32, 100, 101, 112, 116, 104, 115, 32, 115, 116, 101, 112, 32, 107, 101, 121, 32, 108, 111, 99, 107, 32, 114, 111, 111, 109, 32, 100, 111, 111, 114, 32, 112, 101, 114, 115, 111, 110, 32, 109, 117, 115, 116, 32, 110, 101, 118, 101, 114, 32, 119, 101, 97, 114, 32, 100, 114, 97, 119, 32, 102, 114, 111, 109, 32, 116, 111, 32, 105, 110, 32, 104, 111, 108, 100, 115, 32, 111, 114, 32, 97, 110, 100, 32, 110, 111, 116, 32, 99, 117, 116, 32, 98, 101, 115, 105, 100, 101, 32, 117, 115, 101, 115, 32, 99, 104, 97, 109, 98, 101, 114, 32], [59, 40, 41, 60, 62, 61, 43, 45, 42, 47, 37]]
/-- an object is put into a row of State -/
def ez_rs (σ : ez_H) (a : Nat) (i : Int32) (v : Nat) : Option ez_H := match ez_at σ a with
  | some (.inr (.inr (.inl (t1, n, l)))) => bif Nat.beq t1 4 && ez_inb i n then (match ez_ob σ 7 v with
    | some _ => ez_putK l (ez_ix i) (some v) (fun l1 => ez_setK σ a (.inr (.inr (.inl (4, n, l1)))) some)
    | none => none) else none
  | _ => none
/-- a byte of a String constant -/
def ez_tx (t : Nat) (i : Int32) : Option Int32 := bif ez_inb i (ez_len.getD t 0) then some ((ez_byt.getD t []).getD (ez_ix i) 0) else none
/-- a row of so many rows of longs: the outer one first -/
def ez_mn {β : Type} (σ : ez_H) (A N : Nat) (g : Nat → ez_H → Option β) : Option β := g σ.length (σ ++ (.inr (.inr (.inl (5, A, (List.range A).map (fun i => (i, some (σ.length + 1 + i))))))) :: List.replicate A (.inr (.inl (N, []))))
