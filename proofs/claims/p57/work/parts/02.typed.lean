/-! The typed heap: which addresses are ours, of what kind each is; a heap keeps it, whatever else its cells hold. -/
/-- a kind: an object of class number ci; an array of ints, bytes or booleans (row of tq_kc, length); an array of longs; an array of references (row of tq_rg, length) -/
abbrev tq_G : Type := Nat ⊕ ((Nat × Nat) ⊕ (Nat ⊕ (Nat × Nat)))
/-- what a field holds: an int with a property, a long, a reference to a cell of a kind -/
abbrev tq_T : Type := (Int32 → Prop) ⊕ (Unit ⊕ tq_G)
/-- the classes, the array classes, ghosts, where the String constants and their bytes lie -/
abbrev tq_X : Type := va_G × ((Nat → ClassId) × ((Nat → Int32) × ((Nat → Nat) × (Nat → Nat))))
/-- which addresses are ours, and of what kind -/
abbrev tq_Z : Type := List Nat × (Nat → tq_G)
def tq_z (Z : tq_Z) (a : Nat) (g : tq_G) : Prop := a ∈ Z.1 ∧ Z.2 a = g
/-- an int between two bounds -/
def tq_iv (lo hi : Int) (x : Int32) : Prop := lo ≤ x.toInt ∧ x.toInt ≤ hi
def tq_tt (_ : Int32) : Prop := True
/-- what each field holds, by class and place -/
def tq_L (tm : Nat → Int32) : List (List tq_T) := [
  [.inl tq_tt, .inl tq_tt, .inr (.inr (.inr (.inl (1, 270)))), .inr (.inr (.inr (.inl (1, 270)))), .inr (.inr (.inr (.inl (1, 31))))],
  [.inr (.inr (.inr (.inr (.inr (0, 41))))), .inl tq_tt, .inl tq_tt, .inl tq_tt],
  [.inr (.inr (.inl 3)), .inr (.inr (.inl 7)), .inr (.inr (.inr (.inl (1, 6)))), .inr (.inr (.inr (.inl (1, 4)))), .inr (.inr (.inr (.inl (1, 6)))), .inl tq_tt],
  [.inr (.inr (.inl 6)), .inr (.inr (.inl 0)), .inr (.inr (.inl 7)), .inl (tq_iv 0 8), .inl tq_tt, .inl tq_tt, .inl tq_tt, .inl tq_tt, .inr (.inr (.inr (.inl (1, 8)))), .inr (.inr (.inr (.inl (1, 8)))), .inr (.inr (.inr (.inl (1, 8)))), .inr (.inr (.inr (.inl (1, 6)))), .inr (.inr (.inr (.inl (1, 6))))],
  [.inr (.inr (.inl 3)), .inl tq_tt, .inl tq_tt, .inr (.inr (.inl 9)), .inr (.inr (.inr (.inr (.inr (1, 5))))), .inl tq_tt],
  [.inr (.inr (.inl 3)), .inr (.inr (.inl 7)), .inr (.inr (.inl 6)), .inr (.inr (.inr (.inl (1, 48)))), .inl tq_tt],
  [.inl (tq_iv 0 999), .inl (tq_iv 0 999), .inl (tq_iv 0 999), .inr (.inr (.inr (.inl (1, 30))))],
  [.inr (.inr (.inr (.inl (1, 35))))],
  [.inr (.inr (.inl 3)), .inr (.inr (.inl 6)), .inr (.inr (.inr (.inl (1, 10)))), .inr (.inr (.inr (.inl (1, 6)))), .inr (.inr (.inr (.inl (1, 384)))), .inr (.inr (.inr (.inl (1, 384)))), .inr (.inr (.inr (.inl (1, 384)))), .inr (.inr (.inr (.inl (1, 384)))), .inr (.inr (.inr (.inl (1, 384)))), .inr (.inr (.inr (.inl (1, 384)))), .inr (.inr (.inr (.inl (1, 64)))), .inr (.inr (.inr (.inl (1, 64)))), .inr (.inr (.inr (.inl (1, 64))))],
  [.inr (.inr (.inr (.inl (0, 1600)))), .inr (.inr (.inr (.inr (.inl 23)))), .inl tq_tt, .inl tq_tt, .inl tq_tt, .inl tq_tt, .inl tq_tt, .inr (.inl ())],
  [.inr (.inr (.inr (.inl (1, 30)))), .inr (.inr (.inr (.inl (2, 30)))), .inr (.inr (.inr (.inl (1, 30)))), .inr (.inr (.inr (.inl (1, 30)))), .inl tq_tt, .inl tq_tt],
  [.inr (.inr (.inr (.inl (0, 1600)))), .inl tq_tt, .inr (.inr (.inl 4)), .inr (.inr (.inl 3)), .inr (.inr (.inl 6)), .inr (.inr (.inl 7)), .inr (.inr (.inl 7)), .inr (.inr (.inl 1)), .inr (.inr (.inr (.inr (.inr (0, 3))))), .inl tq_tt, .inr (.inr (.inl 8)), .inr (.inr (.inl 8)), .inr (.inr (.inl 2)), .inr (.inr (.inl 5)), .inr (.inr (.inl 10)), .inr (.inr (.inr (.inl (1, 60))))],
  [.inl tq_tt, .inl tq_tt, .inl tq_tt, .inl tq_tt, .inl tq_tt, .inl tq_tt, .inl tq_tt, .inl tq_tt, .inl tq_tt, .inl tq_tt, .inl tq_tt, .inl tq_tt, .inl tq_tt, .inl tq_tt, .inl tq_tt, .inl tq_tt, .inl tq_tt, .inl tq_tt, .inl tq_tt, .inl tq_tt, .inl tq_tt, .inl tq_tt, .inl tq_tt, .inl tq_tt, .inl tq_tt, .inl tq_tt, .inl tq_tt, .inl tq_tt, .inl tq_tt, .inl tq_tt, .inl tq_tt, .inl tq_tt, .inl tq_tt, .inl tq_tt, .inl tq_tt, .inl tq_tt, .inl tq_tt, .inl tq_tt, .inl tq_tt, .inl tq_tt, .inl tq_tt, .inl tq_tt, .inl tq_tt, .inl tq_tt, .inl tq_tt, .inl tq_tt, .inl tq_tt, .inl tq_tt, .inl tq_tt, .inl tq_tt, .inl tq_tt, .inl tq_tt, .inl tq_tt, .inl tq_tt, .inl tq_tt, .inl tq_tt, .inl tq_tt, .inl tq_tt, .inl tq_tt, .inl tq_tt, .inl tq_tt, .inl tq_tt, .inl tq_tt, .inl tq_tt, .inl tq_tt, .inl tq_tt, .inl tq_tt, .inl tq_tt, .inl tq_tt, .inl tq_tt]]
def tq_F (tm : Nat → Int32) (ci k : Nat) : Option tq_T := ((tq_L tm)[ci]?).bind (fun r => r[k]?)
/-- which array class a row of ints has: 0 byte, 1 int, 3 boolean -/
def tq_kc (k : Nat) : Nat := match k with
  | 0 => 0
  | 2 => 3
  | _ => 1
def tq_eP (k : Nat) (_ : Int32) : Prop := match k with
  | _ => True
def tq_rg (k : Nat) : tq_G := match k with
  | 0 => .inl 7
  | _ => .inr (.inr (.inl 8))
def tq_v (Z : tq_Z) (t : tq_T) (v : Value) : Prop := match t with
  | .inl P => ∃ x : Int32, v = .int x ∧ P x
  | .inr (.inl _) => ∃ x : Int64, v = .long x
  | .inr (.inr g) => ∃ a : Nat, v = .ref a ∧ tq_z Z a g
/-- a cell of a kind -/
def tq_e (X : tq_X) (Z : tq_Z) (g : tq_G) (x : va_E) : Prop := match g with
  | .inl ci => ∃ fs : List Value, x = .inr (ci, fs) ∧ ∀ (k : Nat) (t : tq_T), tq_F X.2.2.1 ci k = some t → ∃ v, fs[k]? = some v ∧ tq_v Z t v
  | .inr (.inl (k, n)) => ∃ f : Nat → Int32, x = .inl (X.2.1 (tq_kc k), n, .inl f) ∧ ∀ j : Nat, j < n → tq_eP k (f j)
  | .inr (.inr (.inl n)) => ∃ f : Nat → Int64, x = .inl (X.2.1 2, n, .inr (.inl f))
  | .inr (.inr (.inr (k, n))) => ∃ f : Nat → Option Nat, x = .inl (X.2.1 (4 + k), n, .inr (.inr (.inr (.inr f)))) ∧ ∀ j : Nat, j < n → ∃ b : Nat, f j = some b ∧ tq_z Z b (tq_rg k)
def tq_ok (X : tq_X) (Z : tq_Z) (f : Nat → va_E) : Prop := Z.1.Nodup ∧ ∀ a, a ∈ Z.1 → tq_e X Z (Z.2 a) (f a)
def tq_A (Z : tq_Z) : Nat → Prop := fun q => q ∈ Z.1
/-- one field of one object, exactly -/
def tq_f (f : Nat → va_E) (a k : Nat) (v : Value) : Prop := ∃ (ci : Nat) (fs : List Value), f a = .inr (ci, fs) ∧ fs[k]? = some v
/-- from f0 to f no field has changed but those that wr names (class, place) -/
def tq_k (Z : tq_Z) (wr : List (Nat × Nat)) (f0 f : Nat → va_E) : Prop := ∀ (b ci k : Nat) (v : Value), tq_z Z b (.inl ci) → (ci, k) ∉ wr → tq_f f0 b k v → tq_f f b k v
/-- the heap now: typed; since the start nothing else has changed, and of our fields those of wr alone -/
def tq_S (X : tq_X) (Z : tq_Z) (A : Nat → Prop) (H0 : Heap) (f0 : Nat → va_E) (wr : List (Nat × Nat)) (f : Nat → va_E) (H : Heap) (locs : List Loc) : Prop := tq_ok X Z f ∧ va_P X.1 vwCl (va_pl Z.1 f) H ∧ va_S A H0 H locs ∧ tq_k Z wr f0 f ∧ ∀ q, q ∈ Z.1 → A q
def tq_tys (X : tq_X) : List (ClassId × FieldType) := [(X.2.1 0, .byte), (X.2.1 1, .int), (X.2.1 2, .long), (X.2.1 3, .boolean), (X.2.1 4, .object "PinPlan$State"), (X.2.1 5, .array .long)]
def tq_t0 : String := "chambers depths step key lock room door person must never wear draw from to in holds or and not cut beside uses chamber "
def tq_t1 : String := ";()<>=+-*/%"
def tq_len : List Nat := [120, 11]
def tq_byt : List (List Int32) := [[99, 104, 97, 109, 98, 101, 114, 115, 32, 100, 101, 112, 116, 104, 115, 32, 115, 116, 101, 112, 32, 107, 101, 121, 32, 108, 111, 99, 107, 32, 114, 111, 111, 109, 32, 100, 111, 111, 114, 32, 112, 101, 114, 115, 111, 110, 32, 109, 117, 115, 116, 32, 110, 101, 118, 101, 114, 32, 119, 101, 97, 114, 32, 100, 114, 97, 119, 32, 102, 114, 111, 109, 32, 116, 111, 32, 105, 110, 32, 104, 111, 108, 100, 115, 32, 111, 114, 32, 97, 110, 100, 32, 110, 111, 116, 32, 99, 117, 116, 32, 98, 101, 115, 105, 100, 101, 32, 117, 115, 101, 115, 32, 99, 104, 97, 109, 98, 101, 114, 32], [59, 40, 41, 60, 62, 61, 43, 45, 42, 47, 37]]
/-- the String constants, and String's own static: they lie outside, nobody writes them -/
def tq_V (X : tq_X) (A : Nat → Prop) (U : State) : Prop := vk_S 2 tq_len tq_byt X.2.2.2.1 X.2.2.2.2 A U U.heap ∧ vk_R "PinPlan$Tokens" 19 tq_t0 (X.2.2.2.1 0) U ∧ vk_R "PinPlan$Tokens" 75 tq_t1 (X.2.2.2.1 1) U ∧ va_Z "java/lang/String" "COMPACT_STRINGS" "Z" (.int 1) A U U.heap
theorem tq_V.at {X : tq_X} {A B : Nat → Prop} {s U : State} {H : Heap} {locs : List Loc} (h : tq_V X A s) (hW : s.WarmedH U.vm) (hU : U.heap = H) (hS : va_S A s.heap H locs) (hB : ∀ q, B q → A q) : tq_V X B U := by
  obtain ⟨h1, h2, h3, h4⟩ := h
  subst hU
  exact ⟨((h1.kept hS.2.1).moved hW.alike).narrow hB, h2.warm hW, h3.warm hW, ((h4.kept hS.2.1).moved hW.alike).narrow hB⟩
theorem tq_V.call {X : tq_X} {A : Nat → Prop} {U : State} {g : JFrame} {mk : MethodId} {a : Array Value} (h : tq_V X A U) : tq_V X A (U.calling g mk a) := by
  obtain ⟨h1, h2, h3, h4⟩ := h
  exact ⟨vk_S.moved (u := U) (U := U.calling g mk a) (Vm.Alike.refl U.vm) h1, vk_R.same (u := U) rfl h2, vk_R.same (u := U) rfl h3, va_Z.moved (u := U) (U := U.calling g mk a) (Vm.Alike.refl U.vm) h4⟩
/-- the room of a method that stands h calls above the lowest ones -/
def tq_rm (h : Nat) : Room := { frames := h, cells := 0, slots := 0, locals := 100 * h }
def tq_C (p : Program) (R : Room) (s : State) (m : MethodId) (args : Array Value) (c : Code) (X : tq_X) (A : Nat → Prop) (own : String) (cc : ByteArray) (nL h : Nat) : Prop :=
  CallFix p m c cc nL s args tq_tbl own ∧ va_K X.1 vwCl (tq_tys X) s ∧ h ≤ R.frames ∧ 100 * h ≤ R.locals ∧ tq_V X A s
theorem tq_D {X : tq_X} {Z : tq_Z} {f : Nat → va_E} (h : tq_ok X Z f) : va_D (tq_A Z) (va_pl Z.1 f) := by
  refine ⟨fun i j p q hi hj e => ?_, fun k q hk => ?_⟩
  · simp only [va_pl, List.getElem?_map, Option.map_eq_some_iff] at hi hj
    obtain ⟨x, hx, rfl⟩ := hi
    obtain ⟨y, hy, rfl⟩ := hj
    have e : x = y := e
    subst e
    have hlt : i < Z.1.length := (List.getElem?_eq_some_iff.mp hx).1
    exact (List.getElem?_inj hlt h.1).mp (hx.trans hy.symm)
  · simp only [va_pl, List.getElem?_map, Option.map_eq_some_iff] at hk
    obtain ⟨x, hx, rfl⟩ := hk
    exact List.mem_of_getElem? hx
theorem tq_DA {X : tq_X} {Z : tq_Z} {f : Nat → va_E} {A : Nat → Prop} (h : tq_ok X Z f) (hA : ∀ q, q ∈ Z.1 → A q) : va_D A (va_pl Z.1 f) := (tq_D h).weaken (fun _ q _ h9 => hA q.1 h9)
theorem tq_at {X : tq_X} {Z : tq_Z} {f : Nat → va_E} {a : Nat} {g : tq_G} (h : tq_ok X Z f) (ha : tq_z Z a g) : tq_e X Z g (f a) := ha.2 ▸ h.2 a ha.1
theorem tq_ok.set {X : tq_X} {Z : tq_Z} {f : Nat → va_E} {a : Nat} {g : tq_G} {x : va_E} (h : tq_ok X Z f) (ha : tq_z Z a g) (hx : tq_e X Z g x) : tq_ok X Z (va_up f a x) := by
  refine ⟨h.1, fun b hb => ?_⟩
  by_cases e : b = a
  · subst e
    rw [va_up_self, ha.2]
    exact hx
  · rw [va_up_ne _ _ e]
    exact h.2 b hb
theorem tq_f.up {f : Nat → va_E} {a b k : Nat} {v : Value} {x : va_E} (h : tq_f f b k v) (hn : b ≠ a) : tq_f (va_up f a x) b k v := by
  obtain ⟨ci, fs, h1, h2⟩ := h
  exact ⟨ci, fs, by rw [va_up_ne _ _ hn]; exact h1, h2⟩
theorem tq_ne {Z : tq_Z} {a b : Nat} {g g' : tq_G} (ha : tq_z Z a g) (hb : tq_z Z b g') (hn : g ≠ g') : a ≠ b := fun e => by
  subst e
  exact hn (ha.2.symm.trans hb.2)
/-- a contract's start -/
def tq_P (X : tq_X) (Z : tq_Z) (f : Nat → va_E) (vs : List Value) : Array Value → State → Prop := va_Pc vs (fun U => (tq_ok X Z f ∧ va_P X.1 vwCl (va_pl Z.1 f) U.heap) ∧ va_K X.1 vwCl (tq_tys X) U ∧ tq_V X (tq_A Z) U)
theorem tq_blind {X : tq_X} {Z : tq_Z} {f : Nat → va_E} {vs : List Value} : FrameBlind (tq_P X Z f vs) := fun a U g mk q => ⟨q.1, q.2.1, va_K.moved (u := U) (U := U.calling g mk a) (Vm.Alike.refl U.vm) q.2.2.1, tq_V.call q.2.2.2⟩
/-- a contract's end: what it answers; its heap is typed; of the fields those of wr alone have changed -/
def tq_Q (X : tq_X) (Z : tq_Z) (f : Nat → va_E) (wr : List (Nat × Nat)) (rp : Option Value → Prop) : Array Value → State → Outcome → State → Prop := fun _ st oc t => (∃ v, oc = .returned v ∧ rp v ∧ ∃ f1 : Nat → va_E, tq_ok X Z f1 ∧ va_P X.1 vwCl (va_pl Z.1 f1) t.heap ∧ tq_k Z wr f f1) ∧ va_F (tq_A Z) st t
/-- the end of one that writes nothing -/
def tq_Qp (rp : Option Value → Prop) : Array Value → State → Outcome → State → Prop := fun _ st oc t => ∃ v, oc = .returned v ∧ rp v ∧ t.heap = st.heap
abbrev tq_M (l : Launch) (X : tq_X) (Z : tq_Z) (f : Nat → va_E) (wr : List (Nat × Nat)) (y : MethodName) (cc : ByteArray) (maxL : Nat) (ret : Option FieldType) (h : Nat) (vs : List Value) (rp : Option Value → Prop) : Prop := Met l y (Cond.code y cc maxL ret :: tq_tbl) (tq_rm h) (tq_P X Z f vs) (tq_Q X Z f wr rp) 0 0 (tq_A Z)
abbrev tq_Mp (l : Launch) (X : tq_X) (Z : tq_Z) (f : Nat → va_E) (y : MethodName) (cc : ByteArray) (maxL : Nat) (ret : Option FieldType) (h : Nat) (vs : List Value) (rp : Option Value → Prop) : Prop := Met l y (Cond.code y cc maxL ret :: tq_tbl) (tq_rm h) (tq_P X Z f vs) (tq_Qp rp) 0 0 (fun _ => False)
theorem tq_k.rf {Z : tq_Z} {wr : List (Nat × Nat)} {f : Nat → va_E} : tq_k Z wr f f := fun _ _ _ _ _ _ h => h
theorem tq_k.tr {Z : tq_Z} {wr wr' : List (Nat × Nat)} {f0 f f1 : Nat → va_E} (h : tq_k Z wr f0 f) (h' : tq_k Z wr' f f1) (hs : ∀ q ∈ wr', q ∈ wr) : tq_k Z wr f0 f1 := fun b ci k v hz hn hf => h' b ci k v hz (fun q => hn (hs _ q)) (h b ci k v hz hn hf)
/-- answers -/
def tq_ri (lo hi : Int) : Option Value → Prop := fun v => ∃ r : Int32, v = some (.int r) ∧ tq_iv lo hi r
def tq_rl : Option Value → Prop := fun v => ∃ r : Int64, v = some (.long r)
def tq_rr (Z : tq_Z) (g : tq_G) : Option Value → Prop := fun v => ∃ a : Nat, v = some (.ref a) ∧ tq_z Z a g
def tq_rv : Option Value → Prop := fun v => v = none
-- numbers between bounds
theorem tq_top (x : Int32) : tq_iv (-2147483648) 2147483647 x := ⟨by have := Int32.le_toInt x; omega, by have := Int32.toInt_lt x; omega⟩
theorem tq_vin {x : Int32} {lo hi : Int} {n : Nat} (h : tq_iv lo hi x) (h0 : 0 ≤ lo) (h1 : hi < (n : Int)) : vp_in x n := vp_in_iff.mpr ⟨by have := h.1; omega, by have := h.2; omega⟩
theorem tq_w {x : Int32} {a b lo hi : Int} (h : tq_iv a b x) (h1 : lo ≤ a) (h2 : b ≤ hi) : tq_iv lo hi x := ⟨by have := h.1; omega, by have := h.2; omega⟩
theorem tq_cut {x : Int32} {a b c d lo hi : Int} (h : tq_iv a b x) (h' : tq_iv c d x) (h1 : lo ≤ a ∨ lo ≤ c) (h2 : b ≤ hi ∨ d ≤ hi) : tq_iv lo hi x := ⟨by have := h.1; have := h'.1; omega, by have := h.2; have := h'.2; omega⟩
theorem tq_ltL {x y : Int32} {a b c d : Int} (q : x < y) (_ : tq_iv a b x) (iy : tq_iv c d y) : tq_iv (-2147483648) (d - 1) x := ⟨(tq_top x).1, by have := Int32.lt_iff_toInt_lt.mp q; have := iy.2; omega⟩
theorem tq_ltR {x y : Int32} {a b c d : Int} (q : x < y) (ix : tq_iv a b x) (_ : tq_iv c d y) : tq_iv (a + 1) 2147483647 y := ⟨by have := Int32.lt_iff_toInt_lt.mp q; have := ix.1; omega, (tq_top y).2⟩
theorem tq_leL {x y : Int32} {a b c d : Int} (q : x ≤ y) (_ : tq_iv a b x) (iy : tq_iv c d y) : tq_iv (-2147483648) d x := ⟨(tq_top x).1, by have := Int32.le_iff_toInt_le.mp q; have := iy.2; omega⟩
theorem tq_leR {x y : Int32} {a b c d : Int} (q : x ≤ y) (ix : tq_iv a b x) (_ : tq_iv c d y) : tq_iv a 2147483647 y := ⟨by have := Int32.le_iff_toInt_le.mp q; have := ix.1; omega, (tq_top y).2⟩
theorem tq_nlt {x y : Int32} (q : ¬ x < y) : y ≤ x := by rw [Int32.le_iff_toInt_le]; rw [Int32.lt_iff_toInt_lt] at q; omega
theorem tq_nle {x y : Int32} (q : ¬ x ≤ y) : y < x := by rw [Int32.lt_iff_toInt_lt]; rw [Int32.le_iff_toInt_le] at q; omega
theorem tq_eqL {x y : Int32} {c d : Int} (q : x = y) (iy : tq_iv c d y) : tq_iv c d x := q ▸ iy
theorem tq_neLo {x y : Int32} {a b : Int} (q : ¬ x = y) (ix : tq_iv a b x) (iy : tq_iv a a y) : tq_iv (a + 1) b x := by
  have h := ix.1
  have h1 := iy.1
  have h2 := iy.2
  have h3 : ¬ x.toInt = y.toInt := fun e => q (Int32.toInt_inj.mp e)
  exact ⟨by omega, ix.2⟩
theorem tq_neHi {x y : Int32} {a b : Int} (q : ¬ x = y) (ix : tq_iv a b x) (iy : tq_iv b b y) : tq_iv a (b - 1) x := by
  have h := ix.2
  have h1 := iy.1
  have h2 := iy.2
  have h3 : ¬ x.toInt = y.toInt := fun e => q (Int32.toInt_inj.mp e)
  exact ⟨ix.1, by omega⟩
theorem tq_bm {z : Int} (h1 : -2147483648 ≤ z) (h2 : z ≤ 2147483647) : z.bmod (2 ^ 32) = z := Int.bmod_eq_of_le (by omega) (by omega)
theorem tq_addT {x y : Int32} {a b c d : Int} (ix : tq_iv a b x) (iy : tq_iv c d y) (h1 : -2147483648 ≤ a + c) (h2 : b + d ≤ 2147483647) : (x + y).toInt = x.toInt + y.toInt := by
  obtain ⟨p1, p2⟩ := ix
  obtain ⟨q1, q2⟩ := iy
  rw [Int32.toInt_add]; exact tq_bm (by omega) (by omega)
theorem tq_subT {x y : Int32} {a b c d : Int} (ix : tq_iv a b x) (iy : tq_iv c d y) (h1 : -2147483648 ≤ a - d) (h2 : b - c ≤ 2147483647) : (x - y).toInt = x.toInt - y.toInt := by
  obtain ⟨p1, p2⟩ := ix
  obtain ⟨q1, q2⟩ := iy
  rw [Int32.toInt_sub]; exact tq_bm (by omega) (by omega)
theorem tq_add {x y z : Int32} {a b c d : Int} (e : z = x + y) (ix : tq_iv a b x) (iy : tq_iv c d y) (h1 : -2147483648 ≤ a + c) (h2 : b + d ≤ 2147483647) : tq_iv (a + c) (b + d) z := by
  subst e
  have := tq_addT ix iy h1 h2
  obtain ⟨p1, p2⟩ := ix
  obtain ⟨q1, q2⟩ := iy
  exact ⟨by omega, by omega⟩
theorem tq_sub {x y z : Int32} {a b c d : Int} (e : z = x - y) (ix : tq_iv a b x) (iy : tq_iv c d y) (h1 : -2147483648 ≤ a - d) (h2 : b - c ≤ 2147483647) : tq_iv (a - d) (b - c) z := by
  subst e
  have := tq_subT ix iy h1 h2
  obtain ⟨p1, p2⟩ := ix
  obtain ⟨q1, q2⟩ := iy
  exact ⟨by omega, by omega⟩
/-- a counter goes on: the measure falls -/
theorem tq_up {x z d : Int32} {a b c1 c2 : Int} {n : Nat} (e : z = x + d) (ix : tq_iv a b x) (id : tq_iv c1 c2 d) (h1 : 1 ≤ c1) (h2 : b + c2 ≤ 2147483647) (hn : (2147483647 - x.toInt).toNat < n + 1) : (2147483647 - z.toInt).toNat < n := by
  subst e
  have q1 := ix.2
  have q2 := id.1
  have q3 := id.2
  have := tq_addT (a := -2147483648) (b := b) (c := 1) (d := c2) ⟨(tq_top x).1, q1⟩ ⟨by omega, q3⟩ (by decide) h2
  omega
theorem tq_down {x z d : Int32} {a b c1 c2 : Int} {n : Nat} (e : z = x + d) (ix : tq_iv a b x) (id : tq_iv c1 c2 d) (h1 : c2 ≤ -1) (h2 : -2147483648 ≤ a + c1) (hn : (x.toInt + 2147483648).toNat < n + 1) : (z.toInt + 2147483648).toNat < n := by
  subst e
  have q1 := ix.1
  have q2 := id.1
  have q3 := id.2
  have := tq_addT (a := a) (b := 2147483647) (c := c1) (d := -1) ⟨q1, (tq_top x).2⟩ ⟨q2, by omega⟩ h2 (by decide)
  omega
theorem tq_nz {x : Int32} {a b : Int} (h : tq_iv a b x) (h0 : 0 < a) : ¬ x = 0 := fun e => by
  have := h.1
  rw [e] at this
  have h1 : (0 : Int32).toInt = 0 := by decide
  omega
theorem tq_max {x y z : Int32} {a b c d : Int} (e : z = if x < y then y else x) (ix : tq_iv a b x) (iy : tq_iv c d y) : tq_iv (max a c) (max b d) z := by
  subst e
  obtain ⟨p1, p2⟩ := ix
  obtain ⟨q1, q2⟩ := iy
  by_cases h : x < y
  · rw [if_pos h]; rw [Int32.lt_iff_toInt_lt] at h; exact ⟨by omega, by omega⟩
  · rw [if_neg h]; rw [Int32.lt_iff_toInt_lt] at h; exact ⟨by omega, by omega⟩
theorem tq_min {x y z : Int32} {a b c d : Int} (e : z = if y < x then y else x) (ix : tq_iv a b x) (iy : tq_iv c d y) : tq_iv (min a c) (min b d) z := by
  subst e
  obtain ⟨p1, p2⟩ := ix
  obtain ⟨q1, q2⟩ := iy
  by_cases h : y < x
  · rw [if_pos h]; rw [Int32.lt_iff_toInt_lt] at h; exact ⟨by omega, by omega⟩
  · rw [if_neg h]; rw [Int32.lt_iff_toInt_lt] at h; exact ⟨by omega, by omega⟩
theorem tq_of {x : Int32} {a b : Int} (h : tq_iv a b x) (h0 : 0 ≤ a) : ∃ j : Nat, x = nI j ∧ (j : Int) ≤ b ∧ j < 2 ^ 31 ∧ a ≤ (j : Int) := by
  have h1 := h.1
  have h2 := h.2
  obtain ⟨j, hj, rfl⟩ := nI_of (x := x) (fun q => by rw [Int32.lt_iff_toInt_lt] at q; have : (0 : Int32).toInt = 0 := (by decide); omega)
  rw [nI_toInt hj] at h1 h2
  exact ⟨j, rfl, h2, hj, h1⟩
theorem tq_32 (y : Int32) : ∃ k : Nat, k < 2 ^ 32 ∧ y = nI k := ⟨y.toBitVec.toNat, y.toBitVec.isLt, by apply Int32.toBitVec_inj.mp; simp [nI, Int32.toBitVec_ofNat']⟩
theorem tq_nnI {a b : Int} {j : Nat} (h1 : a ≤ (j : Int)) (h2 : (j : Int) ≤ b) (hj : j < 2 ^ 31) : tq_iv a b (nI j) := by
  unfold tq_iv
  rw [nI_toInt hj]
  exact ⟨h1, h2⟩
theorem tq_andN (a b : Nat) : nI a &&& nI b = nI (a &&& b) := by
  apply Int32.toBitVec_inj.mp
  simp [nI, Int32.toBitVec_and, Int32.toBitVec_ofNat', BitVec.ofNat_and]
theorem tq_orN (a b : Nat) : nI a ||| nI b = nI (a ||| b) := by
  apply Int32.toBitVec_inj.mp
  simp [nI, Int32.toBitVec_or, Int32.toBitVec_ofNat', BitVec.ofNat_or]
theorem tq_and1 {x y z : Int32} {a b : Int} (e : z = x &&& y) (ix : tq_iv a b x) (h0 : 0 ≤ a) : tq_iv 0 b z := by
  subst e
  obtain ⟨j, rfl, h1, h2, -⟩ := tq_of ix h0
  obtain ⟨k, -, rfl⟩ := tq_32 y
  rw [tq_andN]
  have h3 : j &&& k ≤ j := Nat.and_le_left
  exact tq_nnI (by omega) (by omega) (by omega)
theorem tq_and2 {x y z : Int32} {a b : Int} (e : z = x &&& y) (iy : tq_iv a b y) (h0 : 0 ≤ a) : tq_iv 0 b z := by
  subst e
  obtain ⟨j, rfl, h1, h2, -⟩ := tq_of iy h0
  obtain ⟨k, -, rfl⟩ := tq_32 x
  rw [tq_andN]
  have h3 : k &&& j ≤ j := Nat.and_le_right
  exact tq_nnI (by omega) (by omega) (by omega)
theorem tq_or {x y z : Int32} {a b c d hi : Int} (e : z = x ||| y) (ix : tq_iv a b x) (iy : tq_iv c d y) (n : Nat) (h0 : 0 ≤ a) (h1 : 0 ≤ c) (h2 : b < 2 ^ n) (h3 : d < 2 ^ n) (h4 : n ≤ 16) (h5 : (2 : Int) ^ n - 1 = hi := by decide) : tq_iv 0 hi z := by
  subst e
  obtain ⟨j, rfl, j1, j2, -⟩ := tq_of ix h0
  obtain ⟨k, rfl, k1, k2, -⟩ := tq_of iy h1
  rw [tq_orN]
  have p1 : j < 2 ^ n := by exact_mod_cast (show (j : Int) < ((2 ^ n : Nat) : Int) by push_cast; omega)
  have p2 : k < 2 ^ n := by exact_mod_cast (show (k : Int) < ((2 ^ n : Nat) : Int) by push_cast; omega)
  have p3 : j ||| k < 2 ^ n := Nat.or_lt_two_pow p1 p2
  have p4 : (2 : Nat) ^ n ≤ 2 ^ 16 := Nat.pow_le_pow_right (by decide) h4
  have p5 : (((2 : Nat) ^ n : Nat) : Int) = (2 : Int) ^ n := by push_cast; rfl
  refine tq_nnI (by omega) ?_ (by omega)
  rw [← h5, ← p5]
  omega
theorem tq_rem {x y z : Int32} {a b c : Int} (e : z = x - x / y * y) (ix : tq_iv a b x) (iy : tq_iv c c y) (h0 : 0 ≤ a) (h1 : 0 < c) : tq_iv 0 (c - 1) z := by
  subst e
  obtain ⟨j, rfl, j1, j2, -⟩ := tq_of ix h0
  obtain ⟨k, rfl, k1, k2, k3⟩ := tq_of iy (by omega)
  have hk : (k : Int) = c := by omega
  rw [pk_rem j2 (by omega) k2]
  have h3 : j % k < k := Nat.mod_lt _ (by omega)
  exact tq_nnI (by omega) (by omega) (by omega)
theorem tq_shl1 {y z : Int32} {a b lo hi : Int} (e : z = 1 <<< (y &&& 31)) (iy : tq_iv a b y) (h0 : 0 ≤ a) (h1 : b ≤ 16) (h2 : lo ≤ 2 ^ a.toNat) (h3 : (2 : Int) ^ b.toNat ≤ hi) : tq_iv lo hi z := by
  subst e
  obtain ⟨k, rfl, k1, k2, k3⟩ := tq_of iy h0
  have hs : ∀ q : Fin 17, ((1 : Int32) <<< (nI q.val &&& 31)).toInt = 2 ^ q.val := by decide
  have := hs ⟨k, by omega⟩
  have p1 : (2 : Int) ^ a.toNat ≤ 2 ^ k := by exact_mod_cast Nat.pow_le_pow_right (n := 2) (by decide) (show a.toNat ≤ k by omega)
  have p2 : (2 : Int) ^ k ≤ 2 ^ b.toNat := by exact_mod_cast Nat.pow_le_pow_right (n := 2) (by decide) (show k ≤ b.toNat by omega)
  unfold tq_iv
  rw [this]
  exact ⟨Int.le_trans h2 p1, Int.le_trans p2 h3⟩
theorem tq_z0 {x : Int32} (h : tq_iv 0 0 x) : x = 0 := Int32.toInt_inj.mp (by have := h.1; have := h.2; have h1 : (0 : Int32).toInt = 0 := (by decide); omega)
theorem tq_nb {x : Int32} {a b : Int} (h : tq_iv a b x) (h0 : 0 ≤ a) (h1 : b ≤ 1) : narrow .boolean (.int x) = .int x := by
  obtain ⟨k, rfl, k1, k2, k3⟩ := tq_of h h0
  have hk : k = 0 ∨ k = 1 := by omega
  rcases hk with rfl | rfl <;> decide
theorem tq_nc {x : Int32} {a b : Int} (h : tq_iv a b x) (h0 : 0 ≤ a) (h1 : b ≤ 65535) : narrow .char (.int x) = .int x := by
  obtain ⟨k, rfl, k1, k2, k3⟩ := tq_of h h0
  exact (pk_charN (by omega)).1
theorem tq_xlt {x y : Int32} {a b c d : Int} (q : x < y) (ix : tq_iv a b x) (iy : tq_iv c d y) (h : d ≤ a) : False := by
  have := Int32.lt_iff_toInt_lt.mp q
  have := ix.1
  have := iy.2
  omega
theorem tq_xle {x y : Int32} {a b c d : Int} (q : x ≤ y) (ix : tq_iv a b x) (iy : tq_iv c d y) (h : d < a) : False := by
  have := Int32.le_iff_toInt_le.mp q
  have := ix.1
  have := iy.2
  omega
theorem tq_xeq {x y : Int32} {a b c d : Int} (q : x = y) (ix : tq_iv a b x) (iy : tq_iv c d y) (h : d < a ∨ b < c) : False := by
  subst q
  have := ix.1
  have := ix.2
  have := iy.1
  have := iy.2
  omega
theorem tq_xne {x y : Int32} {a b c d : Int} (q : ¬ x = y) (ix : tq_iv a b x) (iy : tq_iv c d y) (h : a = b ∧ c = d ∧ a = c) : False := by
  refine q (Int32.toInt_inj.mp ?_)
  have := ix.1
  have := ix.2
  have := iy.1
  have := iy.2
  omega
theorem tq_ghi {X : tq_X} {Z : tq_Z} {A : Nat → Prop} {H0 H : Heap} {f0 f : Nat → va_E} {wr : List (Nat × Nat)} {locs : List Loc} {a ci k : Nat} {P : Int32 → Prop} (hS : tq_S X Z A H0 f0 wr f H locs) (ha : tq_z Z a (.inl ci)) (hft : tq_F X.2.2.1 ci k = some (.inl P)) : ∃ x : Int32, P x ∧ tq_f f a k (.int x) := by
  obtain ⟨fs, h1, h2⟩ := tq_at hS.1 ha
  obtain ⟨v, h3, x, rfl, h4⟩ := h2 k _ hft
  exact ⟨x, h4, ci, fs, h1, h3⟩
theorem tq_ghr {X : tq_X} {Z : tq_Z} {A : Nat → Prop} {H0 H : Heap} {f0 f : Nat → va_E} {wr : List (Nat × Nat)} {locs : List Loc} {a ci k : Nat} {g : tq_G} (hS : tq_S X Z A H0 f0 wr f H locs) (ha : tq_z Z a (.inl ci)) (hft : tq_F X.2.2.1 ci k = some (.inr (.inr g))) : ∃ b : Nat, tq_z Z b g ∧ tq_f f a k (.ref b) := by
  obtain ⟨fs, h1, h2⟩ := tq_at hS.1 ha
  obtain ⟨v, h3, x, rfl, h4⟩ := h2 k _ hft
  exact ⟨x, h4, ci, fs, h1, h3⟩
theorem tq_nby {x : Int32} {a b : Int} (h : tq_iv a b x) (h0 : 0 ≤ a) (h1 : b ≤ 1) : narrow .byte (.int x) = .int x := by
  obtain ⟨k, rfl, k1, k2, k3⟩ := tq_of h h0
  have hk : k = 0 ∨ k = 1 := by omega
  rcases hk with rfl | rfl <;> decide
