/-! The picture against the machine's heap. -/
def ez_rv (B : Nat) (v : ez_V) : Value := match v with
  | .inl x => .int x
  | .inr (.inl x) => .long x
  | .inr (.inr none) => .null
  | .inr (.inr (some j)) => .ref (B + j)
def ez_re (X : ez_X) (B : Nat) (e : ez_E) : va_E := match e with
  | .inl (k, n, l) => .inl (X.2.1 k, n, .inl (ez_get 0 l))
  | .inr (.inl (n, l)) => .inl (X.2.1 2, n, .inr (.inl (ez_get 0 l)))
  | .inr (.inr (.inl (k, n, l))) => .inl (X.2.1 k, n, .inr (.inr (.inr (.inr (fun j => (ez_get none l j).map (fun b => B + b))))))
  | .inr (.inr (.inr (ci, fs))) => .inr (ci, fs.map (ez_rv B))
def ez_ws (X : ez_X) (B : Nat) (σ : ez_H) : va_W := σ.mapIdx (fun j e => (B + j, ez_re X B e))
theorem ez_ws_at {X : ez_X} {B : Nat} {σ : ez_H} {j : Nat} {e : ez_E} (h : σ[j]? = some e) : (ez_ws X B σ)[j]? = some (B + j, ez_re X B e) := by
  unfold ez_ws
  rw [List.getElem?_mapIdx, h]
  rfl
theorem ez_ws_inv {X : ez_X} {B : Nat} {σ : ez_H} {j : Nat} {q : Nat × va_E} (h : (ez_ws X B σ)[j]? = some q) : ∃ e, σ[j]? = some e ∧ q = (B + j, ez_re X B e) := by
  unfold ez_ws at h
  rw [List.getElem?_mapIdx] at h
  cases hs : σ[j]? with
  | none => rw [hs] at h; cases h
  | some e => rw [hs] at h; exact ⟨e, rfl, (Option.some.inj h).symm⟩
theorem ez_ws_set {X : ez_X} {B : Nat} {σ : ez_H} {j : Nat} {e : ez_E} : (ez_ws X B σ).set j (B + j, ez_re X B e) = ez_ws X B (σ.set j e) := by
  apply List.ext_getElem?
  intro i
  unfold ez_ws
  rw [List.getElem?_set, List.getElem?_mapIdx, List.getElem?_mapIdx, List.getElem?_set]
  by_cases h : j = i
  · subst h
    by_cases h2 : j < σ.length <;> simp [h2]
  · simp [h]
theorem ez_ws_len {X : ez_X} {B : Nat} {σ : ez_H} : (ez_ws X B σ).length = σ.length := by simp [ez_ws]
theorem ez_ws_push {X : ez_X} {B : Nat} {σ : ez_H} {e : ez_E} : ez_ws X B σ ++ [(B + σ.length, ez_re X B e)] = ez_ws X B (σ ++ [e]) := by
  simp [ez_ws, List.mapIdx_append]
/-- all that is ours -/
def ez_A (B : Nat) : Nat → Prop := fun q => B ≤ q
theorem ez_D {X : ez_X} {B : Nat} {σ : ez_H} : va_D (ez_A B) (ez_ws X B σ) := by
  refine ⟨fun i j p q hi hj e => ?_, fun k q hk => ?_⟩
  · obtain ⟨e1, -, rfl⟩ := ez_ws_inv hi
    obtain ⟨e2, -, rfl⟩ := ez_ws_inv hj
    have e : B + i = B + j := e
    omega
  · obtain ⟨e1, -, rfl⟩ := ez_ws_inv hk
    exact Nat.le_add_right B k
def ez_tys (X : ez_X) : List (ClassId × FieldType) := [(X.2.1 0, .byte), (X.2.1 1, .int), (X.2.1 2, .long), (X.2.1 3, .boolean), (X.2.1 4, .object "PinPlan$State"), (X.2.1 5, .array .long)]
def ez_t0 : String := "chambers depths step key lock room door person must never wear draw from to in holds or and not cut beside uses chamber "
def ez_t1 : String := ";()<>=+-*/%"
/-- null, or a reference -/
def ez_fm (n : Nat) : Value := match n with
  | 0 => .null
  | n + 1 => .ref n
/-- the class of rows of rows of longs -/
def ez_AL (U : State) : Prop := ∃ (comp c : ClassId) (k : Class), U.vm.findClass "[J" = some comp ∧ U.vm.classes[c]? = some k ∧ k.kind = .array comp (.array .long) ∧ U.vm.findClass "[[J" = some c
theorem ez_AL.moved {u U : State} (hvm : u.vm.Alike U.vm) (h : ez_AL u) : ez_AL U := by
  obtain ⟨comp, c, k, h1, h2, h3, h4⟩ := h
  obtain ⟨k', hk', he⟩ := hvm.2.2 _ _ h2
  exact ⟨comp, c, k', by rw [hvm.findClass]; exact h1, hk', by rw [he]; exact h3, by rw [hvm.findClass]; exact h4⟩
/-- the String constants, and statics of the JDK: they lie outside, nobody writes them -/
def ez_G (X : ez_X) (A : Nat → Prop) (U : State) : Prop := vk_S 2 ez_len ez_byt X.2.2.1 X.2.2.2 A U U.heap ∧ vk_R "PinPlan$Tokens" 19 ez_t0 (X.2.2.1 0) U ∧ vk_R "PinPlan$Tokens" 75 ez_t1 (X.2.2.1 1) U ∧ va_Z "java/lang/String" "COMPACT_STRINGS" "Z" (.int 1) A U U.heap ∧ va_AO "PinPlan$State" U ∧ va_Z "jdk/internal/util/Preconditions" "SIOOBE_FORMATTER" "Ljava/util/function/BiFunction;" (ez_fm (X.2.2.1 2)) A U U.heap ∧ ez_AL U
theorem ez_G.at {X : ez_X} {A : Nat → Prop} {s U : State} {H : Heap} {locs : List Loc} (h : ez_G X A s) (hW : s.WarmedH U.vm) (hU : U.heap = H) (hS : va_S A s.heap H locs) : ez_G X A U := by
  obtain ⟨h1, h2, h3, h4, h5, h6, h7⟩ := h
  subst hU
  exact ⟨((h1.kept hS.2.1).moved hW.alike), h2.warm hW, h3.warm hW, ((h4.kept hS.2.1).moved hW.alike), h5.moved hW.alike, ((h6.kept hS.2.1).moved hW.alike), h7.moved hW.alike⟩
theorem ez_G.call {X : ez_X} {A : Nat → Prop} {U : State} {g : JFrame} {mk : MethodId} {a : Array Value} (h : ez_G X A U) : ez_G X A (U.calling g mk a) := by
  obtain ⟨h1, h2, h3, h4, h5, h6, h7⟩ := h
  exact ⟨vk_S.moved (u := U) (U := U.calling g mk a) (Vm.Alike.refl U.vm) h1, vk_R.same (u := U) rfl h2, vk_R.same (u := U) rfl h3, va_Z.moved (u := U) (U := U.calling g mk a) (Vm.Alike.refl U.vm) h4, va_AO.moved (u := U) (U := U.calling g mk a) (Vm.Alike.refl U.vm) h5, va_Z.moved (u := U) (U := U.calling g mk a) (Vm.Alike.refl U.vm) h6, ez_AL.moved (u := U) (U := U.calling g mk a) (Vm.Alike.refl U.vm) h7⟩
/-- the heap now: n cells -/
def ez_S (X : ez_X) (B : Nat) (H0 : Heap) (n : Nat) (σ : ez_H) (H : Heap) (locs : List Loc) : Prop := σ.length = n ∧ va_P X.1 vwCl (ez_ws X B σ) H ∧ va_S (ez_A B) H0 H locs
def ez_C (p : Program) (R : Room) (s : State) (m : MethodId) (args : Array Value) (c : Code) (X : ez_X) (B : Nat) (own : String) (cc : ByteArray) (nL h : Nat) : Prop :=
  CallFix p m c cc nL s args tq_tbl own ∧ va_K X.1 vwCl (ez_tys X) s ∧ h ≤ R.frames ∧ 100 * h ≤ R.locals ∧ ez_G X (ez_A B) s
def ez_rm (h mc ms : Nat) : Room := { frames := h, cells := mc, slots := ms, locals := 100 * h }
/-- a contract's start and end -/
def ez_P (X : ez_X) (B : Nat) (σ : ez_H) (vs : List Value) : Array Value → State → Prop := va_Pc vs (fun U => va_P X.1 vwCl (ez_ws X B σ) U.heap ∧ va_K X.1 vwCl (ez_tys X) U ∧ ez_G X (ez_A B) U)
theorem ez_blind {X : ez_X} {B : Nat} {σ : ez_H} {vs : List Value} : FrameBlind (ez_P X B σ vs) := fun a U g mk q => ⟨q.1, q.2.1, va_K.moved (u := U) (U := U.calling g mk a) (Vm.Alike.refl U.vm) q.2.2.1, ez_G.call q.2.2.2⟩
def ez_Q (X : ez_X) (B : Nat) (n : Nat) (r : Option Value) (σ1 : ez_H) : Array Value → State → Outcome → State → Prop := fun _ st oc t => (oc = .returned r ∧ σ1.length = n ∧ va_P X.1 vwCl (ez_ws X B σ1) t.heap) ∧ va_F (ez_A B) st t
/-- a method that makes nothing -/
abbrev ez_M (l : Launch) (X : ez_X) (B : Nat) (σ : ez_H) (y : MethodName) (cc : ByteArray) (maxL : Nat) (ret : Option FieldType) (h : Nat) (vs : List Value) (r : Option Value) (σ1 : ez_H) : Prop := Met l y (Cond.code y cc maxL ret :: tq_tbl) (ez_rm h 0 0) (ez_P X B σ vs) (ez_Q X B σ.length r σ1) 0 0 (ez_A B)
/-- a constructor: it makes mc cells of ms slots -/
def ez_Pn (X : ez_X) (B : Nat) (σ : ez_H) (vs : List Value) : Array Value → State → Prop := va_Pc vs (fun U => U.heap.size = B + σ.length ∧ va_P X.1 vwCl (ez_ws X B σ) U.heap ∧ va_K X.1 vwCl (ez_tys X) U ∧ ez_G X (ez_A B) U)
theorem ez_blindn {X : ez_X} {B : Nat} {σ : ez_H} {vs : List Value} : FrameBlind (ez_Pn X B σ vs) := fun a U g mk q => ⟨q.1, q.2.1, q.2.2.1, va_K.moved (u := U) (U := U.calling g mk a) (Vm.Alike.refl U.vm) q.2.2.2.1, ez_G.call q.2.2.2.2⟩
abbrev ez_Mn (l : Launch) (X : ez_X) (B : Nat) (σ : ez_H) (y : MethodName) (cc : ByteArray) (maxL : Nat) (h mc ms : Nat) (vs : List Value) (σ1 : ez_H) : Prop := Met l y (Cond.code y cc maxL none :: tq_tbl) (ez_rm h mc ms) (ez_Pn X B σ vs) (ez_Q X B (σ.length + mc) none σ1) mc ms (ez_A B)
