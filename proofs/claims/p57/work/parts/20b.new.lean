/-! Constructors: cells that are not typed yet stand ahead of the typed ones, exactly as they are. -/
def tq_le (Z Z1 : tq_Z) : Prop := ∀ (a : Nat) (g : tq_G), tq_z Z a g → tq_z Z1 a g
theorem tq_le.rf {Z : tq_Z} : tq_le Z Z := fun _ _ h => h
theorem tq_le.tr {Z Z1 Z2 : tq_Z} (h : tq_le Z Z1) (h1 : tq_le Z1 Z2) : tq_le Z Z2 := fun a g q => h1 a g (h a g q)
theorem tq_v.mono {Z Z1 : tq_Z} {t : tq_T} {v : Value} (hle : tq_le Z Z1) (h : tq_v Z t v) : tq_v Z1 t v := by
  match t, h with
  | .inl P, h => exact h
  | .inr (.inl _), h => exact h
  | .inr (.inr g), ⟨a, e, hz⟩ => exact ⟨a, e, hle a g hz⟩
theorem tq_e.mono {X : tq_X} {Z Z1 : tq_Z} {g : tq_G} {x : va_E} (hle : tq_le Z Z1) (h : tq_e X Z g x) : tq_e X Z1 g x := by
  match g, h with
  | .inl ci, ⟨fs, e, h2⟩ =>
    refine ⟨fs, e, fun k t ht => ?_⟩
    obtain ⟨v, q1, q2⟩ := h2 k t ht
    exact ⟨v, q1, q2.mono hle⟩
  | .inr (.inl (k, n)), h => exact h
  | .inr (.inr (.inl n)), h => exact h
  | .inr (.inr (.inr (k, n))), ⟨r, e, h2⟩ =>
    refine ⟨r, e, fun j hj => ?_⟩
    obtain ⟨b, q1, q2⟩ := h2 j hj
    exact ⟨b, q1, hle b _ q2⟩
theorem tq_k.trn {Z Z1 : tq_Z} {wr wr' : List (Nat × Nat)} {f0 f f1 : Nat → va_E} (h : tq_k Z wr f0 f) (hle : tq_le Z Z1) (h' : tq_k Z1 wr' f f1) (hs : ∀ q ∈ wr', q ∈ wr) : tq_k Z wr f0 f1 := fun b ci k v hz hn hf => h' b ci k v (hle _ _ hz) (fun q => hn (hs _ q)) (h b ci k v hz hn hf)
theorem tq_k.eqv {Z : tq_Z} {wr : List (Nat × Nat)} {f f1 : Nat → va_E} (h : ∀ b, b ∈ Z.1 → f1 b = f b) : tq_k Z wr f f1 := fun b ci k v hz _ hf => by
  obtain ⟨c2, fs, h1, h2⟩ := hf
  exact ⟨c2, fs, by rw [h b hz.1]; exact h1, h2⟩
/-- one address more -/
def tq_ad (Z : tq_Z) (q : Nat) (g : tq_G) : tq_Z := (Z.1 ++ [q], va_up Z.2 q g)
theorem tq_ad.le {Z : tq_Z} {q : Nat} {g : tq_G} (hq : q ∉ Z.1) : tq_le Z (tq_ad Z q g) := fun a g' h => ⟨List.mem_append_left _ h.1, by
  have hne : a ≠ q := fun e => by subst e; exact hq h.1
  show va_up Z.2 q g a = g'
  rw [va_up_ne _ _ hne]
  exact h.2⟩
theorem tq_ad.at {Z : tq_Z} {q : Nat} {g : tq_G} : tq_z (tq_ad Z q g) q g := ⟨List.mem_append_right _ List.mem_cons_self, va_up_self _ _ _⟩
theorem tq_ok.ad {X : tq_X} {Z : tq_Z} {f : Nat → va_E} {q : Nat} {g : tq_G} {x : va_E} (h : tq_ok X Z f) (hq : q ∉ Z.1) (hx : tq_e X (tq_ad Z q g) g x) : tq_ok X (tq_ad Z q g) (va_up f q x) := by
  refine ⟨?_, fun a ha => ?_⟩
  · show (Z.1 ++ [q]).Nodup
    rw [List.nodup_append]
    refine ⟨h.1, by simp, fun a ha b hb e => ?_⟩
    rw [List.mem_singleton.mp hb] at e
    exact hq (e ▸ ha)
  · rcases List.mem_append.mp ha with h1 | h1
    · have hne : a ≠ q := fun e => hq (e ▸ h1)
      show tq_e X (tq_ad Z q g) (va_up Z.2 q g a) (va_up f q x a)
      rw [va_up_ne _ _ hne, va_up_ne _ _ hne]
      exact (h.2 a h1).mono (tq_ad.le hq)
    · rw [List.mem_singleton.mp h1]
      show tq_e X (tq_ad Z q g) (va_up Z.2 q g q) (va_up f q x q)
      rw [va_up_self, va_up_self]
      exact hx
theorem tq_upk {Z : tq_Z} {f : Nat → va_E} {q : Nat} {x : va_E} (hq : q ∉ Z.1) : ∀ b, b ∈ Z.1 → va_up f q x b = f b := fun b hb => va_up_ne f x (fun e9 => by subst e9; exact hq hb)
/-- the heap in a constructor: cells as they are, then the typed ones -/
def tq_N (X : tq_X) (Z : tq_Z) (A : Nat → Prop) (H0 : Heap) (Xs : va_W) (f : Nat → va_E) (H : Heap) (locs : List Loc) : Prop := tq_ok X Z f ∧ va_P X.1 vwCl (Xs ++ va_pl Z.1 f) H ∧ va_D A (Xs ++ va_pl Z.1 f) ∧ va_S A H0 H locs
def tq_Cn (p : Program) (R : Room) (s : State) (m : MethodId) (args : Array Value) (meth : Method) (c : Code) (X : tq_X) (A : Nat → Prop) (own : String) (cc : ByteArray) (nL h : Nat) : Prop :=
  CallFix p m c cc nL s args tq_tbl own ∧ va_K X.1 vwCl (tq_tys X) s ∧ h ≤ R.frames ∧ 100 * h ≤ R.locals ∧ meth.name = "<init>" ∧ (∀ q : Nat, s.heap.size ≤ q → A q)
section TQN
variable {p : Program} {l : Launch} {e : Env} {R : Room} {s : State} {m : MethodId} {args : Array Value} {below : List Frame} {meth : Method} {c : Code} {H : Heap} {locs : List Loc} {cells slots : Nat} {Q : State → Prop}
variable {cc : ByteArray} {pc : Nat} {ls : Array Slot} {rest : List Value} {X : tq_X} {Z : tq_Z} {A : Nat → Prop} {a : Nat} {own : String} {nL h : Nat} {f : Nat → va_E} {Xs : va_W}
/-- Object's own constructor -/
theorem nq_obj {idx : Nat} (hC : tq_Cn p R s m args meth c X A own cc nL h) (hlk : Cond.methodLink own idx objectInit ∈ tq_tbl) (hl : ls.size = nL) (hrest : rest = []) (hh : 1 ≤ h) (hdg : decode cc pc = .ok (.invokespecial idx, 3))
    (kk : W p l e R s m args below meth c H locs cells slots Q (F0 m (pc + 3) ls rest)) : W p l e R s m args below meth c H locs cells slots Q (F0 m pc ls (.ref a :: rest)) := by
  have hts := hC.1.2.2.2.2
  subst hrest
  exact W.objInit hC.1.1 hC.1.2.1 hC.1.2.2.2.1 (hts _ hlk) (hts _ qo_m) (hts _ qo_c) rfl (hl.trans hC.1.2.2.1.symm) rfl hdg (Nat.le_trans hh hC.2.2.1) (by show 2 * 0 + 0 + 12 ≤ _; have := hC.2.2.2.1; omega) kk
theorem nq_new {Cn : String} {T : u_T} {N ci index : Nat} {fs : List Value} (ty : Nat → FieldType) (hC : tq_Cn p R s m args meth c X A own cc nL h) (hN : tq_N X Z A s.heap Xs f H locs) (hc : vwCl[ci]? = some (Cn, T, N)) (hin : ∀ w ∈ u_ws Cn T N, w ∈ tq_tbl) (hty : ∀ k, k < N → parseFieldDescriptor (T k).2.2.1 = some (ty k)) (hlk : Cond.classLink own index Cn ∈ tq_tbl) (hins : Cond.instantiable Cn N ∈ tq_tbl) (hini : Cond.initialized Cn ∈ tq_tbl) (hfs : ∀ j, j < N → defaultValue (ty j) = vp_V fs j) (hcells : cells + 1 ≤ R.cells) (hslots : slots + N ≤ R.slots) (hdg : decode cc pc = .ok (.new index, 3))
    (kk : ∀ (q : Nat) (H1 : Heap), tq_N X Z A s.heap (Xs ++ [(q, .inr (ci, fs))]) f H1 locs → W p l e R s m args below meth c H1 locs (cells + 1) (slots + N) Q (F0 m (pc + 3) ls (.ref q :: rest))) : W p l e R s m args below meth c H locs cells slots Q (F0 m pc ls rest) := by
  have hts := hC.1.2.2.2.2
  refine va_new (D := X.1) (cl := vwCl) (ws := Xs ++ va_pl Z.1 f) (A := A) (H0 := s.heap) hC.1.1 hC.1.2.1 hts hin ty hty hC.1.2.2.2.1 (hts _ hlk) (hts _ hins) (hts _ hini) hC.2.1 hN.2.1 hN.2.2.1 hN.2.2.2 hC.2.2.2.2.2 hc hfs hcells hslots hdg (fun q H1 hP hD hS => ?_)
  exact kk q H1 ⟨hN.1, va_P.swap hP, va_D.swap hD, hS⟩
/-- a row of ints, bytes or booleans is made: it is typed at once -/
theorem nq_newa {k n t0 : Nat} {ty : FieldType} {atype : ArrayType} (hC : tq_Cn p R s m args meth c X A own cc nL h) (hN : tq_N X Z A s.heap Xs f H locs) (hk : (tq_tys X)[t0]? = some (X.2.1 (tq_kc k), ty)) (hty : newarray.typeOf atype = ty) (hra : ∀ (U : State) (cA : ClassId), va_RA U cA ty → U.vm.findClass ("[" ++ ty.toString) = some cA) (hdf : defaultValue ty = .int 0) (harr : Cond.arrayClass (newarray.typeOf atype) ∈ tq_tbl) (hep : tq_eP k 0) {x : Int32} (hx : ¬ x < 0) (hxn : x.toNatClampNeg = n) (hbytes : n * componentBytes ty ≤ 536870912) (hcells : cells + 1 ≤ R.cells) (hslots : slots + n ≤ R.slots) (hdg : decode cc pc = .ok (.newarray atype, 2))
    (kk : ∀ (Z1 : tq_Z) (f1 : Nat → va_E) (q : Nat) (H1 : Heap), tq_le Z Z1 → (∀ b, b ∈ Z.1 → f1 b = f b) → (∀ b, b ∈ Z1.1 → b ∈ Z.1 ∨ b = q) → A q → tq_z Z1 q (.inr (.inl (k, n))) → tq_N X Z1 A s.heap Xs f1 H1 locs → W p l e R s m args below meth c H1 locs (cells + 1) (slots + n) Q (F0 m (pc + 2) ls (.ref q :: rest))) : W p l e R s m args below meth c H locs cells slots Q (F0 m pc ls (.int x :: rest)) := by
  have hts := hC.1.2.2.2.2
  refine va_newa (D := X.1) (cl := vwCl) (tys := tq_tys X) (ws := Xs ++ va_pl Z.1 f) (A := A) (H0 := s.heap) (a0 := (n, .inl (fun _ => 0))) hC.1.1 hC.1.2.1 (hts _ harr) hty hC.2.1 hN.2.1 hN.2.2.1 hN.2.2.2 hC.2.2.2.2.2 (fun cA => by rw [hdf]; rfl) hx hxn hbytes hcells hslots hdg (fun q cA H1 hK hP hD hS => ?_)
  have e1 : s.vm.findClass ("[" ++ ty.toString) = some (X.2.1 (tq_kc k)) := hra s _ (hC.2.1.2 t0 _ hk).2
  have e2 : s.vm.findClass ("[" ++ ty.toString) = some cA := hra s _ (hK.2 (tq_tys X).length (cA, ty) (by simp)).2
  have e3 : cA = X.2.1 (tq_kc k) := Option.some.inj (e2.symm.trans e1)
  subst e3
  have hq : q ∉ Z.1 := va_pl_fresh2 hD
  have hAq : A q := hD.2 (Xs ++ va_pl Z.1 f).length (q, _) (by rw [List.getElem?_append_right (Nat.le_refl _), Nat.sub_self]; rfl)
  have hP2 : va_P X.1 vwCl (Xs ++ va_pl (Z.1 ++ [q]) (va_up f q (.inl (X.2.1 (tq_kc k), n, .inl (fun _ => 0))))) H1 := by
    rw [← va_pl_push hq, ← List.append_assoc]
    exact hP
  have hD2 : va_D A (Xs ++ va_pl (Z.1 ++ [q]) (va_up f q (.inl (X.2.1 (tq_kc k), n, .inl (fun _ => 0))))) := by
    rw [← va_pl_push hq, ← List.append_assoc]
    exact hD
  refine kk (tq_ad Z q (.inr (.inl (k, n)))) _ q H1 (tq_ad.le hq) (tq_upk hq) (fun b hb => ?_) hAq tq_ad.at ⟨hN.1.ad hq ⟨fun _ => 0, rfl, fun _ _ => hep⟩, hP2, hD2, hS⟩
  rcases List.mem_append.mp hb with h1 | h1
  · exact Or.inl h1
  · exact Or.inr (List.mem_singleton.mp h1)
theorem nq_newl {n : Nat} (hC : tq_Cn p R s m args meth c X A own cc nL h) (hN : tq_N X Z A s.heap Xs f H locs) (harr : Cond.arrayClass .long ∈ tq_tbl) {x : Int32} (hx : ¬ x < 0) (hxn : x.toNatClampNeg = n) (hbytes : n * componentBytes .long ≤ 536870912) (hcells : cells + 1 ≤ R.cells) (hslots : slots + n ≤ R.slots) (hdg : decode cc pc = .ok (.newarray .long, 2))
    (kk : ∀ (Z1 : tq_Z) (f1 : Nat → va_E) (q : Nat) (H1 : Heap), tq_le Z Z1 → (∀ b, b ∈ Z.1 → f1 b = f b) → (∀ b, b ∈ Z1.1 → b ∈ Z.1 ∨ b = q) → A q → tq_z Z1 q (.inr (.inr (.inl n))) → tq_N X Z1 A s.heap Xs f1 H1 locs → W p l e R s m args below meth c H1 locs (cells + 1) (slots + n) Q (F0 m (pc + 2) ls (.ref q :: rest))) : W p l e R s m args below meth c H locs cells slots Q (F0 m pc ls (.int x :: rest)) := by
  have hts := hC.1.2.2.2.2
  refine va_newa (D := X.1) (cl := vwCl) (tys := tq_tys X) (ws := Xs ++ va_pl Z.1 f) (A := A) (H0 := s.heap) (atype := .long) (ty := .long) (a0 := (n, .inr (.inl (fun _ => 0)))) hC.1.1 hC.1.2.1 (hts _ (show Cond.arrayClass (newarray.typeOf ArrayType.long) ∈ tq_tbl from harr)) rfl hC.2.1 hN.2.1 hN.2.2.1 hN.2.2.2 hC.2.2.2.2.2 (fun cA => rfl) hx hxn hbytes hcells hslots hdg (fun q cA H1 hK hP hD hS => ?_)
  have e1 : s.vm.findClass ("[" ++ FieldType.long.toString) = some (X.2.1 2) := (hC.2.1.2 2 _ rfl).2
  have e2 : s.vm.findClass ("[" ++ FieldType.long.toString) = some cA := (hK.2 (tq_tys X).length (cA, .long) (by simp)).2
  have e3 : cA = X.2.1 2 := Option.some.inj (e2.symm.trans e1)
  subst e3
  have hq : q ∉ Z.1 := va_pl_fresh2 hD
  have hAq : A q := hD.2 (Xs ++ va_pl Z.1 f).length (q, _) (by rw [List.getElem?_append_right (Nat.le_refl _), Nat.sub_self]; rfl)
  have hP2 : va_P X.1 vwCl (Xs ++ va_pl (Z.1 ++ [q]) (va_up f q (.inl (X.2.1 2, n, .inr (.inl (fun _ => 0)))))) H1 := by
    rw [← va_pl_push hq, ← List.append_assoc]
    exact hP
  have hD2 : va_D A (Xs ++ va_pl (Z.1 ++ [q]) (va_up f q (.inl (X.2.1 2, n, .inr (.inl (fun _ => 0)))))) := by
    rw [← va_pl_push hq, ← List.append_assoc]
    exact hD
  refine kk (tq_ad Z q (.inr (.inr (.inl n)))) _ q H1 (tq_ad.le hq) (tq_upk hq) (fun b hb => ?_) hAq tq_ad.at ⟨hN.1.ad hq ⟨fun _ => 0, rfl⟩, hP2, hD2, hS⟩
  rcases List.mem_append.mp hb with h1 | h1
  · exact Or.inl h1
  · exact Or.inr (List.mem_singleton.mp h1)
/-- a field of the object that is being made -/
theorem nq_get {Cn : String} {T : u_T} {N ci index : Nat} {fs : List Value} {v : Value} (j : Nat) (hC : tq_Cn p R s m args meth c X A own cc nL h) (hN : tq_N X Z A s.heap Xs f H locs) (he : (Xs ++ va_pl Z.1 f)[j]? = some (a, .inr (ci, fs))) (hc : vwCl[ci]? = some (Cn, T, N)) (hin : ∀ w ∈ u_ws Cn T N, w ∈ tq_tbl) (k : Nat) (hk : k < N) (hlk : Cond.fieldLink own index (T k).1 (T k).2.1 (T k).2.2.1 ∈ tq_tbl) (hv : fs[k]? = some v) (hdg : decode cc pc = .ok (.getfield index, 3))
    (kk : W p l e R s m args below meth c H locs cells slots Q (F0 m (pc + 3) ls (v :: rest))) : W p l e R s m args below meth c H locs cells slots Q (F0 m pc ls (.ref a :: rest)) := by
  have hts := hC.1.2.2.2.2
  exact va_get (D := X.1) (cl := vwCl) (ws := Xs ++ va_pl Z.1 f) hC.1.1 hC.1.2.1 hts hin hC.1.2.2.2.1 hC.2.1 hN.2.1 j he hc k hk (hts _ hlk) (fun _ h9 => h9) hv hdg kk
/-- a field of the object that is being made is written: final, or not -/
theorem nq_putF {Cn : String} {T : u_T} {N ci index : Nat} {fs : List Value} {v : Value} (j : Nat) (ty0 : Nat → FieldType) (hC : tq_Cn p R s m args meth c X A own cc nL h) (hN : tq_N X Z A s.heap Xs f H locs) (he : (Xs ++ va_pl Z.1 f)[j]? = some (a, .inr (ci, fs))) (hc : vwCl[ci]? = some (Cn, T, N)) (hin : ∀ w ∈ u_ws Cn T N, w ∈ tq_tbl) (hty : ∀ k, k < N → parseFieldDescriptor (T k).2.2.1 = some (ty0 k)) (hnm : ∀ a, a < N → ∀ b, b < N → a ≠ b → (T a).2.1 ≠ (T b).2.1) (k : Nat) (hk : k < N) (hlk : Cond.fieldLink own index (T k).1 (T k).2.1 (T k).2.2.1 ∈ tq_tbl) (hfin : (T k).2.2.2 = true) (hdecl : (T k).1 = own) (hn : narrow (ty0 k) v = v) (hfit : fits (ty0 k) v = true) (hl : k < fs.length) {Ys : va_W} (hset : (Xs ++ va_pl Z.1 f).set j (a, .inr (ci, fs.set k v)) = Ys ++ va_pl Z.1 f) (hdg : decode cc pc = .ok (.putfield index, 3))
    (kk : ∀ (H1 : Heap) (locs1 : List Loc), tq_N X Z A s.heap Ys f H1 locs1 → W p l e R s m args below meth c H1 locs1 cells slots Q (F0 m (pc + 3) ls rest)) : W p l e R s m args below meth c H locs cells slots Q (F0 m pc ls (v :: .ref a :: rest)) := by
  have hts := hC.1.2.2.2.2
  refine va_putF (D := X.1) (cl := vwCl) (ws := Xs ++ va_pl Z.1 f) hC.1.1 hC.1.2.1 hts hin ty0 hty hnm hC.1.2.2.2.1 hC.2.1 hN.2.1 hN.2.2.1 hN.2.2.2 j he hc k hk (hts _ hlk) (fun _ h9 => h9) hfin hC.2.2.2.2.1 hdecl (hty k hk) hn hfit hl hdg (fun H1 locs1 hP hD hS => ?_)
  rw [hset] at hP hD
  exact kk H1 locs1 ⟨hN.1, hP, hD, hS⟩
theorem nq_put {Cn : String} {T : u_T} {N ci index : Nat} {fs : List Value} {v : Value} (j : Nat) (ty0 : Nat → FieldType) (hC : tq_Cn p R s m args meth c X A own cc nL h) (hN : tq_N X Z A s.heap Xs f H locs) (he : (Xs ++ va_pl Z.1 f)[j]? = some (a, .inr (ci, fs))) (hc : vwCl[ci]? = some (Cn, T, N)) (hin : ∀ w ∈ u_ws Cn T N, w ∈ tq_tbl) (hty : ∀ k, k < N → parseFieldDescriptor (T k).2.2.1 = some (ty0 k)) (hnm : ∀ a, a < N → ∀ b, b < N → a ≠ b → (T a).2.1 ≠ (T b).2.1) (k : Nat) (hk : k < N) (hlk : Cond.fieldLink own index (T k).1 (T k).2.1 (T k).2.2.1 ∈ tq_tbl) (hfin : (T k).2.2.2 = false) (hn : narrow (ty0 k) v = v) (hfit : fits (ty0 k) v = true) (hl : k < fs.length) {Ys : va_W} (hset : (Xs ++ va_pl Z.1 f).set j (a, .inr (ci, fs.set k v)) = Ys ++ va_pl Z.1 f) (hdg : decode cc pc = .ok (.putfield index, 3))
    (kk : ∀ (H1 : Heap) (locs1 : List Loc), tq_N X Z A s.heap Ys f H1 locs1 → W p l e R s m args below meth c H1 locs1 cells slots Q (F0 m (pc + 3) ls rest)) : W p l e R s m args below meth c H locs cells slots Q (F0 m pc ls (v :: .ref a :: rest)) := by
  have hts := hC.1.2.2.2.2
  refine va_put (D := X.1) (cl := vwCl) (ws := Xs ++ va_pl Z.1 f) hC.1.1 hC.1.2.1 hts hin ty0 hty hnm hC.1.2.2.2.1 hC.2.1 hN.2.1 hN.2.2.1 hN.2.2.2 j he hc k hk (hts _ hlk) (fun _ h9 => h9) hfin (hty k hk) hn hfit hl hdg (fun H1 locs1 hP hD hS => ?_)
  rw [hset] at hP hD
  exact kk H1 locs1 ⟨hN.1, hP, hD, hS⟩
/-- the first of the cells is typed now -/
theorem nq_type {ci : Nat} {fs : List Value} (hN : tq_N X Z A s.heap ((a, .inr (ci, fs)) :: Xs) f H locs) (ht : tq_le Z (tq_ad Z a (.inl ci)) → ∀ (k : Nat) (t : tq_T), tq_F X.2.2.1 ci k = some t → ∃ v, fs[k]? = some v ∧ tq_v (tq_ad Z a (.inl ci)) t v) :
    a ∉ Z.1 ∧ tq_le Z (tq_ad Z a (.inl ci)) ∧ tq_z (tq_ad Z a (.inl ci)) a (.inl ci) ∧ tq_N X (tq_ad Z a (.inl ci)) A s.heap Xs (va_up f a (.inr (ci, fs))) H locs := by
  obtain ⟨hO, hP, hD, hS⟩ := hN
  have hq : a ∉ Z.1 := fun hm => by
    obtain ⟨k, hk⟩ := va_pl_get (X := (a, .inr (ci, fs)) :: Xs) (f := f) hm
    have := hD.1 0 k (a, .inr (ci, fs)) (a, f a) rfl hk rfl
    subst this
    have e9 : some (a, (.inr (ci, fs) : va_E)) = some (a, f a) := hk
    obtain ⟨i, hi⟩ := List.getElem?_of_mem hm
    have h2 : (((a, .inr (ci, fs)) :: Xs) ++ va_pl Z.1 f)[((a, (.inr (ci, fs) : va_E)) :: Xs).length + i]? = some (a, f a) := by
      rw [List.getElem?_append_right (Nat.le_add_right _ _), Nat.add_sub_cancel_left]
      simp [va_pl, hi]
    have := hD.1 0 _ (a, .inr (ci, fs)) (a, f a) rfl h2 rfl
    simp only [List.length_cons] at this
    omega
  refine ⟨hq, tq_ad.le hq, tq_ad.at, hO.ad hq ⟨fs, rfl, ht (tq_ad.le hq)⟩, ?_, ?_, hS⟩
  · show va_P X.1 vwCl (Xs ++ va_pl (Z.1 ++ [a]) (va_up f a (.inr (ci, fs)))) H
    rw [← va_pl_push hq, ← List.append_assoc]
    have h3 : va_P X.1 vwCl (([] ++ [(a, .inr (ci, fs))]) ++ (Xs ++ va_pl Z.1 f)) H := hP
    have h4 := va_P.swap h3
    simpa using h4
  · show va_D A (Xs ++ va_pl (Z.1 ++ [a]) (va_up f a (.inr (ci, fs))))
    rw [← va_pl_push hq, ← List.append_assoc]
    have h3 : va_D A (([] ++ [(a, .inr (ci, fs))]) ++ (Xs ++ va_pl Z.1 f)) := hD
    have h4 := va_D.swap h3
    simpa using h4
end TQN
/-- the String constants, seen from a set of addresses that is ours -/
def tq_Va (X : tq_X) (A : Nat → Prop) (U : State) : Prop := tq_V X A U ∧ va_AO "PinPlan$State" U
theorem tq_Va.at {X : tq_X} {A B : Nat → Prop} {s U : State} {H : Heap} {locs : List Loc} (h : tq_Va X A s) (hW : s.WarmedH U.vm) (hU : U.heap = H) (hS : va_S A s.heap H locs) (hB : ∀ q, B q → A q) : tq_Va X B U := ⟨h.1.at hW hU hS hB, h.2.moved hW.alike⟩
theorem tq_Va.call {X : tq_X} {A : Nat → Prop} {U : State} {g : JFrame} {mk : MethodId} {a : Array Value} (h : tq_Va X A U) : tq_Va X A (U.calling g mk a) := ⟨h.1.call, va_AO.moved (u := U) (U := U.calling g mk a) (Vm.Alike.refl U.vm) h.2⟩
theorem tq_Va.toV {X : tq_X} {Z : tq_Z} {U : State} (h : tq_Va X (tq_A Z) U) : tq_V X (tq_A Z) U := h.1
/-- the addresses that a constructor may write: ours, its own object, new ones -/
def tq_An (Z : tq_Z) (h0 sz : Nat) : Nat → Prop := fun q => q ∈ Z.1 ∨ q = h0 ∨ sz ≤ q
/-- a constructor's start -/
def tq_Pn (X : tq_X) (Z : tq_Z) (f : Nat → va_E) (h0 sz ci : Nat) (fs : List Value) (vs : List Value) : Array Value → State → Prop := va_Pc (.ref h0 :: vs) (fun U => U.heap.size = sz ∧ tq_ok X Z f ∧ va_P X.1 vwCl ([(h0, .inr (ci, fs))] ++ va_pl Z.1 f) U.heap ∧ va_D (tq_An Z h0 sz) ([(h0, .inr (ci, fs))] ++ va_pl Z.1 f) ∧ va_K X.1 vwCl (tq_tys X) U ∧ tq_Va X (tq_An Z h0 sz) U)
/-- its end: the object is typed, with what it made; nothing else has changed -/
def tq_Qn (X : tq_X) (Z : tq_Z) (f : Nat → va_E) (wr : List (Nat × Nat)) (h0 sz ci : Nat) (xp : tq_Z → (Nat → va_E) → Prop) : Array Value → State → Outcome → State → Prop := fun _ st oc t => (oc = .returned none ∧ ∃ (Z1 : tq_Z) (f1 : Nat → va_E), tq_le Z Z1 ∧ tq_k Z wr f f1 ∧ (∀ b, b ∈ Z1.1 → tq_An Z h0 sz b) ∧ tq_z Z1 h0 (.inl ci) ∧ tq_ok X Z1 f1 ∧ va_P X.1 vwCl (va_pl Z1.1 f1) t.heap ∧ xp Z1 f1) ∧ va_F (tq_An Z h0 sz) st t
theorem tq_blindN {X : tq_X} {Z : tq_Z} {f : Nat → va_E} {h0 sz ci : Nat} {fs vs : List Value} : FrameBlind (tq_Pn X Z f h0 sz ci fs vs) := fun a U g mk q => ⟨q.1, q.2.1, q.2.2.1, q.2.2.2.1, q.2.2.2.2.1, va_K.moved (u := U) (U := U.calling g mk a) (Vm.Alike.refl U.vm) q.2.2.2.2.2.1, tq_Va.call q.2.2.2.2.2.2⟩
def tq_rn (h mc ms : Nat) : Room := { frames := h, cells := mc, slots := ms, locals := 100 * h }
abbrev tq_Mn (l : Launch) (X : tq_X) (Z : tq_Z) (f : Nat → va_E) (wr : List (Nat × Nat)) (h0 sz : Nat) (y : MethodName) (cc : ByteArray) (maxL h mc ms ci : Nat) (fs vs : List Value) (xp : tq_Z → (Nat → va_E) → Prop) : Prop := Met l y (Cond.code y cc maxL none :: tq_tbl) (tq_rn h mc ms) (tq_Pn X Z f h0 sz ci fs vs) (tq_Qn X Z f wr h0 sz ci xp) mc ms (tq_An Z h0 sz)
theorem tq_startn {l : Launch} {X : tq_X} {Z : tq_Z} {f : Nat → va_E} {wr : List (Nat × Nat)} {h0 sz : Nat} {y : MethodName} {cc : ByteArray} {maxL h mc ms ci : Nat} {fs vs : List Value} {xp : tq_Z → (Nat → va_E) → Prop} (hy : plainName y.cls = true) (hyn : y.name = "<init>") (hvs : (lg_sl (.ref h0 :: vs)).length ≤ maxL)
    (body : ∀ (p : Program) (e : Env) (R : Room) (s : State) (m : MethodId) (args : Array Value) (below : List Frame) (meth : Method) (c : Code) (Q : State → Prop), tq_Cn p R s m args meth c X (tq_An Z h0 sz) y.cls cc maxL h → mc ≤ R.cells ∧ ms ≤ R.slots → tq_Va X (tq_An Z h0 sz) s →
      (∀ (Z1 : tq_Z) (f1 : Nat → va_E) (H1 : Heap) (locs1 : List Loc) (ls : Array Slot) (pc cells slots : Nat), cells ≤ mc → slots ≤ ms → tq_le Z Z1 → tq_k Z wr f f1 → tq_z Z1 h0 (.inl ci) → tq_N X Z1 (tq_An Z h0 sz) s.heap [] f1 H1 locs1 → xp Z1 f1 → decode cc pc = .ok (.return_, 1) → W p l e R s m args below meth c H1 locs1 cells slots Q (F0 m pc ls [])) →
      tq_N X Z (tq_An Z h0 sz) s.heap [(h0, .inr (ci, fs))] f s.heap [] → ∀ ls : Array Slot, lv_has ls maxL (lv_args 0 (.ref h0 :: vs)) → W p l e R s m args below meth c s.heap [] 0 0 Q (F0 m 0 ls [])) : tq_Mn l X Z f wr h0 sz y cc maxL h mc ms ci fs vs xp := by
  refine Met.ofW (cc := cc) (maxL := maxL) (ret := none) hy rfl ?_
  intro p e s m args below meth c s₁ B hml hv
  obtain ⟨rfl, hsz, hO, hP, hD, hK, hV⟩ := hv
  have hts := atoms_spec (ws := Cond.code y cc maxL none :: tq_tbl) B.pre
  have hlocks := B.notSynchronized
  have hin : meth.name = "<init>" := (name_of_methodNamed B.named B.method).1.trans hyn
  have hl := lv_entry (.ref h0 :: vs) (n := maxL) hvs
  rw [lg_entry_eq]
  generalize (lg_sl (.ref h0 :: vs) ++ List.replicate (maxL - (lg_sl (.ref h0 :: vs)).length) Slot.unset).toArray = ls at hl ⊢
  refine body p e _ s m _ below meth c _ ⟨⟨B.exec, B.bytes, hml, findClass_of_methodNamed B.named, fun w hw => hts w (List.mem_cons_of_mem _ hw)⟩, hK, Nat.le_refl _, Nat.le_refl _, hin, fun q hq => Or.inr (Or.inr (hsz ▸ hq))⟩ ⟨Nat.le_refl _, Nat.le_refl _⟩ hV (fun Z1 f1 H1 locs1 ls pc cells slots h1 h2 hle hkeep hz hN hx hd => ?_) ⟨hO, hP, hD, va_S.rf⟩ ls hl
  refine W.widen (k := mc) (n := ms) h1 h2 ?_
  refine W.vret B.exec B.bytes B.returns (fun t ht hW => ⟨⟨rfl, Z1, f1, hle, hkeep, fun b hb => ?_, hz, hN.1, by rw [ht]; exact hN.2.1, hx⟩, hN.2.2.2.F ht⟩) hN.2.2.2.2.2 hd
  obtain ⟨k, hk⟩ := va_pl_get (X := []) (f := f1) hb
  exact hN.2.2.1.2 k _ hk
section TQI
variable {p : Program} {l : Launch} {e : Env} {R : Room} {s : State} {m : MethodId} {args : Array Value} {below : List Frame} {meth : Method} {c : Code} {H : Heap} {locs : List Loc} {cells slots : Nat} {Q : State → Prop}
variable {cc : ByteArray} {pc : Nat} {ls : Array Slot} {rest : List Value} {X : tq_X} {Z : tq_Z} {A : Nat → Prop} {a : Nat} {own : String} {nL h : Nat} {f : Nat → va_E} {Xs : va_W}
/-- a constructor is called: its object stands last among the cells; it is typed then -/
theorem nq_callI {wr' : List (Nat × Nat)} {y : MethodName} {cc' : ByteArray} {maxL' h' mc ms n index ci : Nat} {fs As st : List Value} {xp : tq_Z → (Nat → va_E) → Prop} (hC : tq_Cn p R s m args meth c X A own cc nL h) (hV : tq_Va X A s) (hN : tq_N X Z A s.heap (Xs ++ [(a, .inr (ci, fs))]) f H locs) (hM : tq_Mn l X Z f wr' a H.size y cc' maxL' h' mc ms ci fs As xp) (hk : Cond.code y cc' maxL' none ∈ tq_tbl ∧ Cond.instanceMethod y ∈ tq_tbl ∧ Cond.initialized y.cls ∈ tq_tbl) (hyn : y.name = "<init>") (hmx : maxL' ≤ 81) (hd : y.cls ≠ "java/lang/invoke/MethodHandle" ∧ y.cls ≠ "java/lang/invoke/VarHandle" ∧ (parseMethodDescriptor y.desc).map (fun d => d.parameters.length) = some n) (hlk : Cond.methodLink own index y ∈ tq_tbl) (hn : As.length = n) (hh : h' + 1 ≤ h) (hl : ls.size = nL) (hst : st = As.reverse ++ .ref a :: rest) (hsum : (rest.map fun v => v.category).sum ≤ 8) (hz : cells + mc ≤ R.cells ∧ slots + ms ≤ R.slots) (hdg : decode cc pc = .ok (.invokespecial index, 3))
    (kk : ∀ (Z1 : tq_Z) (f1 : Nat → va_E) (H1 : Heap) (locs1 : List Loc), tq_le Z Z1 → tq_k Z wr' f f1 → tq_z Z1 a (.inl ci) → xp Z1 f1 → tq_N X Z1 A s.heap Xs f1 H1 locs1 → W p l e R s m args below meth c H1 locs1 (cells + mc) (slots + ms) Q (F0 m (pc + 3) ls rest)) : W p l e R s m args below meth c H locs cells slots Q (F0 m pc ls st) := by
  have hts := hC.1.2.2.2.2
  obtain ⟨hO, hP, hD, hS⟩ := hN
  have cw : CallB R s args own index y cc' maxL' none (Cond.code y cc' maxL' none :: tq_tbl) (tq_rn h' mc ms) mc ms n ∧ y.name = "<init>" ∧ (Cond.instanceMethod y).before args s = true := ⟨callB_of n hts (tq_goodT hk.1) rfl rfl rfl (hts _ hk.2.2) (hts _ hlk) hd ⟨by show h' + 1 ≤ _; have := hC.2.2.1; omega, by show 8 + (maxL' + 11) + 100 * h' ≤ _; have := hC.2.2.2.1; omega⟩, hyn, hts _ hk.2.1⟩
  -- the places of the callee's cells, and of the others
  have plA : ∀ (k : Nat) (q : Nat × va_E), ([(a, .inr (ci, fs))] ++ va_pl Z.1 f)[k]? = some q → ((Xs ++ [(a, .inr (ci, fs))]) ++ va_pl Z.1 f)[Xs.length + k]? = some q := fun k q hk9 => by
    rw [List.append_assoc, List.getElem?_append_right (Nat.le_add_right _ _), Nat.add_sub_cancel_left]
    exact hk9
  have plX : ∀ (k : Nat) (q : Nat × va_E), Xs[k]? = some q → k < Xs.length ∧ ((Xs ++ [(a, .inr (ci, fs))]) ++ va_pl Z.1 f)[k]? = some q := fun k q hk9 => by
    have hlt := (List.getElem?_eq_some_iff.mp hk9).1
    refine ⟨hlt, ?_⟩
    rw [List.append_assoc, List.getElem?_append_left hlt]
    exact hk9
  have hAZ : ∀ q, q ∈ Z.1 → A q := fun q hq => by
    obtain ⟨k, hk9⟩ := va_pl_get (X := Xs ++ [(a, .inr (ci, fs))]) (f := f) hq
    exact hD.2 k _ hk9
  have hAa : A a := hD.2 Xs.length (a, _) (by have := plA 0 _ rfl; exact this)
  have hAn : ∀ q, tq_An Z a H.size q → A q := fun q hq => by
    rcases hq with h1 | h1 | h1
    · exact hAZ q h1
    · exact h1 ▸ hAa
    · exact hC.2.2.2.2.2 q (Nat.le_trans hS.1 h1)
  have hPc : va_P X.1 vwCl ([(a, .inr (ci, fs))] ++ va_pl Z.1 f) H := fun k q hk9 => hP _ q (plA k q hk9)
  have hDc : va_D (tq_An Z a H.size) ([(a, .inr (ci, fs))] ++ va_pl Z.1 f) := by
    refine ⟨fun i j x y9 hi hj e9 => ?_, fun k q hk9 => ?_⟩
    · have := hD.1 _ _ x y9 (plA i x hi) (plA j y9 hj) e9
      omega
    · cases k with
      | zero => cases hk9; exact Or.inr (Or.inl rfl)
      | succ k =>
        have hk8 : (va_pl Z.1 f)[k]? = some q := hk9
        simp only [va_pl, List.getElem?_map, Option.map_eq_some_iff] at hk8
        obtain ⟨x, hx, rfl⟩ := hk8
        exact Or.inl (List.mem_of_getElem? hx)
  have apart : ∀ (k : Nat) (q : Nat × va_E), Xs[k]? = some q → q.1 < H.size ∧ ¬ tq_An Z a H.size q.1 := fun k q hk9 => by
    obtain ⟨hlt, hk8⟩ := plX k q hk9
    have hl9 := (hP k q hk8).lt
    refine ⟨hl9, fun h9 => ?_⟩
    rcases h9 with h1 | h1 | h1
    · obtain ⟨j, hj⟩ := va_pl_get (X := [(a, .inr (ci, fs))]) (f := f) h1
      have := hD.1 k _ q (q.1, f q.1) hk8 (plA j _ hj) rfl
      omega
    · have := hD.1 k _ q (a, .inr (ci, fs)) hk8 (plA 0 _ rfl) h1
      omega
    · omega
  intro T0 hT0 X0
  obtain ⟨v, st₀, t, T', L, h0, X', hL, e1, e2, hq, stp⟩ := va_runI (g := F0 m pc ls st) (As := As) (rest := rest) hC.1 hM cw ⟨tq_blindN, fun U hU hW => ⟨rfl, by rw [hU], hO, by rw [hU]; exact hPc, hDc, va_K.moved hW.alike hC.2.1, hV.at hW hU hS hAn⟩⟩ rfl hn hl hst (lv_room hsum) hdg hz T0 hT0 X0
  obtain ⟨⟨hv, Z1, f1, g1, g2, g3, g4, g5, g6, g7⟩, hF1, hF2⟩ := hq
  cases hv
  subst h0
  have hPX : va_P X.1 vwCl Xs t.heap := fun k q hk9 => (hP k q (plX k q hk9).2).kept (hF2 q.1 (apart k q hk9).1 (apart k q hk9).2)
  have hD1 : va_D A (va_pl Z1.1 f1) := by
    have h9 := tq_D g5
    exact ⟨h9.1, fun k q hk9 => hAn _ (g3 _ (h9.2 k q hk9))⟩
  have hDX : va_D A Xs := by
    refine ⟨fun i j x y9 hi hj e9 => hD.1 i j x y9 (plX i x hi).2 (plX j y9 hj).2 e9, fun k q hk9 => hD.2 k q (plX k q hk9).2⟩
  have hDD : va_D A (Xs ++ va_pl Z1.1 f1) := va_D.app hDX hD1 (fun i j x y9 hi hj e9 => (apart i x hi).2 (by rw [e9]; exact g3 _ ((tq_D g5).2 j y9 hj)))
  obtain ⟨t2, a1, b1⟩ := kk Z1 f1 t.heap (locs ++ L) g1 g2 g4 g7 ⟨g5, va_P.app hPX g6, hDD, ⟨Nat.le_trans hS.1 hF1, fun q q1 q2 => (hF2 q (Nat.lt_of_lt_of_le q1 hS.1) (fun h9 => q2 (hAn q h9))).trans (hS.2.1 q q1 q2), fun q hq => (List.mem_append.mp hq).elim (hS.2.2 q) (fun h9 => hAn _ (hL q h9))⟩⟩ T' e1 X'
  exact ⟨t2, stp t2 a1, b1⟩
end TQI
section TQO
variable {p : Program} {l : Launch} {e : Env} {R : Room} {s : State} {m : MethodId} {args : Array Value} {below : List Frame} {meth : Method} {c : Code} {H : Heap} {locs : List Loc} {cells slots : Nat} {Q : State → Prop}
variable {cc : ByteArray} {pc : Nat} {ls : Array Slot} {rest : List Value} {X : tq_X} {Z : tq_Z} {A : Nat → Prop} {a : Nat} {own : String} {nL h : Nat} {f : Nat → va_E} {Xs : va_W}
theorem nq_getr {Cn : String} {T : u_T} {N ci index : Nat} (hC : tq_Cn p R s m args meth c X A own cc nL h) (hN : tq_N X Z A s.heap Xs f H locs) (ha : tq_z Z a (.inl ci)) (hc : vwCl[ci]? = some (Cn, T, N)) (hin : ∀ w ∈ u_ws Cn T N, w ∈ tq_tbl) (k : Nat) (hk : k < N) (hlk : Cond.fieldLink own index (T k).1 (T k).2.1 (T k).2.2.1 ∈ tq_tbl) {g : tq_G} (hft : tq_F X.2.2.1 ci k = some (.inr (.inr g))) (hdg : decode cc pc = .ok (.getfield index, 3))
    (kk : ∀ b : Nat, tq_z Z b g → tq_f f a k (.ref b) → W p l e R s m args below meth c H locs cells slots Q (F0 m (pc + 3) ls (.ref b :: rest))) : W p l e R s m args below meth c H locs cells slots Q (F0 m pc ls (.ref a :: rest)) := by
  have hts := hC.1.2.2.2.2
  obtain ⟨fs, h1, h2⟩ := tq_at hN.1 ha
  obtain ⟨v, h3, x, rfl, h4⟩ := h2 k _ hft
  obtain ⟨i, hi⟩ := va_pl_get (X := Xs) (f := f) ha.1
  exact va_get (D := X.1) (cl := vwCl) (ws := Xs ++ va_pl Z.1 f) hC.1.1 hC.1.2.1 hts hin hC.1.2.2.2.1 hC.2.1 hN.2.1 i (fs := fs) (by rw [← h1]; exact hi) hc k hk (hts _ hlk) (fun _ h9 => h9) h3 hdg (kk x h4 ⟨ci, fs, h1, h3⟩)
/-- a method of an object that is typed, called in a constructor -/
theorem nq_callV {wr' : List (Nat × Nat)} {y : MethodName} {cc' : ByteArray} {maxL' h' n index ci N : Nat} {T : u_T} {As st : List Value} (hC : tq_Cn p R s m args meth c X A own cc nL h) (hV : tq_Va X A s) (hN : tq_N X Z A s.heap [] f H locs) (hM : tq_M l X Z f wr' y cc' maxL' none h' (.ref a :: As) tq_rv) (hk : tq_KV y cc' maxL' none n) (hlk : Cond.methodLink own index y ∈ tq_tbl) (hn : As.length = n) (hh : h' + 1 ≤ h) (ha : tq_z Z a (.inl ci)) (hcl : vwCl[ci]? = some (y.cls, T, N)) (hl : ls.size = nL) (hst : st = As.reverse ++ .ref a :: rest) (hsum : (rest.map fun v => v.category).sum ≤ 8) (hz : cells ≤ R.cells ∧ slots ≤ R.slots) (hdg : decode cc pc = .ok (.invokevirtual index, 3))
    (kk : ∀ (f1 : Nat → va_E) (H1 : Heap) (locs1 : List Loc), tq_k Z wr' f f1 → tq_N X Z A s.heap [] f1 H1 locs1 → W p l e R s m args below meth c H1 locs1 cells slots Q (F0 m (pc + 3) ls rest)) : W p l e R s m args below meth c H locs cells slots Q (F0 m pc ls st) := by
  obtain ⟨k1, k2, k3, k4, k5, k6, k7, k8⟩ := hk
  have hts := hC.1.2.2.2.2
  obtain ⟨hO, hP, hD, hS⟩ := hN
  have hP : va_P X.1 vwCl (va_pl Z.1 f) H := hP
  have hD : va_D A (va_pl Z.1 f) := hD
  have hAZ : ∀ q, tq_A Z q → A q := fun q hq => by
    obtain ⟨k, hk9⟩ := va_pl_get (X := []) (f := f) hq
    exact hD.2 k _ hk9
  have cw : CallW R s args own y.cls index y cc' maxL' none (Cond.code y cc' maxL' none :: tq_tbl) (tq_rm h') 0 0 n := ⟨callB_of n hts (tq_goodT k1) rfl rfl rfl (hts _ k4) (hts _ hlk) ⟨k6, k7, k8⟩ ⟨by show h' + 1 ≤ _; have := hC.2.2.1; omega, by show 8 + (maxL' + 11) + 100 * h' ≤ _; have := hC.2.2.2.1; omega⟩, hts _ k2, hts _ k3⟩
  obtain ⟨fs, h1, -⟩ := tq_at hO ha
  obtain ⟨i, hi⟩ := va_pl_get (X := []) (f := f) ha.1
  have hr := va_recv (D := X.1) (cl := vwCl) (ws := va_pl Z.1 f) hC.2.1 hP hcl (q0 := i) (a := a) (fs := fs) (by rw [← h1]; exact hi)
  intro T0 hT0 X0
  obtain ⟨v, st₀, t, T', L, h0, X', hL, e1, e2, hq, stp⟩ := va_runV (g := F0 m pc ls st) (As := As) (rest := rest) hC.1 hM cw ⟨tq_blind, hr, fun U hU hW => ⟨rfl, ⟨hO, by rw [hU]; exact hP⟩, va_K.moved hW.alike hC.2.1, (hV.at hW hU hS hAZ).toV⟩⟩ rfl hn hl hst (lv_room hsum) hdg ⟨hz.1, hz.2⟩ T0 hT0 X0
  obtain ⟨⟨v', hv, hp, f1, g1, g2, g3⟩, hF1, hF2⟩ := hq
  cases hv
  cases hp
  subst h0
  have hD1 : va_D A (va_pl Z.1 f1) := by
    have h9 := tq_D g1
    exact ⟨h9.1, fun k q hk9 => hAZ _ (h9.2 k q hk9)⟩
  obtain ⟨t2, a1, b1⟩ := kk f1 t.heap (locs ++ L) g3 ⟨g1, g2, hD1, ⟨Nat.le_trans hS.1 hF1, fun q q1 q2 => (hF2 q (Nat.lt_of_lt_of_le q1 hS.1) (fun h9 => q2 (hAZ q h9))).trans (hS.2.1 q q1 q2), fun q hq => (List.mem_append.mp hq).elim (hS.2.2 q) (fun h9 => hAZ _ (hL q h9))⟩⟩ T' e1 X'
  exact ⟨t2, stp t2 a1, b1⟩
end TQO
section TQA
variable {p : Program} {l : Launch} {e : Env} {R : Room} {s : State} {m : MethodId} {args : Array Value} {below : List Frame} {meth : Method} {c : Code} {H : Heap} {locs : List Loc} {cells slots : Nat} {Q : State → Prop}
variable {cc : ByteArray} {pc : Nat} {ls : Array Slot} {rest : List Value} {X : tq_X} {Z : tq_Z} {A : Nat → Prop} {a : Nat} {own : String} {nL h : Nat} {f : Nat → va_E} {Xs : va_W}
/-- the last of the cells, a row of objects, is typed now -/
theorem nq_typeR {k n : Nat} {g : Nat → Option Nat} (hN : tq_N X Z A s.heap (Xs ++ [(a, .inl (X.2.1 (4 + k), n, .inr (.inr (.inr (.inr g)))))]) f H locs) (hg : ∀ j : Nat, j < n → ∃ b : Nat, g j = some b ∧ tq_z Z b (tq_rg k)) :
    tq_le Z (tq_ad Z a (.inr (.inr (.inr (k, n))))) ∧ (∀ b, b ∈ Z.1 → va_up f a (.inl (X.2.1 (4 + k), n, .inr (.inr (.inr (.inr g))))) b = f b) ∧ tq_z (tq_ad Z a (.inr (.inr (.inr (k, n))))) a (.inr (.inr (.inr (k, n)))) ∧ tq_N X (tq_ad Z a (.inr (.inr (.inr (k, n))))) A s.heap Xs (va_up f a (.inl (X.2.1 (4 + k), n, .inr (.inr (.inr (.inr g)))))) H locs := by
  obtain ⟨hO, hP, hD, hS⟩ := hN
  have hP2 := va_P.swap hP
  have hD2 := va_D.swap hD
  have hq : a ∉ Z.1 := va_pl_fresh2 hD2
  have hle := tq_ad.le (g := .inr (.inr (.inr (k, n)))) hq
  refine ⟨hle, tq_upk hq, tq_ad.at, hO.ad hq ⟨g, rfl, fun j hj => ?_⟩, ?_, ?_, hS⟩
  · obtain ⟨b, h1, h2⟩ := hg j hj
    exact ⟨b, h1, hle _ _ h2⟩
  · show va_P X.1 vwCl (Xs ++ va_pl (Z.1 ++ [a]) (va_up f a _)) H
    rw [← va_pl_push hq, ← List.append_assoc]
    exact hP2
  · show va_D A (Xs ++ va_pl (Z.1 ++ [a]) (va_up f a _))
    rw [← va_pl_push hq, ← List.append_assoc]
    exact hD2
/-- a row of State objects is made, all null -/
theorem nq_newq {n index : Nat} (hC : tq_Cn p R s m args meth c X A own cc nL h) (hao : va_AO "PinPlan$State" s) (hN : tq_N X Z A s.heap Xs f H locs) (hlk : Cond.classLink own index "PinPlan$State" ∈ tq_tbl) {x : Int32} (hx : ¬ x < 0) (hxn : x.toNatClampNeg = n) (hbytes : n * 4 ≤ 536870912) (hcells : cells + 1 ≤ R.cells) (hslots : slots + n ≤ R.slots) (hdg : decode cc pc = .ok (.anewarray index, 3))
    (kk : ∀ (q : Nat) (H1 : Heap), tq_N X Z A s.heap (Xs ++ [(q, .inl (X.2.1 (4 + 0), n, .inr (.inr (.inr (.inr (fun _ => none))))))]) f H1 locs → W p l e R s m args below meth c H1 locs (cells + 1) (slots + n) Q (F0 m (pc + 3) ls (.ref q :: rest))) : W p l e R s m args below meth c H locs cells slots Q (F0 m pc ls (.int x :: rest)) := by
  have hts := hC.1.2.2.2.2
  refine va_newq (D := X.1) (cl := vwCl) (tys := tq_tys X) (ws := Xs ++ va_pl Z.1 f) (A := A) (H0 := s.heap) hC.1.1 hC.1.2.1 hC.1.2.2.2.1 (hts _ hlk) hao hC.2.1 hN.2.1 hN.2.2.1 hN.2.2.2 hC.2.2.2.2.2 hx hxn hbytes hcells hslots hdg (fun q cA H1 hK hP hD hS => ?_)
  obtain ⟨k1, c1, -, -, -, e1⟩ := (hC.2.1.2 4 _ rfl).2
  obtain ⟨k2, c2, -, -, -, e2⟩ := (hK.2 (tq_tys X).length (cA, .object "PinPlan$State") (by simp)).2
  have e3 : cA = X.2.1 4 := Option.some.inj (e2.symm.trans e1)
  subst e3
  exact kk q H1 ⟨hN.1, va_P.swap hP, va_D.swap hD, hS⟩
/-- an object is put into it -/
theorem nq_aast {n v : Nat} {g : Nat → Option Nat} {i : Int32} (j : Nat) (hC : tq_Cn p R s m args meth c X A own cc nL h) (hN : tq_N X Z A s.heap Xs f H locs) (he : (Xs ++ va_pl Z.1 f)[j]? = some (a, .inl (X.2.1 (4 + 0), n, .inr (.inr (.inr (.inr g)))))) (hv : tq_z Z v (.inl 7)) (hi : vp_in i n) {Ys : va_W} (hset : (Xs ++ va_pl Z.1 f).set j (a, .inl (X.2.1 (4 + 0), n, .inr (.inr (.inr (.inr (va_up g i.toNatClampNeg (some v))))))) = Ys ++ va_pl Z.1 f) (hdg : decode cc pc = .ok (.aastore, 1))
    (kk : ∀ (H1 : Heap) (locs1 : List Loc), tq_N X Z A s.heap Ys f H1 locs1 → W p l e R s m args below meth c H1 locs1 cells slots Q (F0 m (pc + 1) ls rest)) : W p l e R s m args below meth c H locs cells slots Q (F0 m pc ls (.ref v :: .int i :: .ref a :: rest)) := by
  obtain ⟨fs, h1, -⟩ := tq_at hN.1 hv
  obtain ⟨q, hq⟩ := va_pl_get (X := Xs) (f := f) hv.1
  refine va_astq (D := X.1) (cl := vwCl) (ws := Xs ++ va_pl Z.1 f) hC.1.1 hC.1.2.1 hC.2.1 hN.2.1 hN.2.2.1 hN.2.2.2 j 4 q 7 (r := (RX7, TX7, 1)) (vs := fs) he rfl (by rw [← h1]; exact hq) rfl hi hdg (fun H1 locs1 hP hD hS => ?_)
  rw [hset] at hP hD
  exact kk H1 locs1 ⟨hN.1, hP, hD, hS⟩
theorem tq_filled {Z Z1 : tq_Z} {g : Nat → Option Nat} {i b : Nat} (h : ∀ j, j < i → ∃ b, g j = some b ∧ tq_z Z b (.inl 7)) (hle : tq_le Z Z1) (hb : tq_z Z1 b (.inl 7)) : ∀ j, j < i + 1 → ∃ c, va_up g i (some b) j = some c ∧ tq_z Z1 c (.inl 7) := fun j hj => by
  by_cases e9 : j = i
  · subst e9
    exact ⟨b, va_up_self _ _ _, hb⟩
  · obtain ⟨c, h1, h2⟩ := h j (by omega)
    exact ⟨c, by rw [va_up_ne _ _ e9]; exact h1, hle _ _ h2⟩
end TQA
