section EZN
variable {p : Program} {l : Launch} {e : Env} {R : Room} {s : State} {m : MethodId} {args : Array Value} {below : List Frame} {meth : Method} {c : Code} {H : Heap} {locs : List Loc} {cells slots : Nat} {Q : State → Prop}
variable {cc : ByteArray} {pc : Nat} {ls : Array Slot} {rest : List Value} {X : ez_X} {B : Nat} {a : Nat} {own : String} {nL h : Nat} {H0 : Heap} {n c1 s1 n1 : Nat} {σ : ez_H} {β : Type} {z : β}
theorem ez_S.size (hS : ez_S X B H0 n σ H locs) (hn : 0 < n) : B + n ≤ H.size := by
  obtain ⟨h1, h2, -⟩ := hS
  have hlt : n - 1 < σ.length := by omega
  have h3 := (h2 (n - 1) _ (ez_ws_at (List.getElem?_eq_getElem hlt))).lt
  have h4 : B + (n - 1) < H.size := h3
  omega
/-- a new cell lies behind all others -/
theorem ez_fresh {H1 : Heap} {q : Nat} {x : ez_E} {y : va_E} (hlen : σ.length = n) (hsz : s.heap.size + cells = B + n) (hP : va_P X.1 vwCl (ez_ws X B σ ++ [(q, y)]) H1) (hD : va_D (ez_A B) (ez_ws X B σ ++ [(q, y)])) (hH : H1.size ≤ s.heap.size + (cells + 1)) (hy : y = ez_re X B x) : q = B + n ∧ va_P X.1 vwCl (ez_ws X B (σ ++ [x])) H1 := by
  have hl : (ez_ws X B σ).length = n := ez_ws_len.trans hlen
  have hq : (ez_ws X B σ ++ [(q, y)])[n]? = some (q, y) := by rw [List.getElem?_append_right (by omega), hl, Nat.sub_self]; rfl
  have h1 : q < H1.size := (hP n _ hq).lt
  have h2 : B ≤ q := hD.2 n _ hq
  have h3 : q = B + n := by
    by_cases h9 : q < B + n
    · exfalso
      have hj : q - B < σ.length := by omega
      have h4 : (ez_ws X B σ ++ [(q, y)])[q - B]? = some (B + (q - B), ez_re X B σ[q - B]) := by
        rw [List.getElem?_append_left (by omega)]
        exact ez_ws_at (List.getElem?_eq_getElem hj)
      have := hD.1 (q - B) n _ _ h4 hq (by show B + (q - B) = q; omega)
      omega
    · omega
  refine ⟨h3, ?_⟩
  rw [← ez_ws_push, hlen, ← hy, ← h3]
  exact hP
theorem ez_new {Cn : String} {T : u_T} {N ci index : Nat} {fs : List ez_V} (ty : Nat → FieldType) (hC : ez_C p R s m args c X B own cc nL h) (hB : B ≤ s.heap.size) (hS : ez_S X B s.heap n σ H locs) (hsz : s.heap.size + cells = B + n) (hc : vwCl[ci]? = some (Cn, T, N)) (hin : ∀ w ∈ u_ws Cn T N, w ∈ tq_tbl) (hty : ∀ k, k < N → parseFieldDescriptor (T k).2.2.1 = some (ty k)) (hlk : Cond.classLink own index Cn ∈ tq_tbl) (hins : Cond.instantiable Cn N ∈ tq_tbl) (hini : Cond.initialized Cn ∈ tq_tbl) (hfs : ∀ j, j < N → defaultValue (ty j) = vp_V (fs.map (ez_rv B)) j) (ec : cells + 1 = c1) (es : slots + N = s1) (en : n + 1 = n1) (hcells : c1 ≤ R.cells) (hslots : s1 ≤ R.slots) {g : Nat → ez_H → Option β} (h : ez_nw σ (.inr (.inr (.inr (ci, fs)))) g = some z) (hdg : decode cc pc = .ok (.new index, 3))
    (kk : ∀ (a : Nat) (σ1 : ez_H) (H1 : Heap), ez_S X B s.heap n1 σ1 H1 locs → s.heap.size + c1 = B + n1 → g a σ1 = some z → W p l e R s m args below meth c H1 locs c1 s1 Q (F0 m (pc + 3) ls (.ref (B + a) :: rest))) : W p l e R s m args below meth c H locs cells slots Q (F0 m pc ls rest) := by
  subst ec
  subst es
  subst en
  have hts := hC.1.2.2.2.2
  refine va_new (D := X.1) (cl := vwCl) (ws := ez_ws X B σ) (A := ez_A B) (H0 := s.heap) hC.1.1 hC.1.2.1 hts hin ty hty hC.1.2.2.2.1 (hts _ hlk) (hts _ hins) (hts _ hini) hC.2.1 hS.2.1 ez_D hS.2.2 (fun q hq => Nat.le_trans hB hq) hc (fs := fs.map (ez_rv B)) hfs hcells hslots hdg (fun q H1 hP hD hS1 => ?_)
  refine ez_sized (fun hH => ?_)
  obtain ⟨rfl, hP1⟩ := ez_fresh (x := .inr (.inr (.inr (ci, fs)))) hS.1 hsz hP hD hH rfl
  have h9 := kk σ.length _ H1 ⟨by rw [List.length_append, hS.1]; rfl, hP1, hS1⟩ (by omega) (by rw [ez_nw_eq] at h; exact h)
  rw [hS.1] at h9
  exact h9
theorem ez_newa {k N : Nat} {ty : FieldType} {atype : ArrayType} (hC : ez_C p R s m args c X B own cc nL h) (hB : B ≤ s.heap.size) (hS : ez_S X B s.heap n σ H locs) (hsz : s.heap.size + cells = B + n) (hk : (ez_tys X)[k]? = some (X.2.1 k, ty)) (hty : newarray.typeOf atype = ty) (hra : ∀ (U : State) (cA : ClassId), va_RA U cA ty → U.vm.findClass ("[" ++ ty.toString) = some cA) (hdf : defaultValue ty = .int 0) (harr : Cond.arrayClass (newarray.typeOf atype) ∈ tq_tbl) {x : Int32} (hx : ¬ x < 0) (hxn : x.toNatClampNeg = N) (hbytes : N * componentBytes ty ≤ 536870912) (ec : cells + 1 = c1) (es : slots + N = s1) (en : n + 1 = n1) (hcells : c1 ≤ R.cells) (hslots : s1 ≤ R.slots) {g : Nat → ez_H → Option β} (h : ez_nw σ (.inl (k, N, [])) g = some z) (hdg : decode cc pc = .ok (.newarray atype, 2))
    (kk : ∀ (a : Nat) (σ1 : ez_H) (H1 : Heap), ez_S X B s.heap n1 σ1 H1 locs → s.heap.size + c1 = B + n1 → g a σ1 = some z → W p l e R s m args below meth c H1 locs c1 s1 Q (F0 m (pc + 2) ls (.ref (B + a) :: rest))) : W p l e R s m args below meth c H locs cells slots Q (F0 m pc ls (.int x :: rest)) := by
  subst ec
  subst es
  subst en
  have hts := hC.1.2.2.2.2
  refine va_newa (D := X.1) (cl := vwCl) (tys := ez_tys X) (ws := ez_ws X B σ) (A := ez_A B) (H0 := s.heap) (a0 := (N, .inl (fun _ => 0))) hC.1.1 hC.1.2.1 (hts _ harr) hty hC.2.1 hS.2.1 ez_D hS.2.2 (fun q hq => Nat.le_trans hB hq) (fun cA => by rw [hdf]; rfl) hx hxn hbytes hcells hslots hdg (fun q cA H1 hK hP hD hS1 => ?_)
  have e1 : s.vm.findClass ("[" ++ ty.toString) = some (X.2.1 k) := hra s _ (hC.2.1.2 k _ hk).2
  have e2 : s.vm.findClass ("[" ++ ty.toString) = some cA := hra s _ (hK.2 (ez_tys X).length (cA, ty) (by simp)).2
  have e3 : cA = X.2.1 k := Option.some.inj (e2.symm.trans e1)
  subst e3
  refine ez_sized (fun hH => ?_)
  obtain ⟨rfl, hP1⟩ := ez_fresh (x := .inl (k, N, [])) hS.1 hsz hP hD hH rfl
  have h9 := kk σ.length _ H1 ⟨by rw [List.length_append, hS.1]; rfl, hP1, hS1⟩ (by omega) (by rw [ez_nw_eq] at h; exact h)
  rw [hS.1] at h9
  exact h9
theorem ez_newl {N : Nat} (hC : ez_C p R s m args c X B own cc nL h) (hB : B ≤ s.heap.size) (hS : ez_S X B s.heap n σ H locs) (hsz : s.heap.size + cells = B + n) (harr : Cond.arrayClass .long ∈ tq_tbl) {x : Int32} (hx : ¬ x < 0) (hxn : x.toNatClampNeg = N) (hbytes : N * componentBytes .long ≤ 536870912) (ec : cells + 1 = c1) (es : slots + N = s1) (en : n + 1 = n1) (hcells : c1 ≤ R.cells) (hslots : s1 ≤ R.slots) {g : Nat → ez_H → Option β} (h : ez_nw σ (.inr (.inl (N, []))) g = some z) (hdg : decode cc pc = .ok (.newarray .long, 2))
    (kk : ∀ (a : Nat) (σ1 : ez_H) (H1 : Heap), ez_S X B s.heap n1 σ1 H1 locs → s.heap.size + c1 = B + n1 → g a σ1 = some z → W p l e R s m args below meth c H1 locs c1 s1 Q (F0 m (pc + 2) ls (.ref (B + a) :: rest))) : W p l e R s m args below meth c H locs cells slots Q (F0 m pc ls (.int x :: rest)) := by
  subst ec
  subst es
  subst en
  have hts := hC.1.2.2.2.2
  refine va_newa (D := X.1) (cl := vwCl) (tys := ez_tys X) (ws := ez_ws X B σ) (A := ez_A B) (H0 := s.heap) (atype := .long) (ty := .long) (a0 := (N, .inr (.inl (fun _ => 0)))) hC.1.1 hC.1.2.1 (hts _ (show Cond.arrayClass (newarray.typeOf ArrayType.long) ∈ tq_tbl from harr)) rfl hC.2.1 hS.2.1 ez_D hS.2.2 (fun q hq => Nat.le_trans hB hq) (fun cA => rfl) hx hxn hbytes hcells hslots hdg (fun q cA H1 hK hP hD hS1 => ?_)
  have e1 : s.vm.findClass ("[" ++ FieldType.long.toString) = some (X.2.1 2) := (hC.2.1.2 2 _ rfl).2
  have e2 : s.vm.findClass ("[" ++ FieldType.long.toString) = some cA := (hK.2 (ez_tys X).length (cA, .long) (by simp)).2
  have e3 : cA = X.2.1 2 := Option.some.inj (e2.symm.trans e1)
  subst e3
  refine ez_sized (fun hH => ?_)
  obtain ⟨rfl, hP1⟩ := ez_fresh (x := .inr (.inl (N, []))) hS.1 hsz hP hD hH rfl
  have h9 := kk σ.length _ H1 ⟨by rw [List.length_append, hS.1]; rfl, hP1, hS1⟩ (by omega) (by rw [ez_nw_eq] at h; exact h)
  rw [hS.1] at h9
  exact h9
theorem ez_newq {N index : Nat} (hC : ez_C p R s m args c X B own cc nL h) (hB : B ≤ s.heap.size) (hS : ez_S X B s.heap n σ H locs) (hsz : s.heap.size + cells = B + n) (hlk : Cond.classLink own index "PinPlan$State" ∈ tq_tbl) {x : Int32} (hx : ¬ x < 0) (hxn : x.toNatClampNeg = N) (hbytes : N * 4 ≤ 536870912) (ec : cells + 1 = c1) (es : slots + N = s1) (en : n + 1 = n1) (hcells : c1 ≤ R.cells) (hslots : s1 ≤ R.slots) {g : Nat → ez_H → Option β} (h : ez_nw σ (.inr (.inr (.inl (4, N, [])))) g = some z) (hdg : decode cc pc = .ok (.anewarray index, 3))
    (kk : ∀ (a : Nat) (σ1 : ez_H) (H1 : Heap), ez_S X B s.heap n1 σ1 H1 locs → s.heap.size + c1 = B + n1 → g a σ1 = some z → W p l e R s m args below meth c H1 locs c1 s1 Q (F0 m (pc + 3) ls (.ref (B + a) :: rest))) : W p l e R s m args below meth c H locs cells slots Q (F0 m pc ls (.int x :: rest)) := by
  subst ec
  subst es
  subst en
  have hts := hC.1.2.2.2.2
  refine va_newq (D := X.1) (cl := vwCl) (tys := ez_tys X) (ws := ez_ws X B σ) (A := ez_A B) (H0 := s.heap) hC.1.1 hC.1.2.1 hC.1.2.2.2.1 (hts _ hlk) hC.2.2.2.2.2.2.2.2.1 hC.2.1 hS.2.1 ez_D hS.2.2 (fun q hq => Nat.le_trans hB hq) hx hxn hbytes hcells hslots hdg (fun q cA H1 hK hP hD hS1 => ?_)
  obtain ⟨k1, c1, -, -, -, e1⟩ := (hC.2.1.2 4 _ rfl).2
  obtain ⟨k2, c2, -, -, -, e2⟩ := (hK.2 (ez_tys X).length (cA, .object "PinPlan$State") (by simp)).2
  have e3 : cA = X.2.1 4 := Option.some.inj (e2.symm.trans e1)
  subst e3
  refine ez_sized (fun hH => ?_)
  obtain ⟨rfl, hP1⟩ := ez_fresh (x := .inr (.inr (.inl (4, N, [])))) hS.1 hsz hP hD hH rfl
  have h9 := kk σ.length _ H1 ⟨by rw [List.length_append, hS.1]; rfl, hP1, hS1⟩ (by omega) (by rw [ez_nw_eq] at h; exact h)
  rw [hS.1] at h9
  exact h9
theorem ez_rs_sp {σ σ1 : ez_H} {a v : Nat} {i : Int32} (h : ez_rs σ a i v = some σ1) : ∃ N l fs, σ[a]? = some (.inr (.inr (.inl (4, N, l)))) ∧ vp_in i N ∧ σ[v]? = some (.inr (.inr (.inr (7, fs)))) ∧ σ1 = σ.set a (.inr (.inr (.inl (4, N, ez_put l i.toNatClampNeg (some v))))) := by
  unfold ez_rs at h
  rw [ez_at_eq] at h
  split at h
  · next t1 N l e =>
    cases hb : (Nat.beq t1 4 && ez_inb i N) with
    | true =>
      rw [hb] at h
      rw [Bool.and_eq_true] at hb
      obtain ⟨h1, h2, -⟩ := ez_inb_sp hb.2
      have h3 := Nat.eq_of_beq_eq_true hb.1
      cases ho : ez_ob σ 7 v with
      | none => rw [ho] at h; cases h
      | some fs =>
        rw [ho] at h
        subst h3
        refine ⟨N, l, fs, e, h1, ez_ob_sp ho, ?_⟩
        simp only [cond_true, ez_putK_eq, ez_setK_eq] at h
        rw [h2]
        cases h
        rfl
    | false => rw [hb] at h; cases h
  · cases h
theorem ez_aas {i : Int32} {v : Nat} (hC : ez_C p R s m args c X B own cc nL h) (hS : ez_S X B H0 n σ H locs) {g : ez_H → Option β} (h : ez_bd (ez_rs σ a i v) g = some z) (hdg : decode cc pc = .ok (.aastore, 1))
    (kk : ∀ (σ1 : ez_H) (H1 : Heap) (locs1 : List Loc), ez_S X B H0 n σ1 H1 locs1 → g σ1 = some z → W p l e R s m args below meth c H1 locs1 cells slots Q (F0 m (pc + 1) ls rest)) : W p l e R s m args below meth c H locs cells slots Q (F0 m pc ls (.ref (B + v) :: .int i :: .ref (B + a) :: rest)) := by
  obtain ⟨σ1, e1, h⟩ := ez_bd_sp h
  obtain ⟨N, l0, fs, he, hi, hv, rfl⟩ := ez_rs_sp e1
  refine va_astq (D := X.1) (cl := vwCl) (ws := ez_ws X B σ) hC.1.1 hC.1.2.1 hC.2.1 hS.2.1 ez_D hS.2.2 a 4 v 7 (r := (RX7, TX7, 1)) (vs := fs.map (ez_rv B)) (f := fun j => (ez_get none l0 j).map (fun b => B + b)) (ez_ws_at he) rfl (ez_ws_at hv) rfl hi hdg (fun H1 locs1 hP1 _ hS1 => ?_)
  refine kk _ H1 locs1 ⟨by rw [List.length_set]; exact hS.1, ?_, hS1⟩ h
  rw [← ez_ws_set]
  have e9 : va_up (fun j => (ez_get none l0 j).map (fun b => B + b)) i.toNatClampNeg (some (B + v)) = fun j => (ez_get none (ez_put l0 i.toNatClampNeg (some v)) j).map (fun b => B + b) := by
    funext j
    rw [ez_get_put]
    unfold va_up
    by_cases hj : j = i.toNatClampNeg
    · rw [if_pos hj, if_pos hj]; rfl
    · rw [if_neg hj, if_neg hj]
  rw [e9] at hP1
  exact hP1
theorem ez_tb {t : Nat} (ht : t < 2) (hC : ez_C p R s m args c X B own cc nL h) (hS : ez_S X B s.heap n σ H locs) {i : Int32} {g : Int32 → Option β} (h : ez_bd (ez_tx t i) g = some z) (hdg : decode cc pc = .ok (.baload, 1))
    (kk : ∀ x : Int32, g x = some z → W p l e R s m args below meth c H locs cells slots Q (F0 m (pc + 1) ls (.int x :: rest))) : W p l e R s m args below meth c H locs cells slots Q (F0 m pc ls (.int i :: .ref (X.2.2.2 t) :: rest)) := by
  obtain ⟨x, e1, h⟩ := ez_bd_sp h
  unfold ez_tx at e1
  cases hb : ez_inb i (ez_len.getD t 0) with
  | false => rw [hb] at e1; cases e1
  | true =>
    rw [hb] at e1
    obtain ⟨h1, h2, -⟩ := ez_inb_sp hb
    cases e1
    refine va_tb hC.1.1 hC.1.2.1 (hC.2.2.2.2.1.1 t ht).2.2.2 hS.2.2 h1 rfl hdg ?_
    rw [h2]
    exact kk _ h
theorem ez_toNe {x y : Int32} {k : Int} (q : ¬ x = y) (hk : y.toInt = k) : ¬ x.toInt = k := fun e9 => q (Int32.toInt_inj.mp (e9.trans hk.symm))
end EZN
