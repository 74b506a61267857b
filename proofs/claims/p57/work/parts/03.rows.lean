section TQR
variable {p : Program} {l : Launch} {e : Env} {R : Room} {s : State} {m : MethodId} {args : Array Value} {below : List Frame} {meth : Method} {c : Code} {H : Heap} {locs : List Loc} {cells slots : Nat} {Q : State → Prop}
variable {cc : ByteArray} {pc : Nat} {ls : Array Slot} {rest : List Value} {X : tq_X} {Z : tq_Z} {A : Nat → Prop} {a : Nat} {own : String} {nL h : Nat} {H0 : Heap} {f f0 : Nat → va_E} {wr : List (Nat × Nat)}
theorem tq_getv {Cn : String} {T : u_T} {N ci index : Nat} (hC : tq_C p R s m args c X A own cc nL h) (hS : tq_S X Z A H0 f0 wr f H locs) (ha : tq_z Z a (.inl ci)) (hc : vwCl[ci]? = some (Cn, T, N)) (hin : ∀ w ∈ u_ws Cn T N, w ∈ tq_tbl) (k : Nat) (hk : k < N) (hlk : Cond.fieldLink own index (T k).1 (T k).2.1 (T k).2.2.1 ∈ tq_tbl) {t : tq_T} (hft : tq_F X.2.2.1 ci k = some t) (hdg : decode cc pc = .ok (.getfield index, 3))
    (kk : ∀ v : Value, tq_v Z t v → tq_f f a k v → W p l e R s m args below meth c H locs cells slots Q (F0 m (pc + 3) ls (v :: rest))) : W p l e R s m args below meth c H locs cells slots Q (F0 m pc ls (.ref a :: rest)) := by
  obtain ⟨fs, h1, h2⟩ := tq_at hS.1 ha
  obtain ⟨v, h3, h4⟩ := h2 k t hft
  obtain ⟨i, hi⟩ := va_pl_get (X := []) (f := f) ha.1
  exact va_get (D := X.1) (cl := vwCl) (ws := va_pl Z.1 f) hC.1.1 hC.1.2.1 hC.1.2.2.2.2 hin hC.1.2.2.2.1 hC.2.1 hS.2.1 i (fs := fs) (by rw [← h1]; exact hi) hc k hk (hC.1.2.2.2.2 _ hlk) (fun _ h9 => h9) h3 hdg (kk v h4 ⟨ci, fs, h1, h3⟩)
theorem tq_geti {Cn : String} {T : u_T} {N ci index : Nat} (hC : tq_C p R s m args c X A own cc nL h) (hS : tq_S X Z A H0 f0 wr f H locs) (ha : tq_z Z a (.inl ci)) (hc : vwCl[ci]? = some (Cn, T, N)) (hin : ∀ w ∈ u_ws Cn T N, w ∈ tq_tbl) (k : Nat) (hk : k < N) (hlk : Cond.fieldLink own index (T k).1 (T k).2.1 (T k).2.2.1 ∈ tq_tbl) {P : Int32 → Prop} (hft : tq_F X.2.2.1 ci k = some (.inl P)) (hdg : decode cc pc = .ok (.getfield index, 3))
    (kk : ∀ x : Int32, P x → tq_f f a k (.int x) → W p l e R s m args below meth c H locs cells slots Q (F0 m (pc + 3) ls (.int x :: rest))) : W p l e R s m args below meth c H locs cells slots Q (F0 m pc ls (.ref a :: rest)) :=
  tq_getv hC hS ha hc hin k hk hlk hft hdg (fun v hv hf => by obtain ⟨x, rfl, hp⟩ := hv; exact kk x hp hf)
theorem tq_getl {Cn : String} {T : u_T} {N ci index : Nat} (hC : tq_C p R s m args c X A own cc nL h) (hS : tq_S X Z A H0 f0 wr f H locs) (ha : tq_z Z a (.inl ci)) (hc : vwCl[ci]? = some (Cn, T, N)) (hin : ∀ w ∈ u_ws Cn T N, w ∈ tq_tbl) (k : Nat) (hk : k < N) (hlk : Cond.fieldLink own index (T k).1 (T k).2.1 (T k).2.2.1 ∈ tq_tbl) (hft : tq_F X.2.2.1 ci k = some (.inr (.inl ()))) (hdg : decode cc pc = .ok (.getfield index, 3))
    (kk : ∀ x : Int64, W p l e R s m args below meth c H locs cells slots Q (F0 m (pc + 3) ls (.long x :: rest))) : W p l e R s m args below meth c H locs cells slots Q (F0 m pc ls (.ref a :: rest)) :=
  tq_getv hC hS ha hc hin k hk hlk hft hdg (fun v hv _ => by obtain ⟨x, rfl⟩ := hv; exact kk x)
theorem tq_getr {Cn : String} {T : u_T} {N ci index : Nat} (hC : tq_C p R s m args c X A own cc nL h) (hS : tq_S X Z A H0 f0 wr f H locs) (ha : tq_z Z a (.inl ci)) (hc : vwCl[ci]? = some (Cn, T, N)) (hin : ∀ w ∈ u_ws Cn T N, w ∈ tq_tbl) (k : Nat) (hk : k < N) (hlk : Cond.fieldLink own index (T k).1 (T k).2.1 (T k).2.2.1 ∈ tq_tbl) {g : tq_G} (hft : tq_F X.2.2.1 ci k = some (.inr (.inr g))) (hdg : decode cc pc = .ok (.getfield index, 3))
    (kk : ∀ b : Nat, tq_z Z b g → tq_f f a k (.ref b) → W p l e R s m args below meth c H locs cells slots Q (F0 m (pc + 3) ls (.ref b :: rest))) : W p l e R s m args below meth c H locs cells slots Q (F0 m pc ls (.ref a :: rest)) :=
  tq_getv hC hS ha hc hin k hk hlk hft hdg (fun v hv hf => by obtain ⟨x, rfl, hp⟩ := hv; exact kk x hp hf)
/-- a field that is known -/
theorem tq_getf {Cn : String} {T : u_T} {N ci index : Nat} {v : Value} (hC : tq_C p R s m args c X A own cc nL h) (hS : tq_S X Z A H0 f0 wr f H locs) (ha : tq_z Z a (.inl ci)) (hc : vwCl[ci]? = some (Cn, T, N)) (hin : ∀ w ∈ u_ws Cn T N, w ∈ tq_tbl) (k : Nat) (hk : k < N) (hlk : Cond.fieldLink own index (T k).1 (T k).2.1 (T k).2.2.1 ∈ tq_tbl) (hv : tq_f f a k v) (hdg : decode cc pc = .ok (.getfield index, 3))
    (kk : W p l e R s m args below meth c H locs cells slots Q (F0 m (pc + 3) ls (v :: rest))) : W p l e R s m args below meth c H locs cells slots Q (F0 m pc ls (.ref a :: rest)) := by
  obtain ⟨fs, h1, h2⟩ := tq_at hS.1 ha
  obtain ⟨i, hi⟩ := va_pl_get (X := []) (f := f) ha.1
  obtain ⟨ci2, fs2, h3, h4⟩ := hv
  have e := h1.symm.trans h3
  cases e
  exact va_get (D := X.1) (cl := vwCl) (ws := va_pl Z.1 f) hC.1.1 hC.1.2.1 hC.1.2.2.2.2 hin hC.1.2.2.2.1 hC.2.1 hS.2.1 i (fs := fs) (by rw [← h1]; exact hi) hc k hk (hC.1.2.2.2.2 _ hlk) (fun _ h9 => h9) h4 hdg kk
theorem tq_putv {Cn : String} {T : u_T} {N ci index : Nat} (ty0 : Nat → FieldType) (hC : tq_C p R s m args c X A own cc nL h) (hS : tq_S X Z A H0 f0 wr f H locs) (ha : tq_z Z a (.inl ci)) (hc : vwCl[ci]? = some (Cn, T, N)) (hin : ∀ w ∈ u_ws Cn T N, w ∈ tq_tbl) (hty : ∀ k, k < N → parseFieldDescriptor (T k).2.2.1 = some (ty0 k)) (hnm : ∀ a, a < N → ∀ b, b < N → a ≠ b → (T a).2.1 ≠ (T b).2.1) (k : Nat) (hk : k < N) (hlk : Cond.fieldLink own index (T k).1 (T k).2.1 (T k).2.2.1 ∈ tq_tbl) (hfin : (T k).2.2.2 = false) (hwr : (ci, k) ∈ wr) {v : Value} (hn : narrow (ty0 k) v = v) (hfit : fits (ty0 k) v = true) {t : tq_T} (hft : tq_F X.2.2.1 ci k = some t) (hv : tq_v Z t v) (hdg : decode cc pc = .ok (.putfield index, 3))
    (kk : ∀ (f1 : Nat → va_E) (H1 : Heap) (locs1 : List Loc), tq_S X Z A H0 f0 wr f1 H1 locs1 → tq_f f1 a k v → (∀ (b k2 : Nat) (v2 : Value), (b ≠ a ∨ k2 ≠ k) → tq_f f b k2 v2 → tq_f f1 b k2 v2) → W p l e R s m args below meth c H1 locs1 cells slots Q (F0 m (pc + 3) ls rest)) : W p l e R s m args below meth c H locs cells slots Q (F0 m pc ls (v :: .ref a :: rest)) := by
  obtain ⟨fs, h1, h2⟩ := tq_at hS.1 ha
  obtain ⟨v0, h3, h4⟩ := h2 k t hft
  obtain ⟨i, hi⟩ := va_pl_get (X := []) (f := f) ha.1
  have hi : (va_pl Z.1 f)[i]? = some (a, f a) := hi
  have hl : k < fs.length := (List.getElem?_eq_some_iff.mp h3).1
  have hD := tq_DA hS.1 hS.2.2.2.2
  refine va_put (D := X.1) (cl := vwCl) (ws := va_pl Z.1 f) hC.1.1 hC.1.2.1 hC.1.2.2.2.2 hin ty0 hty hnm hC.1.2.2.2.1 hC.2.1 hS.2.1 hD hS.2.2.1 i (fs := fs) (by rw [← h1]; exact hi) hc k hk (hC.1.2.2.2.2 _ hlk) (fun _ h9 => h9) hfin (hty k hk) hn hfit hl hdg (fun H1 locs1 hP1 hD1 hS1 => ?_)
  have es := va_pl_set (X := []) (e := .inr (ci, fs.set k v)) hD ha.1 hi
  simp only [List.nil_append] at es
  rw [es] at hP1
  have hkeep : ∀ (b k2 : Nat) (v2 : Value), (b ≠ a ∨ k2 ≠ k) → tq_f f b k2 v2 → tq_f (va_up f a (.inr (ci, fs.set k v))) b k2 v2 := fun b k2 v2 hb hf => by
    obtain ⟨ci2, fs2, g1, g2⟩ := hf
    by_cases e : b = a
    · subst e
      have e2 := h1.symm.trans g1
      cases e2
      rcases hb with hb | hb
      · exact absurd rfl hb
      · exact ⟨ci, fs.set k v, va_up_self _ _ _, by rw [List.getElem?_set_ne (Ne.symm hb)]; exact g2⟩
    · exact ⟨ci2, fs2, by rw [va_up_ne _ _ e]; exact g1, g2⟩
  refine kk (va_up f a (.inr (ci, fs.set k v))) H1 locs1 ⟨hS.1.set ha ⟨fs.set k v, rfl, fun k2 t2 ht2 => ?_⟩, hP1, hS1, fun b ci2 k2 v2 hz hn2 hf => hkeep b k2 v2 ?_ (hS.2.2.2.1 b ci2 k2 v2 hz hn2 hf), hS.2.2.2.2⟩ ⟨ci, fs.set k v, va_up_self _ _ _, by simp [hl]⟩ hkeep
  · obtain ⟨w, hw1, hw2⟩ := h2 k2 t2 ht2
    by_cases e : k2 = k
    · subst e
      rw [hft] at ht2
      cases ht2
      exact ⟨v, by simp [hl], hv⟩
    · exact ⟨w, by rw [List.getElem?_set_ne (Ne.symm e)]; exact hw1, hw2⟩
  · by_cases e : b = a
    · subst e
      refine Or.inr (fun e2 => hn2 ?_)
      have e3 : ci2 = ci := Sum.inl.inj (hz.2.symm.trans ha.2)
      rw [e2, e3]
      exact hwr
    · exact Or.inl e
theorem tq_iald {k n : Nat} (hC : tq_C p R s m args c X A own cc nL h) (hS : tq_S X Z A H0 f0 wr f H locs) (ha : tq_z Z a (.inr (.inl (k, n)))) (hk : tq_kc k = 1) {i : Int32} (hi : vp_in i n) (hdg : decode cc pc = .ok (.iaload, 1))
    (kk : ∀ x : Int32, tq_eP k x → W p l e R s m args below meth c H locs cells slots Q (F0 m (pc + 1) ls (.int x :: rest))) : W p l e R s m args below meth c H locs cells slots Q (F0 m pc ls (.int i :: .ref a :: rest)) := by
  obtain ⟨r, h1, h2⟩ := tq_at hS.1 ha
  obtain ⟨j, hj⟩ := va_pl_get (X := []) (f := f) ha.1
  rw [hk] at h1
  exact va_iald (D := X.1) (cl := vwCl) (ws := va_pl Z.1 f) hC.1.1 hC.1.2.1 hC.2.1 hS.2.1 j 1 (by rw [← h1]; exact hj) rfl hi hdg (kk _ (h2 _ (Nat.not_le.mp fun q => hi (Or.inr q))))
theorem tq_bald {k n : Nat} (hC : tq_C p R s m args c X A own cc nL h) (hS : tq_S X Z A H0 f0 wr f H locs) (ha : tq_z Z a (.inr (.inl (k, n)))) (hk : tq_kc k = 0) {i : Int32} (hi : vp_in i n) (hdg : decode cc pc = .ok (.baload, 1))
    (kk : ∀ x : Int32, tq_eP k x → W p l e R s m args below meth c H locs cells slots Q (F0 m (pc + 1) ls (.int x :: rest))) : W p l e R s m args below meth c H locs cells slots Q (F0 m pc ls (.int i :: .ref a :: rest)) := by
  obtain ⟨r, h1, h2⟩ := tq_at hS.1 ha
  obtain ⟨j, hj⟩ := va_pl_get (X := []) (f := f) ha.1
  rw [hk] at h1
  exact va_bald (D := X.1) (cl := vwCl) (ws := va_pl Z.1 f) hC.1.1 hC.1.2.1 hC.2.1 hS.2.1 j 0 (by rw [← h1]; exact hj) rfl hi hdg (kk _ (h2 _ (Nat.not_le.mp fun q => hi (Or.inr q))))
theorem tq_zald {k n : Nat} (hC : tq_C p R s m args c X A own cc nL h) (hS : tq_S X Z A H0 f0 wr f H locs) (ha : tq_z Z a (.inr (.inl (k, n)))) (hk : tq_kc k = 3) {i : Int32} (hi : vp_in i n) (hdg : decode cc pc = .ok (.baload, 1))
    (kk : ∀ x : Int32, tq_eP k x → W p l e R s m args below meth c H locs cells slots Q (F0 m (pc + 1) ls (.int x :: rest))) : W p l e R s m args below meth c H locs cells slots Q (F0 m pc ls (.int i :: .ref a :: rest)) := by
  obtain ⟨r, h1, h2⟩ := tq_at hS.1 ha
  obtain ⟨j, hj⟩ := va_pl_get (X := []) (f := f) ha.1
  rw [hk] at h1
  exact va_zald (D := X.1) (cl := vwCl) (ws := va_pl Z.1 f) hC.1.1 hC.1.2.1 hC.2.1 hS.2.1 j 3 (by rw [← h1]; exact hj) rfl hi hdg (kk _ (h2 _ (Nat.not_le.mp fun q => hi (Or.inr q))))
theorem tq_lald {n : Nat} (hC : tq_C p R s m args c X A own cc nL h) (hS : tq_S X Z A H0 f0 wr f H locs) (ha : tq_z Z a (.inr (.inr (.inl n)))) {i : Int32} (hi : vp_in i n) (hdg : decode cc pc = .ok (.laload, 1))
    (kk : ∀ x : Int64, W p l e R s m args below meth c H locs cells slots Q (F0 m (pc + 1) ls (.long x :: rest))) : W p l e R s m args below meth c H locs cells slots Q (F0 m pc ls (.int i :: .ref a :: rest)) := by
  obtain ⟨r, h1⟩ := tq_at hS.1 ha
  obtain ⟨j, hj⟩ := va_pl_get (X := []) (f := f) ha.1
  exact va_lald (D := X.1) (cl := vwCl) (ws := va_pl Z.1 f) hC.1.1 hC.1.2.1 hC.2.1 hS.2.1 j 2 (by rw [← h1]; exact hj) rfl hi hdg (kk _)
theorem tq_sald {n : Nat} (hC : tq_C p R s m args c X A own cc nL h) (hS : tq_S X Z A H0 f0 wr f H locs) (ha : tq_z Z a (.inr (.inr (.inr (0, n))))) {i : Int32} (hi : vp_in i n) (hdg : decode cc pc = .ok (.aaload, 1))
    (kk : ∀ b : Nat, tq_z Z b (tq_rg 0) → W p l e R s m args below meth c H locs cells slots Q (F0 m (pc + 1) ls (.ref b :: rest))) : W p l e R s m args below meth c H locs cells slots Q (F0 m pc ls (.int i :: .ref a :: rest)) := by
  obtain ⟨r, h1, h2⟩ := tq_at hS.1 ha
  obtain ⟨j, hj⟩ := va_pl_get (X := []) (f := f) ha.1
  obtain ⟨b, hb1, hb2⟩ := h2 _ (Nat.not_le.mp fun q => hi (Or.inr q))
  refine va_aldq (D := X.1) (cl := vwCl) (ws := va_pl Z.1 f) hC.1.1 hC.1.2.1 hC.2.1 hS.2.1 j 4 (by rw [← h1]; exact hj) rfl hi hdg ?_
  rw [hb1]
  exact kk b hb2
theorem tq_aald {n : Nat} (hC : tq_C p R s m args c X A own cc nL h) (hS : tq_S X Z A H0 f0 wr f H locs) (ha : tq_z Z a (.inr (.inr (.inr (1, n))))) {i : Int32} (hi : vp_in i n) (hdg : decode cc pc = .ok (.aaload, 1))
    (kk : ∀ b : Nat, tq_z Z b (tq_rg 1) → W p l e R s m args below meth c H locs cells slots Q (F0 m (pc + 1) ls (.ref b :: rest))) : W p l e R s m args below meth c H locs cells slots Q (F0 m pc ls (.int i :: .ref a :: rest)) := by
  obtain ⟨r, h1, h2⟩ := tq_at hS.1 ha
  obtain ⟨j, hj⟩ := va_pl_get (X := []) (f := f) ha.1
  have hlt : i.toNatClampNeg < n := Nat.not_le.mp fun q => hi (Or.inr q)
  obtain ⟨b, hb1, hb2⟩ := h2 _ hlt
  have h9 : f a = .inl (X.2.1 5, n, .inr (.inr (.inr (.inr r)))) := h1
  have hcell : va_at X.1 vwCl (a, .inl (X.2.1 5, n, .inr (.inr (.inr (.inr r))))) H := hS.2.1 j _ (by rw [← h9]; exact hj)
  have e9 : va_rf (r i.toNatClampNeg) = .ref b := by rw [hb1]; rfl
  refine W.aald (v := va_rf (r i.toNatClampNeg)) (ty := .array .long) hC.1.1 hC.1.2.1 hcell ((hC.2.1.2 5 _ rfl).1 n (fun q => va_rf (r q))) rfl (fun q => by cases q) (by show ¬ (i < 0 ∨ (arrV _ _ _).slots.size ≤ _); rw [arrV_size]; exact hi) (by show (arrV _ _ _).slots[_]? = _; rw [arrV_read _ _ hlt]) rfl rfl hdg ?_
  show W p l e R s m args below meth c H locs cells slots Q (F0 m (pc + 1) ls (va_rf (r i.toNatClampNeg) :: rest))
  rw [e9]
  exact kk b hb2
theorem tq_alenA {k n : Nat} (hC : tq_C p R s m args c X A own cc nL h) (hS : tq_S X Z A H0 f0 wr f H locs) (ha : tq_z Z a (.inr (.inl (k, n)))) (hk : tq_kc k = 1) {v : Int32} (hv : Int32.ofNat n = v) (hdg : decode cc pc = .ok (.arraylength, 1))
    (kk : W p l e R s m args below meth c H locs cells slots Q (F0 m (pc + 1) ls (.int v :: rest))) : W p l e R s m args below meth c H locs cells slots Q (F0 m pc ls (.ref a :: rest)) := by
  obtain ⟨r, h1, -⟩ := tq_at hS.1 ha
  obtain ⟨j, hj⟩ := va_pl_get (X := []) (f := f) ha.1
  rw [hk] at h1
  exact va_alen (D := X.1) (cl := vwCl) (ws := va_pl Z.1 f) hC.1.1 hC.1.2.1 hC.2.1 hS.2.1 j 1 (by rw [← h1]; exact hj) rfl hv hdg kk
theorem tq_alenB {k n : Nat} (hC : tq_C p R s m args c X A own cc nL h) (hS : tq_S X Z A H0 f0 wr f H locs) (ha : tq_z Z a (.inr (.inl (k, n)))) (hk : tq_kc k = 0) {v : Int32} (hv : Int32.ofNat n = v) (hdg : decode cc pc = .ok (.arraylength, 1))
    (kk : W p l e R s m args below meth c H locs cells slots Q (F0 m (pc + 1) ls (.int v :: rest))) : W p l e R s m args below meth c H locs cells slots Q (F0 m pc ls (.ref a :: rest)) := by
  obtain ⟨r, h1, -⟩ := tq_at hS.1 ha
  obtain ⟨j, hj⟩ := va_pl_get (X := []) (f := f) ha.1
  rw [hk] at h1
  exact va_alen (D := X.1) (cl := vwCl) (ws := va_pl Z.1 f) hC.1.1 hC.1.2.1 hC.2.1 hS.2.1 j 0 (by rw [← h1]; exact hj) rfl hv hdg kk
theorem tq_iast {k n : Nat} (hC : tq_C p R s m args c X A own cc nL h) (hS : tq_S X Z A H0 f0 wr f H locs) (ha : tq_z Z a (.inr (.inl (k, n)))) (hk : tq_kc k = 1) {i x : Int32} (hi : vp_in i n) (hx : tq_eP k x) (hdg : decode cc pc = .ok (.iastore, 1))
    (kk : ∀ (f1 : Nat → va_E) (H1 : Heap) (locs1 : List Loc), tq_S X Z A H0 f0 wr f1 H1 locs1 → (∀ (b k2 : Nat) (v2 : Value), b ≠ a → tq_f f b k2 v2 → tq_f f1 b k2 v2) → W p l e R s m args below meth c H1 locs1 cells slots Q (F0 m (pc + 1) ls rest)) : W p l e R s m args below meth c H locs cells slots Q (F0 m pc ls (.int x :: .int i :: .ref a :: rest)) := by
  obtain ⟨r, h1, h2⟩ := tq_at hS.1 ha
  obtain ⟨j, hj⟩ := va_pl_get (X := []) (f := f) ha.1
  have hj : (va_pl Z.1 f)[j]? = some (a, f a) := hj
  have hD := tq_DA hS.1 hS.2.2.2.2
  have h1' := h1
  rw [hk] at h1'
  refine va_iast (D := X.1) (cl := vwCl) (ws := va_pl Z.1 f) hC.1.1 hC.1.2.1 hC.2.1 hS.2.1 hD hS.2.2.1 j 1 (by rw [← h1']; exact hj) rfl hi hdg (fun H1 locs1 hP1 hD1 hS1 => ?_)
  have es := va_pl_set (X := []) (e := .inl (X.2.1 1, n, .inl (upd r i.toNatClampNeg x))) hD ha.1 hj
  simp only [List.nil_append] at es
  rw [es] at hP1
  refine kk _ H1 locs1 ⟨hS.1.set ha ⟨upd r i.toNatClampNeg x, by rw [hk], fun q hq => ?_⟩, hP1, hS1, fun b ci2 k2 v2 hz hn2 hf => (hS.2.2.2.1 b ci2 k2 v2 hz hn2 hf).up (tq_ne hz ha (fun q => by cases q)), hS.2.2.2.2⟩ (fun b k2 v2 hb hf => hf.up hb)
  by_cases e : q = i.toNatClampNeg
  · rw [e, pk_us]; exact hx
  · rw [pk_un e]; exact h2 q hq
theorem tq_bast {k n : Nat} (hC : tq_C p R s m args c X A own cc nL h) (hS : tq_S X Z A H0 f0 wr f H locs) (ha : tq_z Z a (.inr (.inl (k, n)))) (hk : tq_kc k = 0) {i x : Int32} (hi : vp_in i n) (hx : ∀ z, tq_eP k z) (hdg : decode cc pc = .ok (.bastore, 1))
    (kk : ∀ (f1 : Nat → va_E) (H1 : Heap) (locs1 : List Loc), tq_S X Z A H0 f0 wr f1 H1 locs1 → (∀ (b k2 : Nat) (v2 : Value), b ≠ a → tq_f f b k2 v2 → tq_f f1 b k2 v2) → W p l e R s m args below meth c H1 locs1 cells slots Q (F0 m (pc + 1) ls rest)) : W p l e R s m args below meth c H locs cells slots Q (F0 m pc ls (.int x :: .int i :: .ref a :: rest)) := by
  obtain ⟨r, h1, h2⟩ := tq_at hS.1 ha
  obtain ⟨j, hj⟩ := va_pl_get (X := []) (f := f) ha.1
  have hj : (va_pl Z.1 f)[j]? = some (a, f a) := hj
  have hD := tq_DA hS.1 hS.2.2.2.2
  have h1' := h1
  rw [hk] at h1'
  refine va_bast (D := X.1) (cl := vwCl) (ws := va_pl Z.1 f) hC.1.1 hC.1.2.1 hC.2.1 hS.2.1 hD hS.2.2.1 j 0 (by rw [← h1']; exact hj) rfl hi hdg (fun H1 locs1 hP1 hD1 hS1 => ?_)
  have es := va_pl_set (X := []) (e := .inl (X.2.1 0, n, .inl (upd r i.toNatClampNeg (vp_nar .byte x)))) hD ha.1 hj
  simp only [List.nil_append] at es
  rw [es] at hP1
  exact kk _ H1 locs1 ⟨hS.1.set ha ⟨upd r i.toNatClampNeg (vp_nar .byte x), by rw [hk], fun q hq => hx _⟩, hP1, hS1, fun b ci2 k2 v2 hz hn2 hf => (hS.2.2.2.1 b ci2 k2 v2 hz hn2 hf).up (tq_ne hz ha (fun q => by cases q)), hS.2.2.2.2⟩ (fun b k2 v2 hb hf => hf.up hb)
theorem tq_zast {k n : Nat} (hC : tq_C p R s m args c X A own cc nL h) (hS : tq_S X Z A H0 f0 wr f H locs) (ha : tq_z Z a (.inr (.inl (k, n)))) (hk : tq_kc k = 3) {i x : Int32} (hi : vp_in i n) (hx : ∀ z, tq_eP k z) (hdg : decode cc pc = .ok (.bastore, 1))
    (kk : ∀ (f1 : Nat → va_E) (H1 : Heap) (locs1 : List Loc), tq_S X Z A H0 f0 wr f1 H1 locs1 → (∀ (b k2 : Nat) (v2 : Value), b ≠ a → tq_f f b k2 v2 → tq_f f1 b k2 v2) → W p l e R s m args below meth c H1 locs1 cells slots Q (F0 m (pc + 1) ls rest)) : W p l e R s m args below meth c H locs cells slots Q (F0 m pc ls (.int x :: .int i :: .ref a :: rest)) := by
  obtain ⟨r, h1, h2⟩ := tq_at hS.1 ha
  obtain ⟨j, hj⟩ := va_pl_get (X := []) (f := f) ha.1
  have hj : (va_pl Z.1 f)[j]? = some (a, f a) := hj
  have hD := tq_DA hS.1 hS.2.2.2.2
  have h1' := h1
  rw [hk] at h1'
  refine va_zast (D := X.1) (cl := vwCl) (ws := va_pl Z.1 f) hC.1.1 hC.1.2.1 hC.2.1 hS.2.1 hD hS.2.2.1 j 3 (by rw [← h1']; exact hj) rfl hi hdg (fun H1 locs1 hP1 hD1 hS1 => ?_)
  have es := va_pl_set (X := []) (e := .inl (X.2.1 3, n, .inl (upd r i.toNatClampNeg (vp_nar .boolean x)))) hD ha.1 hj
  simp only [List.nil_append] at es
  rw [es] at hP1
  exact kk _ H1 locs1 ⟨hS.1.set ha ⟨upd r i.toNatClampNeg (vp_nar .boolean x), by rw [hk], fun q hq => hx _⟩, hP1, hS1, fun b ci2 k2 v2 hz hn2 hf => (hS.2.2.2.1 b ci2 k2 v2 hz hn2 hf).up (tq_ne hz ha (fun q => by cases q)), hS.2.2.2.2⟩ (fun b k2 v2 hb hf => hf.up hb)
theorem tq_last {n : Nat} (hC : tq_C p R s m args c X A own cc nL h) (hS : tq_S X Z A H0 f0 wr f H locs) (ha : tq_z Z a (.inr (.inr (.inl n)))) {i : Int32} {x : Int64} (hi : vp_in i n) (hdg : decode cc pc = .ok (.lastore, 1))
    (kk : ∀ (f1 : Nat → va_E) (H1 : Heap) (locs1 : List Loc), tq_S X Z A H0 f0 wr f1 H1 locs1 → (∀ (b k2 : Nat) (v2 : Value), b ≠ a → tq_f f b k2 v2 → tq_f f1 b k2 v2) → W p l e R s m args below meth c H1 locs1 cells slots Q (F0 m (pc + 1) ls rest)) : W p l e R s m args below meth c H locs cells slots Q (F0 m pc ls (.long x :: .int i :: .ref a :: rest)) := by
  obtain ⟨r, h1⟩ := tq_at hS.1 ha
  obtain ⟨j, hj⟩ := va_pl_get (X := []) (f := f) ha.1
  have hj : (va_pl Z.1 f)[j]? = some (a, f a) := hj
  have hD := tq_DA hS.1 hS.2.2.2.2
  refine va_last (D := X.1) (cl := vwCl) (ws := va_pl Z.1 f) hC.1.1 hC.1.2.1 hC.2.1 hS.2.1 hD hS.2.2.1 j 2 (by rw [← h1]; exact hj) rfl hi hdg (fun H1 locs1 hP1 hD1 hS1 => ?_)
  have es := va_pl_set (X := []) (e := .inl (X.2.1 2, n, .inr (.inl (vp_updL r i.toNatClampNeg x)))) hD ha.1 hj
  simp only [List.nil_append] at es
  rw [es] at hP1
  exact kk _ H1 locs1 ⟨hS.1.set ha ⟨_, rfl⟩, hP1, hS1, fun b ci2 k2 v2 hz hn2 hf => (hS.2.2.2.1 b ci2 k2 v2 hz hn2 hf).up (tq_ne hz ha (fun q => by cases q)), hS.2.2.2.2⟩ (fun b k2 v2 hb hf => hf.up hb)
theorem tq_callV {wr' : List (Nat × Nat)} {y : MethodName} {cc' : ByteArray} {maxL' h' n index ci N : Nat} {T : u_T} {ret' : Option FieldType} {As st : List Value} {rp : Option Value → Prop} (hC : tq_C p R s m args c X A own cc nL h) (hM : tq_M l X Z f wr' y cc' maxL' ret' h' (.ref a :: As) rp) (hk : tq_KV y cc' maxL' ret' n) (hlk : Cond.methodLink own index y ∈ tq_tbl) (hsub : ∀ q ∈ wr', q ∈ wr) (hn : As.length = n) (hh : h' + 1 ≤ h) (hS : tq_S X Z A s.heap f0 wr f H locs) (ha : tq_z Z a (.inl ci)) (hcl : vwCl[ci]? = some (y.cls, T, N)) (hl : ls.size = nL) (hst : st = As.reverse ++ .ref a :: rest) (hsum : (rest.map fun v => v.category).sum ≤ 8) (hz : cells ≤ R.cells ∧ slots ≤ R.slots) (hdg : decode cc pc = .ok (.invokevirtual index, 3))
    (kk : ∀ (v : Option Value) (f1 : Nat → va_E) (H1 : Heap) (locs1 : List Loc), rp v → tq_S X Z A s.heap f0 wr f1 H1 locs1 → tq_k Z wr' f f1 → W p l e R s m args below meth c H1 locs1 cells slots Q (F0 m (pc + 3) ls (v.toList ++ rest))) : W p l e R s m args below meth c H locs cells slots Q (F0 m pc ls st) := by
  obtain ⟨k1, k2, k3, k4, k5, k6, k7, k8⟩ := hk
  have hts := hC.1.2.2.2.2
  have cw : CallW R s args own y.cls index y cc' maxL' ret' (Cond.code y cc' maxL' ret' :: tq_tbl) (tq_rm h') 0 0 n := ⟨callB_of n hts (tq_goodT k1) rfl rfl rfl (hts _ k4) (hts _ hlk) ⟨k6, k7, k8⟩ ⟨by show h' + 1 ≤ _; have := hC.2.2.1; omega, by show 8 + (maxL' + 11) + 100 * h' ≤ _; have := hC.2.2.2.1; omega⟩, hts _ k2, hts _ k3⟩
  obtain ⟨fs, h1, -⟩ := tq_at hS.1 ha
  obtain ⟨i, hi⟩ := va_pl_get (X := []) (f := f) ha.1
  have hr := va_recv (D := X.1) (cl := vwCl) (ws := va_pl Z.1 f) hC.2.1 hS.2.1 hcl (q0 := i) (a := a) (fs := fs) (by rw [← h1]; exact hi)
  intro T0 hT0 X0
  obtain ⟨v, st₀, t, T', L, h0, X', hL, e1, e2, hq, stp⟩ := va_runV (g := F0 m pc ls st) (As := As) (rest := rest) hC.1 hM cw ⟨tq_blind, hr, fun U hU hW => ⟨rfl, ⟨hS.1, by rw [hU]; exact hS.2.1⟩, va_K.moved hW.alike hC.2.1, hC.2.2.2.2.at hW hU hS.2.2.1 hS.2.2.2.2⟩⟩ rfl hn hl hst (lv_room hsum) hdg ⟨hz.1, hz.2⟩ T0 hT0 X0
  obtain ⟨⟨v', hv, hp, f1, g1, g2, g3⟩, hF1, hF2⟩ := hq
  cases hv
  subst h0
  obtain ⟨t2, a1, b1⟩ := kk v f1 t.heap (locs ++ L) hp ⟨g1, g2, ⟨Nat.le_trans hS.2.2.1.1 hF1, fun q q1 q2 => (hF2 q (Nat.lt_of_lt_of_le q1 hS.2.2.1.1) (fun h9 => q2 (hS.2.2.2.2 q h9))).trans (hS.2.2.1.2.1 q q1 q2), fun q hq => (List.mem_append.mp hq).elim (hS.2.2.1.2.2 q) (fun h9 => hS.2.2.2.2 _ (hL q h9))⟩, hS.2.2.2.1.tr g3 hsub, hS.2.2.2.2⟩ g3 T' e1 X'
  exact ⟨t2, stp t2 a1, b1⟩
theorem tq_callVi {wr' : List (Nat × Nat)} {y : MethodName} {cc' : ByteArray} {maxL' h' n index ci N : Nat} {T : u_T} {ret' : Option FieldType} {As st : List Value} {lo hi : Int} (hC : tq_C p R s m args c X A own cc nL h) (hM : tq_M l X Z f wr' y cc' maxL' ret' h' (.ref a :: As) (tq_ri lo hi)) (hk : tq_KV y cc' maxL' ret' n) (hlk : Cond.methodLink own index y ∈ tq_tbl) (hsub : ∀ q ∈ wr', q ∈ wr) (hn : As.length = n) (hh : h' + 1 ≤ h) (hS : tq_S X Z A s.heap f0 wr f H locs) (ha : tq_z Z a (.inl ci)) (hcl : vwCl[ci]? = some (y.cls, T, N)) (hl : ls.size = nL) (hst : st = As.reverse ++ .ref a :: rest) (hsum : (rest.map fun v => v.category).sum ≤ 8) (hz : cells ≤ R.cells ∧ slots ≤ R.slots) (hdg : decode cc pc = .ok (.invokevirtual index, 3))
    (kk : ∀ (r : Int32) (f1 : Nat → va_E) (H1 : Heap) (locs1 : List Loc), tq_iv lo hi r → tq_S X Z A s.heap f0 wr f1 H1 locs1 → tq_k Z wr' f f1 → W p l e R s m args below meth c H1 locs1 cells slots Q (F0 m (pc + 3) ls (.int r :: rest))) : W p l e R s m args below meth c H locs cells slots Q (F0 m pc ls st) :=
  tq_callV hC hM hk hlk hsub hn hh hS ha hcl hl hst hsum hz hdg (fun v f1 H1 locs1 hv hS1 hk1 => by obtain ⟨r, rfl, hi9⟩ := hv; exact kk r f1 H1 locs1 hi9 hS1 hk1)
theorem tq_callVv {wr' : List (Nat × Nat)} {y : MethodName} {cc' : ByteArray} {maxL' h' n index ci N : Nat} {T : u_T} {ret' : Option FieldType} {As st : List Value}  (hC : tq_C p R s m args c X A own cc nL h) (hM : tq_M l X Z f wr' y cc' maxL' ret' h' (.ref a :: As) tq_rv) (hk : tq_KV y cc' maxL' ret' n) (hlk : Cond.methodLink own index y ∈ tq_tbl) (hsub : ∀ q ∈ wr', q ∈ wr) (hn : As.length = n) (hh : h' + 1 ≤ h) (hS : tq_S X Z A s.heap f0 wr f H locs) (ha : tq_z Z a (.inl ci)) (hcl : vwCl[ci]? = some (y.cls, T, N)) (hl : ls.size = nL) (hst : st = As.reverse ++ .ref a :: rest) (hsum : (rest.map fun v => v.category).sum ≤ 8) (hz : cells ≤ R.cells ∧ slots ≤ R.slots) (hdg : decode cc pc = .ok (.invokevirtual index, 3))
    (kk : ∀  (f1 : Nat → va_E) (H1 : Heap) (locs1 : List Loc),  tq_S X Z A s.heap f0 wr f1 H1 locs1 → tq_k Z wr' f f1 → W p l e R s m args below meth c H1 locs1 cells slots Q (F0 m (pc + 3) ls rest)) : W p l e R s m args below meth c H locs cells slots Q (F0 m pc ls st) :=
  tq_callV hC hM hk hlk hsub hn hh hS ha hcl hl hst hsum hz hdg (fun v f1 H1 locs1 hv hS1 hk1 => by cases hv; exact kk  f1 H1 locs1  hS1 hk1)
theorem tq_callVr {wr' : List (Nat × Nat)} {y : MethodName} {cc' : ByteArray} {maxL' h' n index ci N : Nat} {T : u_T} {ret' : Option FieldType} {As st : List Value} {g : tq_G} (hC : tq_C p R s m args c X A own cc nL h) (hM : tq_M l X Z f wr' y cc' maxL' ret' h' (.ref a :: As) (tq_rr Z g)) (hk : tq_KV y cc' maxL' ret' n) (hlk : Cond.methodLink own index y ∈ tq_tbl) (hsub : ∀ q ∈ wr', q ∈ wr) (hn : As.length = n) (hh : h' + 1 ≤ h) (hS : tq_S X Z A s.heap f0 wr f H locs) (ha : tq_z Z a (.inl ci)) (hcl : vwCl[ci]? = some (y.cls, T, N)) (hl : ls.size = nL) (hst : st = As.reverse ++ .ref a :: rest) (hsum : (rest.map fun v => v.category).sum ≤ 8) (hz : cells ≤ R.cells ∧ slots ≤ R.slots) (hdg : decode cc pc = .ok (.invokevirtual index, 3))
    (kk : ∀ (r : Nat) (f1 : Nat → va_E) (H1 : Heap) (locs1 : List Loc), tq_z Z r g → tq_S X Z A s.heap f0 wr f1 H1 locs1 → tq_k Z wr' f f1 → W p l e R s m args below meth c H1 locs1 cells slots Q (F0 m (pc + 3) ls (.ref r :: rest))) : W p l e R s m args below meth c H locs cells slots Q (F0 m pc ls st) :=
  tq_callV hC hM hk hlk hsub hn hh hS ha hcl hl hst hsum hz hdg (fun v f1 H1 locs1 hv hS1 hk1 => by obtain ⟨r, rfl, hi9⟩ := hv; exact kk r f1 H1 locs1 hi9 hS1 hk1)
theorem tq_callVl {wr' : List (Nat × Nat)} {y : MethodName} {cc' : ByteArray} {maxL' h' n index ci N : Nat} {T : u_T} {ret' : Option FieldType} {As st : List Value}  (hC : tq_C p R s m args c X A own cc nL h) (hM : tq_M l X Z f wr' y cc' maxL' ret' h' (.ref a :: As) tq_rl) (hk : tq_KV y cc' maxL' ret' n) (hlk : Cond.methodLink own index y ∈ tq_tbl) (hsub : ∀ q ∈ wr', q ∈ wr) (hn : As.length = n) (hh : h' + 1 ≤ h) (hS : tq_S X Z A s.heap f0 wr f H locs) (ha : tq_z Z a (.inl ci)) (hcl : vwCl[ci]? = some (y.cls, T, N)) (hl : ls.size = nL) (hst : st = As.reverse ++ .ref a :: rest) (hsum : (rest.map fun v => v.category).sum ≤ 8) (hz : cells ≤ R.cells ∧ slots ≤ R.slots) (hdg : decode cc pc = .ok (.invokevirtual index, 3))
    (kk : ∀ (r : Int64) (f1 : Nat → va_E) (H1 : Heap) (locs1 : List Loc),  tq_S X Z A s.heap f0 wr f1 H1 locs1 → tq_k Z wr' f f1 → W p l e R s m args below meth c H1 locs1 cells slots Q (F0 m (pc + 3) ls (.long r :: rest))) : W p l e R s m args below meth c H locs cells slots Q (F0 m pc ls st) :=
  tq_callV hC hM hk hlk hsub hn hh hS ha hcl hl hst hsum hz hdg (fun v f1 H1 locs1 hv hS1 hk1 => by obtain ⟨r, rfl⟩ := hv; exact kk r f1 H1 locs1  hS1 hk1)
theorem tq_callVp {y : MethodName} {cc' : ByteArray} {maxL' h' n index ci N : Nat} {T : u_T} {ret' : Option FieldType} {As st : List Value} {rp : Option Value → Prop} (hC : tq_C p R s m args c X A own cc nL h) (hM : tq_Mp l X Z f y cc' maxL' ret' h' (.ref a :: As) rp) (hk : tq_KV y cc' maxL' ret' n) (hlk : Cond.methodLink own index y ∈ tq_tbl) (hn : As.length = n) (hh : h' + 1 ≤ h) (hS : tq_S X Z A s.heap f0 wr f H locs) (ha : tq_z Z a (.inl ci)) (hcl : vwCl[ci]? = some (y.cls, T, N)) (hl : ls.size = nL) (hst : st = As.reverse ++ .ref a :: rest) (hsum : (rest.map fun v => v.category).sum ≤ 8) (hz : cells ≤ R.cells ∧ slots ≤ R.slots) (hdg : decode cc pc = .ok (.invokevirtual index, 3))
    (kk : ∀ (v : Option Value), rp v → W p l e R s m args below meth c H locs cells slots Q (F0 m (pc + 3) ls (v.toList ++ rest))) : W p l e R s m args below meth c H locs cells slots Q (F0 m pc ls st) := by
  obtain ⟨k1, k2, k3, k4, k5, k6, k7, k8⟩ := hk
  have hts := hC.1.2.2.2.2
  have cw : CallW R s args own y.cls index y cc' maxL' ret' (Cond.code y cc' maxL' ret' :: tq_tbl) (tq_rm h') 0 0 n := ⟨callB_of n hts (tq_goodT k1) rfl rfl rfl (hts _ k4) (hts _ hlk) ⟨k6, k7, k8⟩ ⟨by show h' + 1 ≤ _; have := hC.2.2.1; omega, by show 8 + (maxL' + 11) + 100 * h' ≤ _; have := hC.2.2.2.1; omega⟩, hts _ k2, hts _ k3⟩
  obtain ⟨fs, h1, -⟩ := tq_at hS.1 ha
  obtain ⟨i, hi⟩ := va_pl_get (X := []) (f := f) ha.1
  have hr := va_recv (D := X.1) (cl := vwCl) (ws := va_pl Z.1 f) hC.2.1 hS.2.1 hcl (q0 := i) (a := a) (fs := fs) (by rw [← h1]; exact hi)
  intro T0 hT0 X0
  obtain ⟨v, st₀, t, T', L, h0, X', hL, e1, e2, hq, stp⟩ := va_runV (g := F0 m pc ls st) (As := As) (rest := rest) hC.1 hM cw ⟨tq_blind, hr, fun U hU hW => ⟨rfl, ⟨hS.1, by rw [hU]; exact hS.2.1⟩, va_K.moved hW.alike hC.2.1, hC.2.2.2.2.at hW hU hS.2.2.1 hS.2.2.2.2⟩⟩ rfl hn hl hst (lv_room hsum) hdg ⟨hz.1, hz.2⟩ T0 hT0 X0
  obtain ⟨v', hv, hp, hh9⟩ := hq
  cases hv
  obtain ⟨t2, a1, b1⟩ := kk v hp T' (by rw [e1, hh9, h0]) (Stand.forget X' (fun q h => (hL q h).elim))
  exact ⟨t2, stp t2 a1, b1⟩
theorem tq_callVpi {y : MethodName} {cc' : ByteArray} {maxL' h' n index ci N : Nat} {T : u_T} {ret' : Option FieldType} {As st : List Value} {lo hi : Int} (hC : tq_C p R s m args c X A own cc nL h) (hM : tq_Mp l X Z f y cc' maxL' ret' h' (.ref a :: As) (tq_ri lo hi)) (hk : tq_KV y cc' maxL' ret' n) (hlk : Cond.methodLink own index y ∈ tq_tbl) (hn : As.length = n) (hh : h' + 1 ≤ h) (hS : tq_S X Z A s.heap f0 wr f H locs) (ha : tq_z Z a (.inl ci)) (hcl : vwCl[ci]? = some (y.cls, T, N)) (hl : ls.size = nL) (hst : st = As.reverse ++ .ref a :: rest) (hsum : (rest.map fun v => v.category).sum ≤ 8) (hz : cells ≤ R.cells ∧ slots ≤ R.slots) (hdg : decode cc pc = .ok (.invokevirtual index, 3))
    (kk : ∀ (r : Int32), tq_iv lo hi r → W p l e R s m args below meth c H locs cells slots Q (F0 m (pc + 3) ls (.int r :: rest))) : W p l e R s m args below meth c H locs cells slots Q (F0 m pc ls st) :=
  tq_callVp hC hM hk hlk hn hh hS ha hcl hl hst hsum hz hdg (fun v hv => by obtain ⟨r, rfl, hi9⟩ := hv; exact kk r hi9)
theorem tq_callVpv {y : MethodName} {cc' : ByteArray} {maxL' h' n index ci N : Nat} {T : u_T} {ret' : Option FieldType} {As st : List Value}  (hC : tq_C p R s m args c X A own cc nL h) (hM : tq_Mp l X Z f y cc' maxL' ret' h' (.ref a :: As) tq_rv) (hk : tq_KV y cc' maxL' ret' n) (hlk : Cond.methodLink own index y ∈ tq_tbl) (hn : As.length = n) (hh : h' + 1 ≤ h) (hS : tq_S X Z A s.heap f0 wr f H locs) (ha : tq_z Z a (.inl ci)) (hcl : vwCl[ci]? = some (y.cls, T, N)) (hl : ls.size = nL) (hst : st = As.reverse ++ .ref a :: rest) (hsum : (rest.map fun v => v.category).sum ≤ 8) (hz : cells ≤ R.cells ∧ slots ≤ R.slots) (hdg : decode cc pc = .ok (.invokevirtual index, 3))
    (kk :  W p l e R s m args below meth c H locs cells slots Q (F0 m (pc + 3) ls rest)) : W p l e R s m args below meth c H locs cells slots Q (F0 m pc ls st) :=
  tq_callVp hC hM hk hlk hn hh hS ha hcl hl hst hsum hz hdg (fun v hv => by cases hv; exact kk  )
theorem tq_callVpr {y : MethodName} {cc' : ByteArray} {maxL' h' n index ci N : Nat} {T : u_T} {ret' : Option FieldType} {As st : List Value} {g : tq_G} (hC : tq_C p R s m args c X A own cc nL h) (hM : tq_Mp l X Z f y cc' maxL' ret' h' (.ref a :: As) (tq_rr Z g)) (hk : tq_KV y cc' maxL' ret' n) (hlk : Cond.methodLink own index y ∈ tq_tbl) (hn : As.length = n) (hh : h' + 1 ≤ h) (hS : tq_S X Z A s.heap f0 wr f H locs) (ha : tq_z Z a (.inl ci)) (hcl : vwCl[ci]? = some (y.cls, T, N)) (hl : ls.size = nL) (hst : st = As.reverse ++ .ref a :: rest) (hsum : (rest.map fun v => v.category).sum ≤ 8) (hz : cells ≤ R.cells ∧ slots ≤ R.slots) (hdg : decode cc pc = .ok (.invokevirtual index, 3))
    (kk : ∀ (r : Nat), tq_z Z r g → W p l e R s m args below meth c H locs cells slots Q (F0 m (pc + 3) ls (.ref r :: rest))) : W p l e R s m args below meth c H locs cells slots Q (F0 m pc ls st) :=
  tq_callVp hC hM hk hlk hn hh hS ha hcl hl hst hsum hz hdg (fun v hv => by obtain ⟨r, rfl, hi9⟩ := hv; exact kk r hi9)
theorem tq_callVpl {y : MethodName} {cc' : ByteArray} {maxL' h' n index ci N : Nat} {T : u_T} {ret' : Option FieldType} {As st : List Value}  (hC : tq_C p R s m args c X A own cc nL h) (hM : tq_Mp l X Z f y cc' maxL' ret' h' (.ref a :: As) tq_rl) (hk : tq_KV y cc' maxL' ret' n) (hlk : Cond.methodLink own index y ∈ tq_tbl) (hn : As.length = n) (hh : h' + 1 ≤ h) (hS : tq_S X Z A s.heap f0 wr f H locs) (ha : tq_z Z a (.inl ci)) (hcl : vwCl[ci]? = some (y.cls, T, N)) (hl : ls.size = nL) (hst : st = As.reverse ++ .ref a :: rest) (hsum : (rest.map fun v => v.category).sum ≤ 8) (hz : cells ≤ R.cells ∧ slots ≤ R.slots) (hdg : decode cc pc = .ok (.invokevirtual index, 3))
    (kk : ∀ (r : Int64),  W p l e R s m args below meth c H locs cells slots Q (F0 m (pc + 3) ls (.long r :: rest))) : W p l e R s m args below meth c H locs cells slots Q (F0 m pc ls st) :=
  tq_callVp hC hM hk hlk hn hh hS ha hcl hl hst hsum hz hdg (fun v hv => by obtain ⟨r, rfl⟩ := hv; exact kk r )
theorem tq_callS {wr' : List (Nat × Nat)} {y : MethodName} {cc' : ByteArray} {maxL' h' n index : Nat} {ret' : Option FieldType} {As st : List Value} {rp : Option Value → Prop} (hC : tq_C p R s m args c X A own cc nL h) (hM : tq_M l X Z f wr' y cc' maxL' ret' h' As rp) (hk : tq_KS y cc' maxL' ret' n) (hlk : Cond.methodLink own index y ∈ tq_tbl) (hsub : ∀ q ∈ wr', q ∈ wr) (hn : As.length = n) (hh : h' + 1 ≤ h) (hS : tq_S X Z A s.heap f0 wr f H locs) (hl : ls.size = nL) (hst : st = As.reverse ++ rest) (hsum : (rest.map fun v => v.category).sum ≤ 8) (hz : cells ≤ R.cells ∧ slots ≤ R.slots) (hdg : decode cc pc = .ok (.invokestatic index, 3))
    (kk : ∀ (v : Option Value) (f1 : Nat → va_E) (H1 : Heap) (locs1 : List Loc), rp v → tq_S X Z A s.heap f0 wr f1 H1 locs1 → tq_k Z wr' f f1 → W p l e R s m args below meth c H1 locs1 cells slots Q (F0 m (pc + 3) ls (v.toList ++ rest))) : W p l e R s m args below meth c H locs cells slots Q (F0 m pc ls st) := by
  obtain ⟨k1, k2, k4, k5, k6, k7, k8⟩ := hk
  have hts := hC.1.2.2.2.2
  have cw : CallB R s args own index y cc' maxL' ret' (Cond.code y cc' maxL' ret' :: tq_tbl) (tq_rm h') 0 0 n ∧ (Cond.static y).before args s = true := ⟨callB_of n hts (tq_goodT k1) rfl rfl rfl (hts _ k4) (hts _ hlk) ⟨k6, k7, k8⟩ ⟨by show h' + 1 ≤ _; have := hC.2.2.1; omega, by show 8 + (maxL' + 11) + 100 * h' ≤ _; have := hC.2.2.2.1; omega⟩, hts _ k2⟩
  intro T0 hT0 X0
  obtain ⟨v, st₀, t, T', L, h0, X', hL, e1, e2, hq, stp⟩ := va_runS (g := F0 m pc ls st) (As := As) (rest := rest) hC.1 hM cw ⟨tq_blind, fun U hU hW => ⟨rfl, ⟨hS.1, by rw [hU]; exact hS.2.1⟩, va_K.moved hW.alike hC.2.1, hC.2.2.2.2.at hW hU hS.2.2.1 hS.2.2.2.2⟩⟩ rfl hn hl hst (lv_room hsum) hdg ⟨hz.1, hz.2⟩ T0 hT0 X0
  obtain ⟨⟨v', hv, hp, f1, g1, g2, g3⟩, hF1, hF2⟩ := hq
  cases hv
  subst h0
  obtain ⟨t2, a1, b1⟩ := kk v f1 t.heap (locs ++ L) hp ⟨g1, g2, ⟨Nat.le_trans hS.2.2.1.1 hF1, fun q q1 q2 => (hF2 q (Nat.lt_of_lt_of_le q1 hS.2.2.1.1) (fun h9 => q2 (hS.2.2.2.2 q h9))).trans (hS.2.2.1.2.1 q q1 q2), fun q hq => (List.mem_append.mp hq).elim (hS.2.2.1.2.2 q) (fun h9 => hS.2.2.2.2 _ (hL q h9))⟩, hS.2.2.2.1.tr g3 hsub, hS.2.2.2.2⟩ g3 T' e1 X'
  exact ⟨t2, stp t2 a1, b1⟩
theorem tq_callSi {wr' : List (Nat × Nat)} {y : MethodName} {cc' : ByteArray} {maxL' h' n index : Nat} {ret' : Option FieldType} {As st : List Value} {lo hi : Int} (hC : tq_C p R s m args c X A own cc nL h) (hM : tq_M l X Z f wr' y cc' maxL' ret' h' As (tq_ri lo hi)) (hk : tq_KS y cc' maxL' ret' n) (hlk : Cond.methodLink own index y ∈ tq_tbl) (hsub : ∀ q ∈ wr', q ∈ wr) (hn : As.length = n) (hh : h' + 1 ≤ h) (hS : tq_S X Z A s.heap f0 wr f H locs) (hl : ls.size = nL) (hst : st = As.reverse ++ rest) (hsum : (rest.map fun v => v.category).sum ≤ 8) (hz : cells ≤ R.cells ∧ slots ≤ R.slots) (hdg : decode cc pc = .ok (.invokestatic index, 3))
    (kk : ∀ (r : Int32) (f1 : Nat → va_E) (H1 : Heap) (locs1 : List Loc), tq_iv lo hi r → tq_S X Z A s.heap f0 wr f1 H1 locs1 → tq_k Z wr' f f1 → W p l e R s m args below meth c H1 locs1 cells slots Q (F0 m (pc + 3) ls (.int r :: rest))) : W p l e R s m args below meth c H locs cells slots Q (F0 m pc ls st) :=
  tq_callS hC hM hk hlk hsub hn hh hS hl hst hsum hz hdg (fun v f1 H1 locs1 hv hS1 hk1 => by obtain ⟨r, rfl, hi9⟩ := hv; exact kk r f1 H1 locs1 hi9 hS1 hk1)
theorem tq_callSv {wr' : List (Nat × Nat)} {y : MethodName} {cc' : ByteArray} {maxL' h' n index : Nat} {ret' : Option FieldType} {As st : List Value}  (hC : tq_C p R s m args c X A own cc nL h) (hM : tq_M l X Z f wr' y cc' maxL' ret' h' As tq_rv) (hk : tq_KS y cc' maxL' ret' n) (hlk : Cond.methodLink own index y ∈ tq_tbl) (hsub : ∀ q ∈ wr', q ∈ wr) (hn : As.length = n) (hh : h' + 1 ≤ h) (hS : tq_S X Z A s.heap f0 wr f H locs) (hl : ls.size = nL) (hst : st = As.reverse ++ rest) (hsum : (rest.map fun v => v.category).sum ≤ 8) (hz : cells ≤ R.cells ∧ slots ≤ R.slots) (hdg : decode cc pc = .ok (.invokestatic index, 3))
    (kk : ∀  (f1 : Nat → va_E) (H1 : Heap) (locs1 : List Loc),  tq_S X Z A s.heap f0 wr f1 H1 locs1 → tq_k Z wr' f f1 → W p l e R s m args below meth c H1 locs1 cells slots Q (F0 m (pc + 3) ls rest)) : W p l e R s m args below meth c H locs cells slots Q (F0 m pc ls st) :=
  tq_callS hC hM hk hlk hsub hn hh hS hl hst hsum hz hdg (fun v f1 H1 locs1 hv hS1 hk1 => by cases hv; exact kk  f1 H1 locs1  hS1 hk1)
theorem tq_callSr {wr' : List (Nat × Nat)} {y : MethodName} {cc' : ByteArray} {maxL' h' n index : Nat} {ret' : Option FieldType} {As st : List Value} {g : tq_G} (hC : tq_C p R s m args c X A own cc nL h) (hM : tq_M l X Z f wr' y cc' maxL' ret' h' As (tq_rr Z g)) (hk : tq_KS y cc' maxL' ret' n) (hlk : Cond.methodLink own index y ∈ tq_tbl) (hsub : ∀ q ∈ wr', q ∈ wr) (hn : As.length = n) (hh : h' + 1 ≤ h) (hS : tq_S X Z A s.heap f0 wr f H locs) (hl : ls.size = nL) (hst : st = As.reverse ++ rest) (hsum : (rest.map fun v => v.category).sum ≤ 8) (hz : cells ≤ R.cells ∧ slots ≤ R.slots) (hdg : decode cc pc = .ok (.invokestatic index, 3))
    (kk : ∀ (r : Nat) (f1 : Nat → va_E) (H1 : Heap) (locs1 : List Loc), tq_z Z r g → tq_S X Z A s.heap f0 wr f1 H1 locs1 → tq_k Z wr' f f1 → W p l e R s m args below meth c H1 locs1 cells slots Q (F0 m (pc + 3) ls (.ref r :: rest))) : W p l e R s m args below meth c H locs cells slots Q (F0 m pc ls st) :=
  tq_callS hC hM hk hlk hsub hn hh hS hl hst hsum hz hdg (fun v f1 H1 locs1 hv hS1 hk1 => by obtain ⟨r, rfl, hi9⟩ := hv; exact kk r f1 H1 locs1 hi9 hS1 hk1)
theorem tq_callSl {wr' : List (Nat × Nat)} {y : MethodName} {cc' : ByteArray} {maxL' h' n index : Nat} {ret' : Option FieldType} {As st : List Value}  (hC : tq_C p R s m args c X A own cc nL h) (hM : tq_M l X Z f wr' y cc' maxL' ret' h' As tq_rl) (hk : tq_KS y cc' maxL' ret' n) (hlk : Cond.methodLink own index y ∈ tq_tbl) (hsub : ∀ q ∈ wr', q ∈ wr) (hn : As.length = n) (hh : h' + 1 ≤ h) (hS : tq_S X Z A s.heap f0 wr f H locs) (hl : ls.size = nL) (hst : st = As.reverse ++ rest) (hsum : (rest.map fun v => v.category).sum ≤ 8) (hz : cells ≤ R.cells ∧ slots ≤ R.slots) (hdg : decode cc pc = .ok (.invokestatic index, 3))
    (kk : ∀ (r : Int64) (f1 : Nat → va_E) (H1 : Heap) (locs1 : List Loc),  tq_S X Z A s.heap f0 wr f1 H1 locs1 → tq_k Z wr' f f1 → W p l e R s m args below meth c H1 locs1 cells slots Q (F0 m (pc + 3) ls (.long r :: rest))) : W p l e R s m args below meth c H locs cells slots Q (F0 m pc ls st) :=
  tq_callS hC hM hk hlk hsub hn hh hS hl hst hsum hz hdg (fun v f1 H1 locs1 hv hS1 hk1 => by obtain ⟨r, rfl⟩ := hv; exact kk r f1 H1 locs1  hS1 hk1)
theorem tq_callSp {y : MethodName} {cc' : ByteArray} {maxL' h' n index : Nat} {ret' : Option FieldType} {As st : List Value} {rp : Option Value → Prop} (hC : tq_C p R s m args c X A own cc nL h) (hM : tq_Mp l X Z f y cc' maxL' ret' h' As rp) (hk : tq_KS y cc' maxL' ret' n) (hlk : Cond.methodLink own index y ∈ tq_tbl) (hn : As.length = n) (hh : h' + 1 ≤ h) (hS : tq_S X Z A s.heap f0 wr f H locs) (hl : ls.size = nL) (hst : st = As.reverse ++ rest) (hsum : (rest.map fun v => v.category).sum ≤ 8) (hz : cells ≤ R.cells ∧ slots ≤ R.slots) (hdg : decode cc pc = .ok (.invokestatic index, 3))
    (kk : ∀ (v : Option Value), rp v → W p l e R s m args below meth c H locs cells slots Q (F0 m (pc + 3) ls (v.toList ++ rest))) : W p l e R s m args below meth c H locs cells slots Q (F0 m pc ls st) := by
  obtain ⟨k1, k2, k4, k5, k6, k7, k8⟩ := hk
  have hts := hC.1.2.2.2.2
  have cw : CallB R s args own index y cc' maxL' ret' (Cond.code y cc' maxL' ret' :: tq_tbl) (tq_rm h') 0 0 n ∧ (Cond.static y).before args s = true := ⟨callB_of n hts (tq_goodT k1) rfl rfl rfl (hts _ k4) (hts _ hlk) ⟨k6, k7, k8⟩ ⟨by show h' + 1 ≤ _; have := hC.2.2.1; omega, by show 8 + (maxL' + 11) + 100 * h' ≤ _; have := hC.2.2.2.1; omega⟩, hts _ k2⟩
  intro T0 hT0 X0
  obtain ⟨v, st₀, t, T', L, h0, X', hL, e1, e2, hq, stp⟩ := va_runS (g := F0 m pc ls st) (As := As) (rest := rest) hC.1 hM cw ⟨tq_blind, fun U hU hW => ⟨rfl, ⟨hS.1, by rw [hU]; exact hS.2.1⟩, va_K.moved hW.alike hC.2.1, hC.2.2.2.2.at hW hU hS.2.2.1 hS.2.2.2.2⟩⟩ rfl hn hl hst (lv_room hsum) hdg ⟨hz.1, hz.2⟩ T0 hT0 X0
  obtain ⟨v', hv, hp, hh9⟩ := hq
  cases hv
  obtain ⟨t2, a1, b1⟩ := kk v hp T' (by rw [e1, hh9, h0]) (Stand.forget X' (fun q h => (hL q h).elim))
  exact ⟨t2, stp t2 a1, b1⟩
theorem tq_callSpi {y : MethodName} {cc' : ByteArray} {maxL' h' n index : Nat} {ret' : Option FieldType} {As st : List Value} {lo hi : Int} (hC : tq_C p R s m args c X A own cc nL h) (hM : tq_Mp l X Z f y cc' maxL' ret' h' As (tq_ri lo hi)) (hk : tq_KS y cc' maxL' ret' n) (hlk : Cond.methodLink own index y ∈ tq_tbl) (hn : As.length = n) (hh : h' + 1 ≤ h) (hS : tq_S X Z A s.heap f0 wr f H locs) (hl : ls.size = nL) (hst : st = As.reverse ++ rest) (hsum : (rest.map fun v => v.category).sum ≤ 8) (hz : cells ≤ R.cells ∧ slots ≤ R.slots) (hdg : decode cc pc = .ok (.invokestatic index, 3))
    (kk : ∀ (r : Int32), tq_iv lo hi r → W p l e R s m args below meth c H locs cells slots Q (F0 m (pc + 3) ls (.int r :: rest))) : W p l e R s m args below meth c H locs cells slots Q (F0 m pc ls st) :=
  tq_callSp hC hM hk hlk hn hh hS hl hst hsum hz hdg (fun v hv => by obtain ⟨r, rfl, hi9⟩ := hv; exact kk r hi9)
theorem tq_callSpv {y : MethodName} {cc' : ByteArray} {maxL' h' n index : Nat} {ret' : Option FieldType} {As st : List Value}  (hC : tq_C p R s m args c X A own cc nL h) (hM : tq_Mp l X Z f y cc' maxL' ret' h' As tq_rv) (hk : tq_KS y cc' maxL' ret' n) (hlk : Cond.methodLink own index y ∈ tq_tbl) (hn : As.length = n) (hh : h' + 1 ≤ h) (hS : tq_S X Z A s.heap f0 wr f H locs) (hl : ls.size = nL) (hst : st = As.reverse ++ rest) (hsum : (rest.map fun v => v.category).sum ≤ 8) (hz : cells ≤ R.cells ∧ slots ≤ R.slots) (hdg : decode cc pc = .ok (.invokestatic index, 3))
    (kk :  W p l e R s m args below meth c H locs cells slots Q (F0 m (pc + 3) ls rest)) : W p l e R s m args below meth c H locs cells slots Q (F0 m pc ls st) :=
  tq_callSp hC hM hk hlk hn hh hS hl hst hsum hz hdg (fun v hv => by cases hv; exact kk  )
theorem tq_callSpr {y : MethodName} {cc' : ByteArray} {maxL' h' n index : Nat} {ret' : Option FieldType} {As st : List Value} {g : tq_G} (hC : tq_C p R s m args c X A own cc nL h) (hM : tq_Mp l X Z f y cc' maxL' ret' h' As (tq_rr Z g)) (hk : tq_KS y cc' maxL' ret' n) (hlk : Cond.methodLink own index y ∈ tq_tbl) (hn : As.length = n) (hh : h' + 1 ≤ h) (hS : tq_S X Z A s.heap f0 wr f H locs) (hl : ls.size = nL) (hst : st = As.reverse ++ rest) (hsum : (rest.map fun v => v.category).sum ≤ 8) (hz : cells ≤ R.cells ∧ slots ≤ R.slots) (hdg : decode cc pc = .ok (.invokestatic index, 3))
    (kk : ∀ (r : Nat), tq_z Z r g → W p l e R s m args below meth c H locs cells slots Q (F0 m (pc + 3) ls (.ref r :: rest))) : W p l e R s m args below meth c H locs cells slots Q (F0 m pc ls st) :=
  tq_callSp hC hM hk hlk hn hh hS hl hst hsum hz hdg (fun v hv => by obtain ⟨r, rfl, hi9⟩ := hv; exact kk r hi9)
theorem tq_callSpl {y : MethodName} {cc' : ByteArray} {maxL' h' n index : Nat} {ret' : Option FieldType} {As st : List Value}  (hC : tq_C p R s m args c X A own cc nL h) (hM : tq_Mp l X Z f y cc' maxL' ret' h' As tq_rl) (hk : tq_KS y cc' maxL' ret' n) (hlk : Cond.methodLink own index y ∈ tq_tbl) (hn : As.length = n) (hh : h' + 1 ≤ h) (hS : tq_S X Z A s.heap f0 wr f H locs) (hl : ls.size = nL) (hst : st = As.reverse ++ rest) (hsum : (rest.map fun v => v.category).sum ≤ 8) (hz : cells ≤ R.cells ∧ slots ≤ R.slots) (hdg : decode cc pc = .ok (.invokestatic index, 3))
    (kk : ∀ (r : Int64),  W p l e R s m args below meth c H locs cells slots Q (F0 m (pc + 3) ls (.long r :: rest))) : W p l e R s m args below meth c H locs cells slots Q (F0 m pc ls st) :=
  tq_callSp hC hM hk hlk hn hh hS hl hst hsum hz hdg (fun v hv => by obtain ⟨r, rfl⟩ := hv; exact kk r )
theorem tq_callUp {y : MethodName} {cc' : ByteArray} {maxL' h' n index : Nat} {ret' : Option FieldType} {As st : List Value} {rp : Option Value → Prop} (hC : tq_C p R s m args c X A own cc nL h) (hM : tq_Mp l X Z f y cc' maxL' ret' h' (.ref a :: As) rp) (hk : tq_KV y cc' maxL' ret' n) (hlk : Cond.methodLink own index y ∈ tq_tbl) (hn : As.length = n) (hh : h' + 1 ≤ h) (hS : tq_S X Z A s.heap f0 wr f H locs) (hr : ∃ cell : Cell, H[a]? = some cell ∧ cell.vm.isStatics = false ∧ s.vm.findClass y.cls = some cell.cls) (hl : ls.size = nL) (hst : st = As.reverse ++ .ref a :: rest) (hsum : (rest.map fun v => v.category).sum ≤ 8) (hz : cells ≤ R.cells ∧ slots ≤ R.slots) (hdg : decode cc pc = .ok (.invokevirtual index, 3))
    (kk : ∀ (v : Option Value), rp v → W p l e R s m args below meth c H locs cells slots Q (F0 m (pc + 3) ls (v.toList ++ rest))) : W p l e R s m args below meth c H locs cells slots Q (F0 m pc ls st) := by
  obtain ⟨k1, k2, k3, k4, k5, k6, k7, k8⟩ := hk
  have hts := hC.1.2.2.2.2
  have cw : CallW R s args own y.cls index y cc' maxL' ret' (Cond.code y cc' maxL' ret' :: tq_tbl) (tq_rm h') 0 0 n := ⟨callB_of n hts (tq_goodT k1) rfl rfl rfl (hts _ k4) (hts _ hlk) ⟨k6, k7, k8⟩ ⟨by show h' + 1 ≤ _; have := hC.2.2.1; omega, by show 8 + (maxL' + 11) + 100 * h' ≤ _; have := hC.2.2.2.1; omega⟩, hts _ k2, hts _ k3⟩
  intro T0 hT0 X0
  obtain ⟨v, st₀, t, T', L, h0, X', hL, e1, e2, hq, stp⟩ := va_runV (g := F0 m pc ls st) (As := As) (rest := rest) hC.1 hM cw ⟨tq_blind, hr, fun U hU hW => ⟨rfl, ⟨hS.1, by rw [hU]; exact hS.2.1⟩, va_K.moved hW.alike hC.2.1, hC.2.2.2.2.at hW hU hS.2.2.1 hS.2.2.2.2⟩⟩ rfl hn hl hst (lv_room hsum) hdg ⟨hz.1, hz.2⟩ T0 hT0 X0
  obtain ⟨v', hv, hp, hh9⟩ := hq
  cases hv
  obtain ⟨t2, a1, b1⟩ := kk v hp T' (by rw [e1, hh9, h0]) (Stand.forget X' (fun q h => (hL q h).elim))
  exact ⟨t2, stp t2 a1, b1⟩
theorem tq_callUpi {y : MethodName} {cc' : ByteArray} {maxL' h' n index : Nat} {ret' : Option FieldType} {As st : List Value} {lo hi : Int} (hC : tq_C p R s m args c X A own cc nL h) (hM : tq_Mp l X Z f y cc' maxL' ret' h' (.ref a :: As) (tq_ri lo hi)) (hk : tq_KV y cc' maxL' ret' n) (hlk : Cond.methodLink own index y ∈ tq_tbl) (hn : As.length = n) (hh : h' + 1 ≤ h) (hS : tq_S X Z A s.heap f0 wr f H locs) (hr : ∃ cell : Cell, H[a]? = some cell ∧ cell.vm.isStatics = false ∧ s.vm.findClass y.cls = some cell.cls) (hl : ls.size = nL) (hst : st = As.reverse ++ .ref a :: rest) (hsum : (rest.map fun v => v.category).sum ≤ 8) (hz : cells ≤ R.cells ∧ slots ≤ R.slots) (hdg : decode cc pc = .ok (.invokevirtual index, 3))
    (kk : ∀ (r : Int32), tq_iv lo hi r → W p l e R s m args below meth c H locs cells slots Q (F0 m (pc + 3) ls (.int r :: rest))) : W p l e R s m args below meth c H locs cells slots Q (F0 m pc ls st) :=
  tq_callUp hC hM hk hlk hn hh hS hr hl hst hsum hz hdg (fun v hv => by obtain ⟨r, rfl, hi9⟩ := hv; exact kk r hi9)
theorem tq_callUpv {y : MethodName} {cc' : ByteArray} {maxL' h' n index : Nat} {ret' : Option FieldType} {As st : List Value}  (hC : tq_C p R s m args c X A own cc nL h) (hM : tq_Mp l X Z f y cc' maxL' ret' h' (.ref a :: As) tq_rv) (hk : tq_KV y cc' maxL' ret' n) (hlk : Cond.methodLink own index y ∈ tq_tbl) (hn : As.length = n) (hh : h' + 1 ≤ h) (hS : tq_S X Z A s.heap f0 wr f H locs) (hr : ∃ cell : Cell, H[a]? = some cell ∧ cell.vm.isStatics = false ∧ s.vm.findClass y.cls = some cell.cls) (hl : ls.size = nL) (hst : st = As.reverse ++ .ref a :: rest) (hsum : (rest.map fun v => v.category).sum ≤ 8) (hz : cells ≤ R.cells ∧ slots ≤ R.slots) (hdg : decode cc pc = .ok (.invokevirtual index, 3))
    (kk :  W p l e R s m args below meth c H locs cells slots Q (F0 m (pc + 3) ls rest)) : W p l e R s m args below meth c H locs cells slots Q (F0 m pc ls st) :=
  tq_callUp hC hM hk hlk hn hh hS hr hl hst hsum hz hdg (fun v hv => by cases hv; exact kk  )
theorem tq_callUpr {y : MethodName} {cc' : ByteArray} {maxL' h' n index : Nat} {ret' : Option FieldType} {As st : List Value} {g : tq_G} (hC : tq_C p R s m args c X A own cc nL h) (hM : tq_Mp l X Z f y cc' maxL' ret' h' (.ref a :: As) (tq_rr Z g)) (hk : tq_KV y cc' maxL' ret' n) (hlk : Cond.methodLink own index y ∈ tq_tbl) (hn : As.length = n) (hh : h' + 1 ≤ h) (hS : tq_S X Z A s.heap f0 wr f H locs) (hr : ∃ cell : Cell, H[a]? = some cell ∧ cell.vm.isStatics = false ∧ s.vm.findClass y.cls = some cell.cls) (hl : ls.size = nL) (hst : st = As.reverse ++ .ref a :: rest) (hsum : (rest.map fun v => v.category).sum ≤ 8) (hz : cells ≤ R.cells ∧ slots ≤ R.slots) (hdg : decode cc pc = .ok (.invokevirtual index, 3))
    (kk : ∀ (r : Nat), tq_z Z r g → W p l e R s m args below meth c H locs cells slots Q (F0 m (pc + 3) ls (.ref r :: rest))) : W p l e R s m args below meth c H locs cells slots Q (F0 m pc ls st) :=
  tq_callUp hC hM hk hlk hn hh hS hr hl hst hsum hz hdg (fun v hv => by obtain ⟨r, rfl, hi9⟩ := hv; exact kk r hi9)
theorem tq_callUpl {y : MethodName} {cc' : ByteArray} {maxL' h' n index : Nat} {ret' : Option FieldType} {As st : List Value}  (hC : tq_C p R s m args c X A own cc nL h) (hM : tq_Mp l X Z f y cc' maxL' ret' h' (.ref a :: As) tq_rl) (hk : tq_KV y cc' maxL' ret' n) (hlk : Cond.methodLink own index y ∈ tq_tbl) (hn : As.length = n) (hh : h' + 1 ≤ h) (hS : tq_S X Z A s.heap f0 wr f H locs) (hr : ∃ cell : Cell, H[a]? = some cell ∧ cell.vm.isStatics = false ∧ s.vm.findClass y.cls = some cell.cls) (hl : ls.size = nL) (hst : st = As.reverse ++ .ref a :: rest) (hsum : (rest.map fun v => v.category).sum ≤ 8) (hz : cells ≤ R.cells ∧ slots ≤ R.slots) (hdg : decode cc pc = .ok (.invokevirtual index, 3))
    (kk : ∀ (r : Int64),  W p l e R s m args below meth c H locs cells slots Q (F0 m (pc + 3) ls (.long r :: rest))) : W p l e R s m args below meth c H locs cells slots Q (F0 m pc ls st) :=
  tq_callUp hC hM hk hlk hn hh hS hr hl hst hsum hz hdg (fun v hv => by obtain ⟨r, rfl⟩ := hv; exact kk r )
end TQR
section TQS
variable {l : Launch} {X : tq_X} {Z : tq_Z} {f : Nat → va_E} {wr : List (Nat × Nat)}
theorem tq_starti {ty : FieldType} {y : MethodName} {cc : ByteArray} {maxL h : Nat} {vs : List Value} {rp : Option Value → Prop} (hy : plainName y.cls = true) (hvs : (lg_sl vs).length ≤ maxL) (body : ∀ (p : Program) (e : Env) (R : Room) (s : State) (m : MethodId) (args : Array Value) (below : List Frame) (meth : Method) (c : Code) (Q : State → Prop), tq_C p R s m args c X (tq_A Z) y.cls cc maxL h → (∀ (v : Int32) (f1 : Nat → va_E) (H1 : Heap) (locs1 : List Loc) (ls : Array Slot) (pc : Nat), narrow ty (.int v) = .int v → rp (some (.int v)) → tq_S X Z (tq_A Z) s.heap f wr f1 H1 locs1 → decode cc pc = .ok (.ireturn, 1) → W p l e R s m args below meth c H1 locs1 0 0 Q (F0 m pc ls [.int v])) → tq_S X Z (tq_A Z) s.heap f wr f s.heap [] → ∀ ls : Array Slot, lv_has ls maxL (lv_args 0 vs) → W p l e R s m args below meth c s.heap [] 0 0 Q (F0 m 0 ls [])) : tq_M l X Z f wr y cc maxL (some ty) h vs rp := by
  refine Met.ofW (cc := cc) (maxL := maxL) (ret := some ty) hy rfl ?_
  intro p e s m args below meth c s₁ B hml hv
  obtain ⟨rfl, ⟨hf, hP⟩, hK, hV⟩ := hv
  have hts := atoms_spec (ws := Cond.code y cc maxL (some ty) :: tq_tbl) B.pre
  have hlocks := B.notSynchronized
  have hl := lv_entry vs (n := maxL) hvs
  rw [lg_entry_eq]
  generalize (lg_sl vs ++ List.replicate (maxL - (lg_sl vs).length) Slot.unset).toArray = ls at hl ⊢
  exact body p e _ s m _ below meth c _ ⟨⟨B.exec, B.bytes, hml, findClass_of_methodNamed B.named, fun w hw => hts w (List.mem_cons_of_mem _ hw)⟩, hK, Nat.le_refl _, Nat.le_refl _, hV⟩ (fun v f1 H1 locs1 ls pc hn hp hS hd => W.zret B.exec B.bytes B.returns hn (fun t ht hW => ⟨⟨_, rfl, hp, f1, hS.1, by rw [ht]; exact hS.2.1, hS.2.2.2.1⟩, hS.2.2.1.F ht⟩) hS.2.2.1.2.2 hd) ⟨hf, hP, va_S.rf, tq_k.rf, fun _ h9 => h9⟩ ls hl
theorem tq_startip {ty : FieldType} {y : MethodName} {cc : ByteArray} {maxL h : Nat} {vs : List Value} {rp : Option Value → Prop} (hy : plainName y.cls = true) (hvs : (lg_sl vs).length ≤ maxL) (body : ∀ (p : Program) (e : Env) (R : Room) (s : State) (m : MethodId) (args : Array Value) (below : List Frame) (meth : Method) (c : Code) (Q : State → Prop), tq_C p R s m args c X (tq_A Z) y.cls cc maxL h → (∀ (v : Int32) (ls : Array Slot) (pc : Nat), narrow ty (.int v) = .int v → rp (some (.int v)) → decode cc pc = .ok (.ireturn, 1) → W p l e R s m args below meth c s.heap [] 0 0 Q (F0 m pc ls [.int v])) → tq_S X Z (tq_A Z) s.heap f [] f s.heap [] → ∀ ls : Array Slot, lv_has ls maxL (lv_args 0 vs) → W p l e R s m args below meth c s.heap [] 0 0 Q (F0 m 0 ls [])) : tq_Mp l X Z f y cc maxL (some ty) h vs rp := by
  refine Met.ofW (cc := cc) (maxL := maxL) (ret := some ty) hy rfl ?_
  intro p e s m args below meth c s₁ B hml hv
  obtain ⟨rfl, ⟨hf, hP⟩, hK, hV⟩ := hv
  have hts := atoms_spec (ws := Cond.code y cc maxL (some ty) :: tq_tbl) B.pre
  have hlocks := B.notSynchronized
  have hl := lv_entry vs (n := maxL) hvs
  rw [lg_entry_eq]
  generalize (lg_sl vs ++ List.replicate (maxL - (lg_sl vs).length) Slot.unset).toArray = ls at hl ⊢
  exact body p e _ s m _ below meth c _ ⟨⟨B.exec, B.bytes, hml, findClass_of_methodNamed B.named, fun w hw => hts w (List.mem_cons_of_mem _ hw)⟩, hK, Nat.le_refl _, Nat.le_refl _, hV⟩ (fun v ls pc hn hp hd => W.zret B.exec B.bytes B.returns hn (fun t ht hW => ⟨_, rfl, hp, ht⟩) (fun q hq => by cases hq) hd) ⟨hf, hP, va_S.rf, tq_k.rf, fun _ h9 => h9⟩ ls hl
theorem tq_startv {y : MethodName} {cc : ByteArray} {maxL h : Nat} {vs : List Value} {rp : Option Value → Prop} (hy : plainName y.cls = true) (hvs : (lg_sl vs).length ≤ maxL) (body : ∀ (p : Program) (e : Env) (R : Room) (s : State) (m : MethodId) (args : Array Value) (below : List Frame) (meth : Method) (c : Code) (Q : State → Prop), tq_C p R s m args c X (tq_A Z) y.cls cc maxL h → (∀ (f1 : Nat → va_E) (H1 : Heap) (locs1 : List Loc) (ls : Array Slot) (pc : Nat), rp none → tq_S X Z (tq_A Z) s.heap f wr f1 H1 locs1 → decode cc pc = .ok (.return_, 1) → W p l e R s m args below meth c H1 locs1 0 0 Q (F0 m pc ls [])) → tq_S X Z (tq_A Z) s.heap f wr f s.heap [] → ∀ ls : Array Slot, lv_has ls maxL (lv_args 0 vs) → W p l e R s m args below meth c s.heap [] 0 0 Q (F0 m 0 ls [])) : tq_M l X Z f wr y cc maxL (none) h vs rp := by
  refine Met.ofW (cc := cc) (maxL := maxL) (ret := none) hy rfl ?_
  intro p e s m args below meth c s₁ B hml hv
  obtain ⟨rfl, ⟨hf, hP⟩, hK, hV⟩ := hv
  have hts := atoms_spec (ws := Cond.code y cc maxL (none) :: tq_tbl) B.pre
  have hlocks := B.notSynchronized
  have hl := lv_entry vs (n := maxL) hvs
  rw [lg_entry_eq]
  generalize (lg_sl vs ++ List.replicate (maxL - (lg_sl vs).length) Slot.unset).toArray = ls at hl ⊢
  exact body p e _ s m _ below meth c _ ⟨⟨B.exec, B.bytes, hml, findClass_of_methodNamed B.named, fun w hw => hts w (List.mem_cons_of_mem _ hw)⟩, hK, Nat.le_refl _, Nat.le_refl _, hV⟩ (fun f1 H1 locs1 ls pc hp hS hd => W.vret B.exec B.bytes B.returns (fun t ht hW => ⟨⟨_, rfl, hp, f1, hS.1, by rw [ht]; exact hS.2.1, hS.2.2.2.1⟩, hS.2.2.1.F ht⟩) hS.2.2.1.2.2 hd) ⟨hf, hP, va_S.rf, tq_k.rf, fun _ h9 => h9⟩ ls hl
theorem tq_startvp {y : MethodName} {cc : ByteArray} {maxL h : Nat} {vs : List Value} {rp : Option Value → Prop} (hy : plainName y.cls = true) (hvs : (lg_sl vs).length ≤ maxL) (body : ∀ (p : Program) (e : Env) (R : Room) (s : State) (m : MethodId) (args : Array Value) (below : List Frame) (meth : Method) (c : Code) (Q : State → Prop), tq_C p R s m args c X (tq_A Z) y.cls cc maxL h → (∀ (ls : Array Slot) (pc : Nat), rp none → decode cc pc = .ok (.return_, 1) → W p l e R s m args below meth c s.heap [] 0 0 Q (F0 m pc ls [])) → tq_S X Z (tq_A Z) s.heap f [] f s.heap [] → ∀ ls : Array Slot, lv_has ls maxL (lv_args 0 vs) → W p l e R s m args below meth c s.heap [] 0 0 Q (F0 m 0 ls [])) : tq_Mp l X Z f y cc maxL (none) h vs rp := by
  refine Met.ofW (cc := cc) (maxL := maxL) (ret := none) hy rfl ?_
  intro p e s m args below meth c s₁ B hml hv
  obtain ⟨rfl, ⟨hf, hP⟩, hK, hV⟩ := hv
  have hts := atoms_spec (ws := Cond.code y cc maxL (none) :: tq_tbl) B.pre
  have hlocks := B.notSynchronized
  have hl := lv_entry vs (n := maxL) hvs
  rw [lg_entry_eq]
  generalize (lg_sl vs ++ List.replicate (maxL - (lg_sl vs).length) Slot.unset).toArray = ls at hl ⊢
  exact body p e _ s m _ below meth c _ ⟨⟨B.exec, B.bytes, hml, findClass_of_methodNamed B.named, fun w hw => hts w (List.mem_cons_of_mem _ hw)⟩, hK, Nat.le_refl _, Nat.le_refl _, hV⟩ (fun ls pc hp hd => W.vret B.exec B.bytes B.returns (fun t ht hW => ⟨_, rfl, hp, ht⟩) (fun q hq => by cases hq) hd) ⟨hf, hP, va_S.rf, tq_k.rf, fun _ h9 => h9⟩ ls hl
theorem tq_startr {ty : FieldType} {y : MethodName} {cc : ByteArray} {maxL h : Nat} {vs : List Value} {rp : Option Value → Prop} (hty : (∃ n, ty = .object n) ∨ ∃ t, ty = .array t) (hy : plainName y.cls = true) (hvs : (lg_sl vs).length ≤ maxL) (body : ∀ (p : Program) (e : Env) (R : Room) (s : State) (m : MethodId) (args : Array Value) (below : List Frame) (meth : Method) (c : Code) (Q : State → Prop), tq_C p R s m args c X (tq_A Z) y.cls cc maxL h → (∀ (v : Nat) (f1 : Nat → va_E) (H1 : Heap) (locs1 : List Loc) (ls : Array Slot) (pc : Nat), rp (some (.ref v)) → tq_S X Z (tq_A Z) s.heap f wr f1 H1 locs1 → decode cc pc = .ok (.areturn, 1) → W p l e R s m args below meth c H1 locs1 0 0 Q (F0 m pc ls [.ref v])) → tq_S X Z (tq_A Z) s.heap f wr f s.heap [] → ∀ ls : Array Slot, lv_has ls maxL (lv_args 0 vs) → W p l e R s m args below meth c s.heap [] 0 0 Q (F0 m 0 ls [])) : tq_M l X Z f wr y cc maxL (some ty) h vs rp := by
  refine Met.ofW (cc := cc) (maxL := maxL) (ret := some ty) hy rfl ?_
  intro p e s m args below meth c s₁ B hml hv
  obtain ⟨rfl, ⟨hf, hP⟩, hK, hV⟩ := hv
  have hts := atoms_spec (ws := Cond.code y cc maxL (some ty) :: tq_tbl) B.pre
  have hlocks := B.notSynchronized
  have hl := lv_entry vs (n := maxL) hvs
  rw [lg_entry_eq]
  generalize (lg_sl vs ++ List.replicate (maxL - (lg_sl vs).length) Slot.unset).toArray = ls at hl ⊢
  exact body p e _ s m _ below meth c _ ⟨⟨B.exec, B.bytes, hml, findClass_of_methodNamed B.named, fun w hw => hts w (List.mem_cons_of_mem _ hw)⟩, hK, Nat.le_refl _, Nat.le_refl _, hV⟩ (fun v f1 H1 locs1 ls pc hp hS hd => W.aret B.exec B.bytes B.returns hty (Or.inr ⟨_, rfl⟩) (fun t ht hW => ⟨⟨_, rfl, hp, f1, hS.1, by rw [ht]; exact hS.2.1, hS.2.2.2.1⟩, hS.2.2.1.F ht⟩) hS.2.2.1.2.2 hd) ⟨hf, hP, va_S.rf, tq_k.rf, fun _ h9 => h9⟩ ls hl
theorem tq_startrp {ty : FieldType} {y : MethodName} {cc : ByteArray} {maxL h : Nat} {vs : List Value} {rp : Option Value → Prop} (hty : (∃ n, ty = .object n) ∨ ∃ t, ty = .array t) (hy : plainName y.cls = true) (hvs : (lg_sl vs).length ≤ maxL) (body : ∀ (p : Program) (e : Env) (R : Room) (s : State) (m : MethodId) (args : Array Value) (below : List Frame) (meth : Method) (c : Code) (Q : State → Prop), tq_C p R s m args c X (tq_A Z) y.cls cc maxL h → (∀ (v : Nat) (ls : Array Slot) (pc : Nat), rp (some (.ref v)) → decode cc pc = .ok (.areturn, 1) → W p l e R s m args below meth c s.heap [] 0 0 Q (F0 m pc ls [.ref v])) → tq_S X Z (tq_A Z) s.heap f [] f s.heap [] → ∀ ls : Array Slot, lv_has ls maxL (lv_args 0 vs) → W p l e R s m args below meth c s.heap [] 0 0 Q (F0 m 0 ls [])) : tq_Mp l X Z f y cc maxL (some ty) h vs rp := by
  refine Met.ofW (cc := cc) (maxL := maxL) (ret := some ty) hy rfl ?_
  intro p e s m args below meth c s₁ B hml hv
  obtain ⟨rfl, ⟨hf, hP⟩, hK, hV⟩ := hv
  have hts := atoms_spec (ws := Cond.code y cc maxL (some ty) :: tq_tbl) B.pre
  have hlocks := B.notSynchronized
  have hl := lv_entry vs (n := maxL) hvs
  rw [lg_entry_eq]
  generalize (lg_sl vs ++ List.replicate (maxL - (lg_sl vs).length) Slot.unset).toArray = ls at hl ⊢
  exact body p e _ s m _ below meth c _ ⟨⟨B.exec, B.bytes, hml, findClass_of_methodNamed B.named, fun w hw => hts w (List.mem_cons_of_mem _ hw)⟩, hK, Nat.le_refl _, Nat.le_refl _, hV⟩ (fun v ls pc hp hd => W.aret B.exec B.bytes B.returns hty (Or.inr ⟨_, rfl⟩) (fun t ht hW => ⟨_, rfl, hp, ht⟩) (fun q hq => by cases hq) hd) ⟨hf, hP, va_S.rf, tq_k.rf, fun _ h9 => h9⟩ ls hl
theorem tq_startl {y : MethodName} {cc : ByteArray} {maxL h : Nat} {vs : List Value} {rp : Option Value → Prop} (hy : plainName y.cls = true) (hvs : (lg_sl vs).length ≤ maxL) (body : ∀ (p : Program) (e : Env) (R : Room) (s : State) (m : MethodId) (args : Array Value) (below : List Frame) (meth : Method) (c : Code) (Q : State → Prop), tq_C p R s m args c X (tq_A Z) y.cls cc maxL h → (∀ (v : Int64) (f1 : Nat → va_E) (H1 : Heap) (locs1 : List Loc) (ls : Array Slot) (pc : Nat), rp (some (.long v)) → tq_S X Z (tq_A Z) s.heap f wr f1 H1 locs1 → decode cc pc = .ok (.lreturn, 1) → W p l e R s m args below meth c H1 locs1 0 0 Q (F0 m pc ls [.long v])) → tq_S X Z (tq_A Z) s.heap f wr f s.heap [] → ∀ ls : Array Slot, lv_has ls maxL (lv_args 0 vs) → W p l e R s m args below meth c s.heap [] 0 0 Q (F0 m 0 ls [])) : tq_M l X Z f wr y cc maxL (some .long) h vs rp := by
  refine Met.ofW (cc := cc) (maxL := maxL) (ret := some .long) hy rfl ?_
  intro p e s m args below meth c s₁ B hml hv
  obtain ⟨rfl, ⟨hf, hP⟩, hK, hV⟩ := hv
  have hts := atoms_spec (ws := Cond.code y cc maxL (some .long) :: tq_tbl) B.pre
  have hlocks := B.notSynchronized
  have hl := lv_entry vs (n := maxL) hvs
  rw [lg_entry_eq]
  generalize (lg_sl vs ++ List.replicate (maxL - (lg_sl vs).length) Slot.unset).toArray = ls at hl ⊢
  exact body p e _ s m _ below meth c _ ⟨⟨B.exec, B.bytes, hml, findClass_of_methodNamed B.named, fun w hw => hts w (List.mem_cons_of_mem _ hw)⟩, hK, Nat.le_refl _, Nat.le_refl _, hV⟩ (fun v f1 H1 locs1 ls pc hp hS hd => W.lret B.exec B.bytes B.returns (fun t ht hW => ⟨⟨_, rfl, hp, f1, hS.1, by rw [ht]; exact hS.2.1, hS.2.2.2.1⟩, hS.2.2.1.F ht⟩) hS.2.2.1.2.2 hd) ⟨hf, hP, va_S.rf, tq_k.rf, fun _ h9 => h9⟩ ls hl
theorem tq_startlp {y : MethodName} {cc : ByteArray} {maxL h : Nat} {vs : List Value} {rp : Option Value → Prop} (hy : plainName y.cls = true) (hvs : (lg_sl vs).length ≤ maxL) (body : ∀ (p : Program) (e : Env) (R : Room) (s : State) (m : MethodId) (args : Array Value) (below : List Frame) (meth : Method) (c : Code) (Q : State → Prop), tq_C p R s m args c X (tq_A Z) y.cls cc maxL h → (∀ (v : Int64) (ls : Array Slot) (pc : Nat), rp (some (.long v)) → decode cc pc = .ok (.lreturn, 1) → W p l e R s m args below meth c s.heap [] 0 0 Q (F0 m pc ls [.long v])) → tq_S X Z (tq_A Z) s.heap f [] f s.heap [] → ∀ ls : Array Slot, lv_has ls maxL (lv_args 0 vs) → W p l e R s m args below meth c s.heap [] 0 0 Q (F0 m 0 ls [])) : tq_Mp l X Z f y cc maxL (some .long) h vs rp := by
  refine Met.ofW (cc := cc) (maxL := maxL) (ret := some .long) hy rfl ?_
  intro p e s m args below meth c s₁ B hml hv
  obtain ⟨rfl, ⟨hf, hP⟩, hK, hV⟩ := hv
  have hts := atoms_spec (ws := Cond.code y cc maxL (some .long) :: tq_tbl) B.pre
  have hlocks := B.notSynchronized
  have hl := lv_entry vs (n := maxL) hvs
  rw [lg_entry_eq]
  generalize (lg_sl vs ++ List.replicate (maxL - (lg_sl vs).length) Slot.unset).toArray = ls at hl ⊢
  exact body p e _ s m _ below meth c _ ⟨⟨B.exec, B.bytes, hml, findClass_of_methodNamed B.named, fun w hw => hts w (List.mem_cons_of_mem _ hw)⟩, hK, Nat.le_refl _, Nat.le_refl _, hV⟩ (fun v ls pc hp hd => W.lret B.exec B.bytes B.returns (fun t ht hW => ⟨_, rfl, hp, ht⟩) (fun q hq => by cases hq) hd) ⟨hf, hP, va_S.rf, tq_k.rf, fun _ h9 => h9⟩ ls hl
end TQS
