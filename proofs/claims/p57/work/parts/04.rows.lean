section EZR
variable {p : Program} {l : Launch} {e : Env} {R : Room} {s : State} {m : MethodId} {args : Array Value} {below : List Frame} {meth : Method} {c : Code} {H : Heap} {locs : List Loc} {cells slots : Nat} {Q : State → Prop}
variable {cc : ByteArray} {pc : Nat} {ls : Array Slot} {rest : List Value} {X : ez_X} {B : Nat} {a : Nat} {own : String} {nL h : Nat} {H0 : Heap} {n : Nat} {σ : ez_H} {β : Type} {z : β}
theorem ez_top {x : Int32} {g : Int32 → Option β} (h : ez_let x g = some z) (kk : ∀ t : Int32, g t = some z → W p l e R s m args below meth c H locs cells slots Q (F0 m pc ls (.int t :: rest))) : W p l e R s m args below meth c H locs cells slots Q (F0 m pc ls (.int x :: rest)) := kk x h
theorem ez_topl {x : Int64} {g : Int64 → Option β} (h : ez_let x g = some z) (kk : ∀ t : Int64, g t = some z → W p l e R s m args below meth c H locs cells slots Q (F0 m pc ls (.long t :: rest))) : W p l e R s m args below meth c H locs cells slots Q (F0 m pc ls (.long x :: rest)) := kk x h
theorem ez_sized (kk : H.size ≤ s.heap.size + cells → W p l e R s m args below meth c H locs cells slots Q (F0 m pc ls rest)) : W p l e R s m args below meth c H locs cells slots Q (F0 m pc ls rest) := fun T hT X0 => kk (by rw [← hT]; exact X0.heapSize) T hT X0
theorem ez_getv {Cn : String} {T : u_T} {N ci index : Nat} {fs : List ez_V} {v : ez_V} (hC : ez_C p R s m args c X B own cc nL h) (hS : ez_S X B H0 n σ H locs) (he : σ[a]? = some (.inr (.inr (.inr (ci, fs))))) (hc : vwCl[ci]? = some (Cn, T, N)) (hin : ∀ w ∈ u_ws Cn T N, w ∈ tq_tbl) (k : Nat) (hk : k < N) (hlk : Cond.fieldLink own index (T k).1 (T k).2.1 (T k).2.2.1 ∈ tq_tbl) (hv : fs[k]? = some v) (hdg : decode cc pc = .ok (.getfield index, 3))
    (kk : W p l e R s m args below meth c H locs cells slots Q (F0 m (pc + 3) ls (ez_rv B v :: rest))) : W p l e R s m args below meth c H locs cells slots Q (F0 m pc ls (.ref (B + a) :: rest)) :=
  va_get (D := X.1) (cl := vwCl) (ws := ez_ws X B σ) hC.1.1 hC.1.2.1 hC.1.2.2.2.2 hin hC.1.2.2.2.1 hC.2.1 hS.2.1 a (fs := fs.map (ez_rv B)) (ez_ws_at he) hc k hk (hC.1.2.2.2.2 _ hlk) (fun _ h9 => h9) (by rw [List.getElem?_map, hv]; rfl) hdg kk
theorem ez_geti {Cn : String} {T : u_T} {N ci index : Nat} (hC : ez_C p R s m args c X B own cc nL h) (hS : ez_S X B H0 n σ H locs) (hc : vwCl[ci]? = some (Cn, T, N)) (hin : ∀ w ∈ u_ws Cn T N, w ∈ tq_tbl) (k : Nat) (hk : k < N) (hlk : Cond.fieldLink own index (T k).1 (T k).2.1 (T k).2.2.1 ∈ tq_tbl) {g : Int32 → Option β} (h : ez_bd (ez_gi σ ci a k) g = some z) (hdg : decode cc pc = .ok (.getfield index, 3))
    (kk : ∀ x : Int32, g x = some z → W p l e R s m args below meth c H locs cells slots Q (F0 m (pc + 3) ls (.int x :: rest))) : W p l e R s m args below meth c H locs cells slots Q (F0 m pc ls (.ref (B + a) :: rest)) := by
  obtain ⟨x, e1, h⟩ := ez_bd_sp h
  obtain ⟨fs, he, hv⟩ := ez_gi_sp e1
  exact ez_getv hC hS he hc hin k hk hlk hv hdg (kk x h)
theorem ez_getl {Cn : String} {T : u_T} {N ci index : Nat} (hC : ez_C p R s m args c X B own cc nL h) (hS : ez_S X B H0 n σ H locs) (hc : vwCl[ci]? = some (Cn, T, N)) (hin : ∀ w ∈ u_ws Cn T N, w ∈ tq_tbl) (k : Nat) (hk : k < N) (hlk : Cond.fieldLink own index (T k).1 (T k).2.1 (T k).2.2.1 ∈ tq_tbl) {g : Int64 → Option β} (h : ez_bd (ez_gl σ ci a k) g = some z) (hdg : decode cc pc = .ok (.getfield index, 3))
    (kk : ∀ x : Int64, g x = some z → W p l e R s m args below meth c H locs cells slots Q (F0 m (pc + 3) ls (.long x :: rest))) : W p l e R s m args below meth c H locs cells slots Q (F0 m pc ls (.ref (B + a) :: rest)) := by
  obtain ⟨x, e1, h⟩ := ez_bd_sp h
  obtain ⟨fs, he, hv⟩ := ez_gl_sp e1
  exact ez_getv hC hS he hc hin k hk hlk hv hdg (kk x h)
theorem ez_getr {Cn : String} {T : u_T} {N ci index : Nat} (hC : ez_C p R s m args c X B own cc nL h) (hS : ez_S X B H0 n σ H locs) (hc : vwCl[ci]? = some (Cn, T, N)) (hin : ∀ w ∈ u_ws Cn T N, w ∈ tq_tbl) (k : Nat) (hk : k < N) (hlk : Cond.fieldLink own index (T k).1 (T k).2.1 (T k).2.2.1 ∈ tq_tbl) {g : Nat → Option β} (h : ez_bd (ez_gr σ ci a k) g = some z) (hdg : decode cc pc = .ok (.getfield index, 3))
    (kk : ∀ x : Nat, g x = some z → W p l e R s m args below meth c H locs cells slots Q (F0 m (pc + 3) ls (.ref (B + x) :: rest))) : W p l e R s m args below meth c H locs cells slots Q (F0 m pc ls (.ref (B + a) :: rest)) := by
  obtain ⟨x, e1, h⟩ := ez_bd_sp h
  obtain ⟨fs, he, hv⟩ := ez_gr_sp e1
  exact ez_getv hC hS he hc hin k hk hlk hv hdg (kk x h)
theorem ez_putv {Cn : String} {T : u_T} {N ci index : Nat} {v : ez_V} (ty0 : Nat → FieldType) (hC : ez_C p R s m args c X B own cc nL h) (hS : ez_S X B H0 n σ H locs) (hc : vwCl[ci]? = some (Cn, T, N)) (hin : ∀ w ∈ u_ws Cn T N, w ∈ tq_tbl) (hty : ∀ k, k < N → parseFieldDescriptor (T k).2.2.1 = some (ty0 k)) (hnm : ∀ a, a < N → ∀ b, b < N → a ≠ b → (T a).2.1 ≠ (T b).2.1) (k : Nat) (hk : k < N) (hlk : Cond.fieldLink own index (T k).1 (T k).2.1 (T k).2.2.1 ∈ tq_tbl) (hfin : (T k).2.2.2 = false) (hn : narrow (ty0 k) (ez_rv B v) = ez_rv B v) (hfit : fits (ty0 k) (ez_rv B v) = true) {g : ez_H → Option β} (h : ez_bd (ez_pf σ ci a k v) g = some z) (hdg : decode cc pc = .ok (.putfield index, 3))
    (kk : ∀ (σ1 : ez_H) (H1 : Heap) (locs1 : List Loc), ez_S X B H0 n σ1 H1 locs1 → g σ1 = some z → W p l e R s m args below meth c H1 locs1 cells slots Q (F0 m (pc + 3) ls rest)) : W p l e R s m args below meth c H locs cells slots Q (F0 m pc ls (ez_rv B v :: .ref (B + a) :: rest)) := by
  obtain ⟨σ1, e1, h⟩ := ez_bd_sp h
  obtain ⟨fs, he, hl, rfl⟩ := ez_pf_sp e1
  refine va_put (D := X.1) (cl := vwCl) (ws := ez_ws X B σ) hC.1.1 hC.1.2.1 hC.1.2.2.2.2 hin ty0 hty hnm hC.1.2.2.2.1 hC.2.1 hS.2.1 ez_D hS.2.2 a (fs := fs.map (ez_rv B)) (ez_ws_at he) hc k hk (hC.1.2.2.2.2 _ hlk) (fun _ h9 => h9) hfin (hty k hk) hn hfit (by rw [List.length_map]; exact hl) hdg (fun H1 locs1 hP1 _ hS1 => ?_)
  refine kk _ H1 locs1 ⟨by rw [List.length_set]; exact hS.1, ?_, hS1⟩ h
  rw [← ez_ws_set]
  have e9 : ez_re X B (.inr (.inr (.inr (ci, fs.set k v)))) = .inr (ci, (fs.map (ez_rv B)).set k (ez_rv B v)) := by
    show Sum.inr (ci, (fs.set k v).map (ez_rv B)) = _
    rw [List.map_set]
  rw [e9]
  exact hP1
theorem ez_putF {Cn : String} {T : u_T} {N ci index : Nat} {v : ez_V} (ty0 : Nat → FieldType) (hC : ez_C p R s m args c X B own cc nL h) (hS : ez_S X B H0 n σ H locs) (hc : vwCl[ci]? = some (Cn, T, N)) (hin : ∀ w ∈ u_ws Cn T N, w ∈ tq_tbl) (hty : ∀ k, k < N → parseFieldDescriptor (T k).2.2.1 = some (ty0 k)) (hnm : ∀ a, a < N → ∀ b, b < N → a ≠ b → (T a).2.1 ≠ (T b).2.1) (k : Nat) (hk : k < N) (hlk : Cond.fieldLink own index (T k).1 (T k).2.1 (T k).2.2.1 ∈ tq_tbl) (hfin : (T k).2.2.2 = true) (hi : meth.name = "<init>") (hdecl : (T k).1 = own) (hn : narrow (ty0 k) (ez_rv B v) = ez_rv B v) (hfit : fits (ty0 k) (ez_rv B v) = true) {g : ez_H → Option β} (h : ez_bd (ez_pf σ ci a k v) g = some z) (hdg : decode cc pc = .ok (.putfield index, 3))
    (kk : ∀ (σ1 : ez_H) (H1 : Heap) (locs1 : List Loc), ez_S X B H0 n σ1 H1 locs1 → g σ1 = some z → W p l e R s m args below meth c H1 locs1 cells slots Q (F0 m (pc + 3) ls rest)) : W p l e R s m args below meth c H locs cells slots Q (F0 m pc ls (ez_rv B v :: .ref (B + a) :: rest)) := by
  obtain ⟨σ1, e1, h⟩ := ez_bd_sp h
  obtain ⟨fs, he, hl, rfl⟩ := ez_pf_sp e1
  refine va_putF (D := X.1) (cl := vwCl) (ws := ez_ws X B σ) hC.1.1 hC.1.2.1 hC.1.2.2.2.2 hin ty0 hty hnm hC.1.2.2.2.1 hC.2.1 hS.2.1 ez_D hS.2.2 a (fs := fs.map (ez_rv B)) (ez_ws_at he) hc k hk (hC.1.2.2.2.2 _ hlk) (fun _ h9 => h9) hfin hi hdecl (hty k hk) hn hfit (by rw [List.length_map]; exact hl) hdg (fun H1 locs1 hP1 _ hS1 => ?_)
  refine kk _ H1 locs1 ⟨by rw [List.length_set]; exact hS.1, ?_, hS1⟩ h
  rw [← ez_ws_set]
  have e9 : ez_re X B (.inr (.inr (.inr (ci, fs.set k v)))) = .inr (ci, (fs.map (ez_rv B)).set k (ez_rv B v)) := by
    show Sum.inr (ci, (fs.set k v).map (ez_rv B)) = _
    rw [List.map_set]
  rw [e9]
  exact hP1
theorem ez_ial (hC : ez_C p R s m args c X B own cc nL h) (hS : ez_S X B H0 n σ H locs) {i : Int32} {g : Int32 → Option β} (h : ez_bd (ez_ia σ 1 a i) g = some z) (hdg : decode cc pc = .ok (.iaload, 1))
    (kk : ∀ x : Int32, g x = some z → W p l e R s m args below meth c H locs cells slots Q (F0 m (pc + 1) ls (.int x :: rest))) : W p l e R s m args below meth c H locs cells slots Q (F0 m pc ls (.int i :: .ref (B + a) :: rest)) := by
  obtain ⟨x, e1, h⟩ := ez_bd_sp h
  obtain ⟨n0, l0, he, hi, rfl⟩ := ez_ia_sp e1
  exact va_iald (D := X.1) (cl := vwCl) (ws := ez_ws X B σ) hC.1.1 hC.1.2.1 hC.2.1 hS.2.1 a 1 (f := ez_get 0 l0) (ez_ws_at he) rfl hi hdg (kk _ h)
theorem ez_bal (hC : ez_C p R s m args c X B own cc nL h) (hS : ez_S X B H0 n σ H locs) {i : Int32} {g : Int32 → Option β} (h : ez_bd (ez_ia σ 0 a i) g = some z) (hdg : decode cc pc = .ok (.baload, 1))
    (kk : ∀ x : Int32, g x = some z → W p l e R s m args below meth c H locs cells slots Q (F0 m (pc + 1) ls (.int x :: rest))) : W p l e R s m args below meth c H locs cells slots Q (F0 m pc ls (.int i :: .ref (B + a) :: rest)) := by
  obtain ⟨x, e1, h⟩ := ez_bd_sp h
  obtain ⟨n0, l0, he, hi, rfl⟩ := ez_ia_sp e1
  exact va_bald (D := X.1) (cl := vwCl) (ws := ez_ws X B σ) hC.1.1 hC.1.2.1 hC.2.1 hS.2.1 a 0 (f := ez_get 0 l0) (ez_ws_at he) rfl hi hdg (kk _ h)
theorem ez_zal (hC : ez_C p R s m args c X B own cc nL h) (hS : ez_S X B H0 n σ H locs) {i : Int32} {g : Int32 → Option β} (h : ez_bd (ez_ia σ 3 a i) g = some z) (hdg : decode cc pc = .ok (.baload, 1))
    (kk : ∀ x : Int32, g x = some z → W p l e R s m args below meth c H locs cells slots Q (F0 m (pc + 1) ls (.int x :: rest))) : W p l e R s m args below meth c H locs cells slots Q (F0 m pc ls (.int i :: .ref (B + a) :: rest)) := by
  obtain ⟨x, e1, h⟩ := ez_bd_sp h
  obtain ⟨n0, l0, he, hi, rfl⟩ := ez_ia_sp e1
  exact va_zald (D := X.1) (cl := vwCl) (ws := ez_ws X B σ) hC.1.1 hC.1.2.1 hC.2.1 hS.2.1 a 3 (f := ez_get 0 l0) (ez_ws_at he) rfl hi hdg (kk _ h)
theorem ez_lal (hC : ez_C p R s m args c X B own cc nL h) (hS : ez_S X B H0 n σ H locs) {i : Int32} {g : Int64 → Option β} (h : ez_bd (ez_la σ a i) g = some z) (hdg : decode cc pc = .ok (.laload, 1))
    (kk : ∀ x : Int64, g x = some z → W p l e R s m args below meth c H locs cells slots Q (F0 m (pc + 1) ls (.long x :: rest))) : W p l e R s m args below meth c H locs cells slots Q (F0 m pc ls (.int i :: .ref (B + a) :: rest)) := by
  obtain ⟨x, e1, h⟩ := ez_bd_sp h
  obtain ⟨n0, l0, he, hi, rfl⟩ := ez_la_sp e1
  exact va_lald (D := X.1) (cl := vwCl) (ws := ez_ws X B σ) hC.1.1 hC.1.2.1 hC.2.1 hS.2.1 a 2 (f := ez_get 0 l0) (ez_ws_at he) rfl hi hdg (kk _ h)
theorem ez_sal (hC : ez_C p R s m args c X B own cc nL h) (hS : ez_S X B H0 n σ H locs) {i : Int32} {g : Nat → Option β} (h : ez_bd (ez_ra σ 4 a i) g = some z) (hdg : decode cc pc = .ok (.aaload, 1))
    (kk : ∀ x : Nat, g x = some z → W p l e R s m args below meth c H locs cells slots Q (F0 m (pc + 1) ls (.ref (B + x) :: rest))) : W p l e R s m args below meth c H locs cells slots Q (F0 m pc ls (.int i :: .ref (B + a) :: rest)) := by
  obtain ⟨x, e1, h⟩ := ez_bd_sp h
  obtain ⟨n0, l0, he, hi, hg⟩ := ez_ra_sp e1
  refine va_aldq (D := X.1) (cl := vwCl) (ws := ez_ws X B σ) hC.1.1 hC.1.2.1 hC.2.1 hS.2.1 a 4 (f := fun j => (ez_get none l0 j).map (fun b => B + b)) (ez_ws_at he) rfl hi hdg ?_
  show W p l e R s m args below meth c H locs cells slots Q (F0 m (pc + 1) ls (va_rf ((ez_get none l0 i.toNatClampNeg).map (fun b => B + b)) :: rest))
  rw [hg]
  exact kk x h
theorem ez_aal (hC : ez_C p R s m args c X B own cc nL h) (hS : ez_S X B H0 n σ H locs) {i : Int32} {g : Nat → Option β} (h : ez_bd (ez_ra σ 5 a i) g = some z) (hdg : decode cc pc = .ok (.aaload, 1))
    (kk : ∀ x : Nat, g x = some z → W p l e R s m args below meth c H locs cells slots Q (F0 m (pc + 1) ls (.ref (B + x) :: rest))) : W p l e R s m args below meth c H locs cells slots Q (F0 m pc ls (.int i :: .ref (B + a) :: rest)) := by
  obtain ⟨x, e1, h⟩ := ez_bd_sp h
  obtain ⟨n0, l0, he, hi, hg⟩ := ez_ra_sp e1
  have hlt : i.toNatClampNeg < n0 := Nat.not_le.mp fun q => hi (Or.inr q)
  have hcell : va_at X.1 vwCl (B + a, .inl (X.2.1 5, n0, .inr (.inr (.inr (.inr (fun j => (ez_get none l0 j).map (fun b => B + b))))))) H := hS.2.1 a _ (ez_ws_at he)
  have e9 : va_rf ((ez_get none l0 i.toNatClampNeg).map (fun b => B + b)) = .ref (B + x) := by rw [hg]; rfl
  refine W.aald (v := va_rf ((ez_get none l0 i.toNatClampNeg).map (fun b => B + b))) (ty := .array .long) hC.1.1 hC.1.2.1 hcell ((hC.2.1.2 5 _ rfl).1 n0 (fun q => va_rf ((ez_get none l0 q).map (fun b => B + b)))) rfl (fun q => by cases q) (by show ¬ (i < 0 ∨ (arrV _ _ _).slots.size ≤ _); rw [arrV_size]; exact hi) (by show (arrV _ _ _).slots[_]? = _; rw [arrV_read _ _ hlt]) rfl rfl hdg ?_
  show W p l e R s m args below meth c H locs cells slots Q (F0 m (pc + 1) ls (va_rf ((ez_get none l0 i.toNatClampNeg).map (fun b => B + b)) :: rest))
  rw [e9]
  exact kk x h
theorem ez_lnA (hC : ez_C p R s m args c X B own cc nL h) (hS : ez_S X B H0 n σ H locs) {g : Int32 → Option β} (h : ez_bd (ez_ln σ 1 a) g = some z) (hdg : decode cc pc = .ok (.arraylength, 1))
    (kk : ∀ x : Int32, g x = some z → W p l e R s m args below meth c H locs cells slots Q (F0 m (pc + 1) ls (.int x :: rest))) : W p l e R s m args below meth c H locs cells slots Q (F0 m pc ls (.ref (B + a) :: rest)) := by
  obtain ⟨x, e1, h⟩ := ez_bd_sp h
  obtain ⟨n0, l0, he, hx⟩ := ez_ln_sp e1
  exact va_alen (D := X.1) (cl := vwCl) (ws := ez_ws X B σ) hC.1.1 hC.1.2.1 hC.2.1 hS.2.1 a 1 (x := (n0, .inl (ez_get 0 l0))) (ez_ws_at he) rfl hx hdg (kk x h)
theorem ez_lnB (hC : ez_C p R s m args c X B own cc nL h) (hS : ez_S X B H0 n σ H locs) {g : Int32 → Option β} (h : ez_bd (ez_ln σ 0 a) g = some z) (hdg : decode cc pc = .ok (.arraylength, 1))
    (kk : ∀ x : Int32, g x = some z → W p l e R s m args below meth c H locs cells slots Q (F0 m (pc + 1) ls (.int x :: rest))) : W p l e R s m args below meth c H locs cells slots Q (F0 m pc ls (.ref (B + a) :: rest)) := by
  obtain ⟨x, e1, h⟩ := ez_bd_sp h
  obtain ⟨n0, l0, he, hx⟩ := ez_ln_sp e1
  exact va_alen (D := X.1) (cl := vwCl) (ws := ez_ws X B σ) hC.1.1 hC.1.2.1 hC.2.1 hS.2.1 a 0 (x := (n0, .inl (ez_get 0 l0))) (ez_ws_at he) rfl hx hdg (kk x h)
theorem ez_upd (t : Nat) (l : List (Nat × Int32)) (i : Nat) (x : Int32) : upd (ez_get 0 l) i x = ez_get 0 (ez_pw t l i x) := by
  funext j
  rw [ez_get_pw]
  rfl
theorem ez_updL (l : List (Nat × Int64)) (i : Nat) (x : Int64) : vp_updL (ez_get 0 l) i x = ez_get 0 (ez_put l i x) := by
  funext j
  rw [ez_get_put]
  rfl
theorem ez_ias (hC : ez_C p R s m args c X B own cc nL h) (hS : ez_S X B H0 n σ H locs) {i x : Int32} {g : ez_H → Option β} (h : ez_bd (ez_is σ 1 a i x) g = some z) (hdg : decode cc pc = .ok (.iastore, 1))
    (kk : ∀ (σ1 : ez_H) (H1 : Heap) (locs1 : List Loc), ez_S X B H0 n σ1 H1 locs1 → g σ1 = some z → W p l e R s m args below meth c H1 locs1 cells slots Q (F0 m (pc + 1) ls rest)) : W p l e R s m args below meth c H locs cells slots Q (F0 m pc ls (.int x :: .int i :: .ref (B + a) :: rest)) := by
  obtain ⟨σ1, e1, h⟩ := ez_bd_sp h
  obtain ⟨n0, l0, he, hi, rfl⟩ := ez_is_sp e1
  refine va_iast (D := X.1) (cl := vwCl) (ws := ez_ws X B σ) hC.1.1 hC.1.2.1 hC.2.1 hS.2.1 ez_D hS.2.2 a 1 (f := ez_get 0 l0) (ez_ws_at he) rfl hi hdg (fun H1 locs1 hP1 _ hS1 => ?_)
  refine kk _ H1 locs1 ⟨by rw [List.length_set]; exact hS.1, ?_, hS1⟩ h
  rw [← ez_ws_set]
  rw [ez_upd 1] at hP1
  exact hP1
theorem ez_bas (hC : ez_C p R s m args c X B own cc nL h) (hS : ez_S X B H0 n σ H locs) {i x : Int32} {g : ez_H → Option β} (h : ez_bd (ez_is σ 0 a i (vp_nar .byte x)) g = some z) (hdg : decode cc pc = .ok (.bastore, 1))
    (kk : ∀ (σ1 : ez_H) (H1 : Heap) (locs1 : List Loc), ez_S X B H0 n σ1 H1 locs1 → g σ1 = some z → W p l e R s m args below meth c H1 locs1 cells slots Q (F0 m (pc + 1) ls rest)) : W p l e R s m args below meth c H locs cells slots Q (F0 m pc ls (.int x :: .int i :: .ref (B + a) :: rest)) := by
  obtain ⟨σ1, e1, h⟩ := ez_bd_sp h
  obtain ⟨n0, l0, he, hi, rfl⟩ := ez_is_sp e1
  refine va_bast (D := X.1) (cl := vwCl) (ws := ez_ws X B σ) hC.1.1 hC.1.2.1 hC.2.1 hS.2.1 ez_D hS.2.2 a 0 (f := ez_get 0 l0) (ez_ws_at he) rfl hi hdg (fun H1 locs1 hP1 _ hS1 => ?_)
  refine kk _ H1 locs1 ⟨by rw [List.length_set]; exact hS.1, ?_, hS1⟩ h
  rw [← ez_ws_set]
  rw [ez_upd 0] at hP1
  exact hP1
theorem ez_zas (hC : ez_C p R s m args c X B own cc nL h) (hS : ez_S X B H0 n σ H locs) {i x : Int32} {g : ez_H → Option β} (h : ez_bd (ez_is σ 3 a i (vp_nar .boolean x)) g = some z) (hdg : decode cc pc = .ok (.bastore, 1))
    (kk : ∀ (σ1 : ez_H) (H1 : Heap) (locs1 : List Loc), ez_S X B H0 n σ1 H1 locs1 → g σ1 = some z → W p l e R s m args below meth c H1 locs1 cells slots Q (F0 m (pc + 1) ls rest)) : W p l e R s m args below meth c H locs cells slots Q (F0 m pc ls (.int x :: .int i :: .ref (B + a) :: rest)) := by
  obtain ⟨σ1, e1, h⟩ := ez_bd_sp h
  obtain ⟨n0, l0, he, hi, rfl⟩ := ez_is_sp e1
  refine va_zast (D := X.1) (cl := vwCl) (ws := ez_ws X B σ) hC.1.1 hC.1.2.1 hC.2.1 hS.2.1 ez_D hS.2.2 a 3 (f := ez_get 0 l0) (ez_ws_at he) rfl hi hdg (fun H1 locs1 hP1 _ hS1 => ?_)
  refine kk _ H1 locs1 ⟨by rw [List.length_set]; exact hS.1, ?_, hS1⟩ h
  rw [← ez_ws_set]
  rw [ez_upd 3] at hP1
  exact hP1
theorem ez_las (hC : ez_C p R s m args c X B own cc nL h) (hS : ez_S X B H0 n σ H locs) {i : Int32} {x : Int64} {g : ez_H → Option β} (h : ez_bd (ez_lst σ a i x) g = some z) (hdg : decode cc pc = .ok (.lastore, 1))
    (kk : ∀ (σ1 : ez_H) (H1 : Heap) (locs1 : List Loc), ez_S X B H0 n σ1 H1 locs1 → g σ1 = some z → W p l e R s m args below meth c H1 locs1 cells slots Q (F0 m (pc + 1) ls rest)) : W p l e R s m args below meth c H locs cells slots Q (F0 m pc ls (.long x :: .int i :: .ref (B + a) :: rest)) := by
  obtain ⟨σ1, e1, h⟩ := ez_bd_sp h
  obtain ⟨n0, l0, he, hi, rfl⟩ := ez_lst_sp e1
  refine va_last (D := X.1) (cl := vwCl) (ws := ez_ws X B σ) hC.1.1 hC.1.2.1 hC.2.1 hS.2.1 ez_D hS.2.2 a 2 (f := ez_get 0 l0) (ez_ws_at he) rfl hi hdg (fun H1 locs1 hP1 _ hS1 => ?_)
  refine kk _ H1 locs1 ⟨by rw [List.length_set]; exact hS.1, ?_, hS1⟩ h
  rw [← ez_ws_set]
  rw [ez_updL] at hP1
  exact hP1
theorem ez_copyi {a0 index : Nat} {q : Int32} (hC : ez_C p R s m args c X B own cc nL h) (hS : ez_S X B H0 n σ H locs) (hlk : Cond.methodLink own index arraycopyName ∈ tq_tbl) (hrest : rest = []) (hl : ls.size = nL) (hh : 1 ≤ h) {g : ez_H → Option β} (h : ez_bd (ez_cp σ a0 a q) g = some z) (hdg : decode cc pc = .ok (.invokestatic index, 3))
    (kk : ∀ (σ1 : ez_H) (H1 : Heap) (locs1 : List Loc), ez_S X B H0 n σ1 H1 locs1 → g σ1 = some z → W p l e R s m args below meth c H1 locs1 cells slots Q (F0 m (pc + 3) ls rest)) : W p l e R s m args below meth c H locs cells slots Q (F0 m pc ls (.int q :: .int 0 :: .ref (B + a) :: .int 0 :: .ref (B + a0) :: rest)) := by
  obtain ⟨σ1, e1, h⟩ := ez_bd_sp h
  obtain ⟨n0, l0, n1, l1, he0, he, hq, h0, h1, rfl⟩ := ez_cp_sp e1
  have hts := hC.1.2.2.2.2
  have hz : (0 : Int32).toNatClampNeg = 0 := rfl
  subst hrest
  refine va_copyi (D := X.1) (cl := vwCl) (ws := ez_ws X B σ) hC.1.1 hC.1.2.1 (hC.1.2.2.1.trans hl.symm) hC.1.2.2.2.1 (hts _ hlk) (hts _ qa_n) (hts _ qa_s) (hts _ qa_i) hC.2.1 hS.2.1 ez_D hS.2.2 a0 a 1 1 (f := ez_get 0 l0) (g := ez_get 0 l1) (ez_ws_at he0) (ez_ws_at he) rfl rfl rfl (by decide) (by decide) hq (by rw [hz]; omega) (by rw [hz]; omega) (fun _ _ => rfl) (Nat.le_trans hh hC.2.2.1) ?_ hdg (fun H1 locs1 hP1 _ hS1 => ?_)
  · refine Nat.le_trans ?_ hC.2.2.2.1
    refine Nat.le_trans (show _ ≤ 100 * 1 by decide) (Nat.mul_le_mul_left 100 hh)
  refine kk _ H1 locs1 ⟨by rw [List.length_set]; exact hS.1, ?_, hS1⟩ h
  rw [← ez_ws_set]
  have e9 : va_cpy (ez_get 0 l0) (ez_get 0 l1) (0 : Int32).toNatClampNeg (0 : Int32).toNatClampNeg q.toNatClampNeg = ez_get 0 (ez_cpl q.toNatClampNeg l0 l1) := by
    funext j
    rw [ez_cpl_get, hz]
    unfold va_cpy
    by_cases hj : j < q.toNatClampNeg
    · rw [if_pos ⟨Nat.zero_le _, by omega⟩, if_pos hj, Nat.zero_add, Nat.sub_zero]
    · rw [if_neg (fun q9 => hj (by omega)), if_neg hj]
  rw [e9] at hP1
  exact hP1
end EZR
