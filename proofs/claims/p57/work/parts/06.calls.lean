section EZC
variable {p : Program} {l : Launch} {e : Env} {R : Room} {s : State} {m : MethodId} {args : Array Value} {below : List Frame} {meth : Method} {c : Code} {H : Heap} {locs : List Loc} {cells slots : Nat} {Q : State → Prop}
variable {cc : ByteArray} {pc : Nat} {ls : Array Slot} {rest : List Value} {X : ez_X} {B : Nat} {a : Nat} {own : String} {nL h : Nat} {n : Nat} {σ : ez_H} {β : Type} {z : β}
theorem ez_rcv {ci : Nat} {g : List ez_V → Option β} (h : ez_bd (ez_ob σ ci a) g = some z) : ∃ fs, σ[a]? = some (.inr (.inr (.inr (ci, fs)))) := by
  obtain ⟨fs, e1, -⟩ := ez_bd_sp h
  exact ⟨fs, ez_ob_sp e1⟩
theorem ez_in {h0 : Nat} {ci : Nat} {g : List ez_V → Option β} (h : ez_bd (ez_ob σ ci h0) g = some z) : ∃ fs, g fs = some z := by
  obtain ⟨fs, -, h⟩ := ez_bd_sp h
  exact ⟨fs, h⟩
/-- behind a call: the heap as the callee left it -/
theorem ez_S.call {σ1 : ez_H} {st t : State} {L : List Loc} (hS : ez_S X B s.heap n σ st.heap locs) (hl : σ1.length = n) (hP : va_P X.1 vwCl (ez_ws X B σ1) t.heap) (hF : va_F (ez_A B) st t) (hL : ∀ q ∈ L, ez_A B q.base) : ez_S X B s.heap n σ1 t.heap (locs ++ L) := by
  obtain ⟨-, -, h1, h2, h3⟩ := hS
  exact ⟨hl, hP, Nat.le_trans h1 hF.1, fun q q1 q2 => (hF.2 q (Nat.lt_of_lt_of_le q1 h1) q2).trans (h2 q q1 q2), fun q hq => (List.mem_append.mp hq).elim (h3 q) (hL q)⟩
theorem ez_callV {y : MethodName} {cc' : ByteArray} {maxL' h' n' index ci N : Nat} {T : u_T} {ret' : Option FieldType} {As st : List Value} {r : Option Value} {σ1 : ez_H} (hC : ez_C p R s m args c X B own cc nL h) (hM : ez_M l X B σ y cc' maxL' ret' h' (.ref (B + a) :: As) r σ1) (hk : tq_KV y cc' maxL' ret' n') (hlk : Cond.methodLink own index y ∈ tq_tbl) (hn : As.length = n') (hh : h' + 1 ≤ h) (hS : ez_S X B s.heap n σ H locs) (hr : ∃ fs, σ[a]? = some (.inr (.inr (.inr (ci, fs))))) (hcl : vwCl[ci]? = some (y.cls, T, N)) (hl : ls.size = nL) (hst : st = As.reverse ++ .ref (B + a) :: rest) (hsum : (rest.map fun v => v.category).sum ≤ 8) (hz : cells ≤ R.cells ∧ slots ≤ R.slots) (hdg : decode cc pc = .ok (.invokevirtual index, 3))
    (kk : ∀ (H1 : Heap) (locs1 : List Loc), ez_S X B s.heap n σ1 H1 locs1 → W p l e R s m args below meth c H1 locs1 cells slots Q (F0 m (pc + 3) ls (r.toList ++ rest))) : W p l e R s m args below meth c H locs cells slots Q (F0 m pc ls st) := by
  obtain ⟨k1, k2, k3, k4, k5, k6, k7, k8⟩ := hk
  have hts := hC.1.2.2.2.2
  have cw : CallW R s args own y.cls index y cc' maxL' ret' (Cond.code y cc' maxL' ret' :: tq_tbl) (ez_rm h' 0 0) 0 0 n' := ⟨callB_of n' hts (tq_goodT k1) rfl rfl rfl (hts _ k4) (hts _ hlk) ⟨k6, k7, k8⟩ ⟨by show h' + 1 ≤ _; have := hC.2.2.1; omega, by show 8 + (maxL' + 11) + 100 * h' ≤ _; have := hC.2.2.2.1; omega⟩, hts _ k2, hts _ k3⟩
  obtain ⟨fs, he⟩ := hr
  have hr := va_recv (D := X.1) (cl := vwCl) (ws := ez_ws X B σ) hC.2.1 hS.2.1 hcl (q0 := a) (a := B + a) (fs := fs.map (ez_rv B)) (ez_ws_at he)
  intro T0 hT0 X0
  obtain ⟨v, st₀, t, T', L, h0, X', hL, e1, e2, hq, stp⟩ := va_runV (g := F0 m pc ls st) (As := As) (rest := rest) hC.1 hM cw ⟨ez_blind, hr, fun U hU hW => ⟨rfl, by rw [hU]; exact hS.2.1, va_K.moved hW.alike hC.2.1, hC.2.2.2.2.at hW hU hS.2.2⟩⟩ rfl hn hl hst (lv_room hsum) hdg ⟨hz.1, hz.2⟩ T0 hT0 X0
  obtain ⟨⟨hv, hlen, hP1⟩, hF⟩ := hq
  cases hv
  subst h0
  obtain ⟨t2, a1, b1⟩ := kk t.heap (locs ++ L) (hS.call (hlen.trans hS.1) hP1 hF hL) T' e1 X'
  exact ⟨t2, stp t2 a1, b1⟩
theorem ez_cVpi {y : MethodName} {cc' : ByteArray} {maxL' h' n' index ci N : Nat} {T : u_T} {ret' : Option FieldType} {As st : List Value} {f : Option Int32} {g : Int32 → Option β} (hq : ez_bd f g = some z) (hM : ∀ q, f = some q → ez_M l X B σ y cc' maxL' ret' h' (.ref (B + a) :: As) (some (.int q)) σ) (hC : ez_C p R s m args c X B own cc nL h) (hk : tq_KV y cc' maxL' ret' n') (hlk : Cond.methodLink own index y ∈ tq_tbl) (hn : As.length = n') (hh : h' + 1 ≤ h) (hS : ez_S X B s.heap n σ H locs) (hr : ∀ q, f = some q → ∃ fs, σ[a]? = some (.inr (.inr (.inr (ci, fs))))) (hcl : vwCl[ci]? = some (y.cls, T, N)) (hl : ls.size = nL) (hst : st = As.reverse ++ .ref (B + a) :: rest) (hsum : (rest.map fun v => v.category).sum ≤ 8) (hz : cells ≤ R.cells ∧ slots ≤ R.slots) (hdg : decode cc pc = .ok (.invokevirtual index, 3))
    (kk : ∀ (r : Int32) (H1 : Heap) (locs1 : List Loc), ez_S X B s.heap n σ H1 locs1 → g r = some z → W p l e R s m args below meth c H1 locs1 cells slots Q (F0 m (pc + 3) ls (.int r :: rest))) : W p l e R s m args below meth c H locs cells slots Q (F0 m pc ls st) := by
  obtain ⟨r, hf, hq⟩ := ez_bd_sp hq
  exact ez_callV hC (hM r hf) hk hlk hn hh hS (hr _ hf) hcl hl hst hsum hz hdg (fun H1 locs1 hS1 => kk r H1 locs1 hS1 hq)
theorem ez_cVi {y : MethodName} {cc' : ByteArray} {maxL' h' n' index ci N : Nat} {T : u_T} {ret' : Option FieldType} {As st : List Value} {f : Option (Int32 × ez_H)} {g : Int32 → ez_H → Option β} (hq : ez_b2 f g = some z) (hM : ∀ q, f = some q → ez_M l X B σ y cc' maxL' ret' h' (.ref (B + a) :: As) (some (.int q.1)) q.2) (hC : ez_C p R s m args c X B own cc nL h) (hk : tq_KV y cc' maxL' ret' n') (hlk : Cond.methodLink own index y ∈ tq_tbl) (hn : As.length = n') (hh : h' + 1 ≤ h) (hS : ez_S X B s.heap n σ H locs) (hr : ∀ q, f = some q → ∃ fs, σ[a]? = some (.inr (.inr (.inr (ci, fs))))) (hcl : vwCl[ci]? = some (y.cls, T, N)) (hl : ls.size = nL) (hst : st = As.reverse ++ .ref (B + a) :: rest) (hsum : (rest.map fun v => v.category).sum ≤ 8) (hz : cells ≤ R.cells ∧ slots ≤ R.slots) (hdg : decode cc pc = .ok (.invokevirtual index, 3))
    (kk : ∀ (r : Int32) (σ1 : ez_H) (H1 : Heap) (locs1 : List Loc), ez_S X B s.heap n σ1 H1 locs1 → g r σ1 = some z → W p l e R s m args below meth c H1 locs1 cells slots Q (F0 m (pc + 3) ls (.int r :: rest))) : W p l e R s m args below meth c H locs cells slots Q (F0 m pc ls st) := by
  obtain ⟨r, σ1, hf, hq⟩ := ez_b2_sp hq
  exact ez_callV hC (hM (r, σ1) hf) hk hlk hn hh hS (hr _ hf) hcl hl hst hsum hz hdg (fun H1 locs1 hS1 => kk r σ1 H1 locs1 hS1 hq)
theorem ez_cVpl {y : MethodName} {cc' : ByteArray} {maxL' h' n' index ci N : Nat} {T : u_T} {ret' : Option FieldType} {As st : List Value} {f : Option Int64} {g : Int64 → Option β} (hq : ez_bd f g = some z) (hM : ∀ q, f = some q → ez_M l X B σ y cc' maxL' ret' h' (.ref (B + a) :: As) (some (.long q)) σ) (hC : ez_C p R s m args c X B own cc nL h) (hk : tq_KV y cc' maxL' ret' n') (hlk : Cond.methodLink own index y ∈ tq_tbl) (hn : As.length = n') (hh : h' + 1 ≤ h) (hS : ez_S X B s.heap n σ H locs) (hr : ∀ q, f = some q → ∃ fs, σ[a]? = some (.inr (.inr (.inr (ci, fs))))) (hcl : vwCl[ci]? = some (y.cls, T, N)) (hl : ls.size = nL) (hst : st = As.reverse ++ .ref (B + a) :: rest) (hsum : (rest.map fun v => v.category).sum ≤ 8) (hz : cells ≤ R.cells ∧ slots ≤ R.slots) (hdg : decode cc pc = .ok (.invokevirtual index, 3))
    (kk : ∀ (r : Int64) (H1 : Heap) (locs1 : List Loc), ez_S X B s.heap n σ H1 locs1 → g r = some z → W p l e R s m args below meth c H1 locs1 cells slots Q (F0 m (pc + 3) ls (.long r :: rest))) : W p l e R s m args below meth c H locs cells slots Q (F0 m pc ls st) := by
  obtain ⟨r, hf, hq⟩ := ez_bd_sp hq
  exact ez_callV hC (hM r hf) hk hlk hn hh hS (hr _ hf) hcl hl hst hsum hz hdg (fun H1 locs1 hS1 => kk r H1 locs1 hS1 hq)
theorem ez_cVl {y : MethodName} {cc' : ByteArray} {maxL' h' n' index ci N : Nat} {T : u_T} {ret' : Option FieldType} {As st : List Value} {f : Option (Int64 × ez_H)} {g : Int64 → ez_H → Option β} (hq : ez_b2 f g = some z) (hM : ∀ q, f = some q → ez_M l X B σ y cc' maxL' ret' h' (.ref (B + a) :: As) (some (.long q.1)) q.2) (hC : ez_C p R s m args c X B own cc nL h) (hk : tq_KV y cc' maxL' ret' n') (hlk : Cond.methodLink own index y ∈ tq_tbl) (hn : As.length = n') (hh : h' + 1 ≤ h) (hS : ez_S X B s.heap n σ H locs) (hr : ∀ q, f = some q → ∃ fs, σ[a]? = some (.inr (.inr (.inr (ci, fs))))) (hcl : vwCl[ci]? = some (y.cls, T, N)) (hl : ls.size = nL) (hst : st = As.reverse ++ .ref (B + a) :: rest) (hsum : (rest.map fun v => v.category).sum ≤ 8) (hz : cells ≤ R.cells ∧ slots ≤ R.slots) (hdg : decode cc pc = .ok (.invokevirtual index, 3))
    (kk : ∀ (r : Int64) (σ1 : ez_H) (H1 : Heap) (locs1 : List Loc), ez_S X B s.heap n σ1 H1 locs1 → g r σ1 = some z → W p l e R s m args below meth c H1 locs1 cells slots Q (F0 m (pc + 3) ls (.long r :: rest))) : W p l e R s m args below meth c H locs cells slots Q (F0 m pc ls st) := by
  obtain ⟨r, σ1, hf, hq⟩ := ez_b2_sp hq
  exact ez_callV hC (hM (r, σ1) hf) hk hlk hn hh hS (hr _ hf) hcl hl hst hsum hz hdg (fun H1 locs1 hS1 => kk r σ1 H1 locs1 hS1 hq)
theorem ez_cVpr {y : MethodName} {cc' : ByteArray} {maxL' h' n' index ci N : Nat} {T : u_T} {ret' : Option FieldType} {As st : List Value} {f : Option Nat} {g : Nat → Option β} (hq : ez_bd f g = some z) (hM : ∀ q, f = some q → ez_M l X B σ y cc' maxL' ret' h' (.ref (B + a) :: As) (some (.ref (B + q))) σ) (hC : ez_C p R s m args c X B own cc nL h) (hk : tq_KV y cc' maxL' ret' n') (hlk : Cond.methodLink own index y ∈ tq_tbl) (hn : As.length = n') (hh : h' + 1 ≤ h) (hS : ez_S X B s.heap n σ H locs) (hr : ∀ q, f = some q → ∃ fs, σ[a]? = some (.inr (.inr (.inr (ci, fs))))) (hcl : vwCl[ci]? = some (y.cls, T, N)) (hl : ls.size = nL) (hst : st = As.reverse ++ .ref (B + a) :: rest) (hsum : (rest.map fun v => v.category).sum ≤ 8) (hz : cells ≤ R.cells ∧ slots ≤ R.slots) (hdg : decode cc pc = .ok (.invokevirtual index, 3))
    (kk : ∀ (r : Nat) (H1 : Heap) (locs1 : List Loc), ez_S X B s.heap n σ H1 locs1 → g r = some z → W p l e R s m args below meth c H1 locs1 cells slots Q (F0 m (pc + 3) ls (.ref (B + r) :: rest))) : W p l e R s m args below meth c H locs cells slots Q (F0 m pc ls st) := by
  obtain ⟨r, hf, hq⟩ := ez_bd_sp hq
  exact ez_callV hC (hM r hf) hk hlk hn hh hS (hr _ hf) hcl hl hst hsum hz hdg (fun H1 locs1 hS1 => kk r H1 locs1 hS1 hq)
theorem ez_cVr {y : MethodName} {cc' : ByteArray} {maxL' h' n' index ci N : Nat} {T : u_T} {ret' : Option FieldType} {As st : List Value} {f : Option (Nat × ez_H)} {g : Nat → ez_H → Option β} (hq : ez_b2 f g = some z) (hM : ∀ q, f = some q → ez_M l X B σ y cc' maxL' ret' h' (.ref (B + a) :: As) (some (.ref (B + q.1))) q.2) (hC : ez_C p R s m args c X B own cc nL h) (hk : tq_KV y cc' maxL' ret' n') (hlk : Cond.methodLink own index y ∈ tq_tbl) (hn : As.length = n') (hh : h' + 1 ≤ h) (hS : ez_S X B s.heap n σ H locs) (hr : ∀ q, f = some q → ∃ fs, σ[a]? = some (.inr (.inr (.inr (ci, fs))))) (hcl : vwCl[ci]? = some (y.cls, T, N)) (hl : ls.size = nL) (hst : st = As.reverse ++ .ref (B + a) :: rest) (hsum : (rest.map fun v => v.category).sum ≤ 8) (hz : cells ≤ R.cells ∧ slots ≤ R.slots) (hdg : decode cc pc = .ok (.invokevirtual index, 3))
    (kk : ∀ (r : Nat) (σ1 : ez_H) (H1 : Heap) (locs1 : List Loc), ez_S X B s.heap n σ1 H1 locs1 → g r σ1 = some z → W p l e R s m args below meth c H1 locs1 cells slots Q (F0 m (pc + 3) ls (.ref (B + r) :: rest))) : W p l e R s m args below meth c H locs cells slots Q (F0 m pc ls st) := by
  obtain ⟨r, σ1, hf, hq⟩ := ez_b2_sp hq
  exact ez_callV hC (hM (r, σ1) hf) hk hlk hn hh hS (hr _ hf) hcl hl hst hsum hz hdg (fun H1 locs1 hS1 => kk r σ1 H1 locs1 hS1 hq)
theorem ez_cVpv {y : MethodName} {cc' : ByteArray} {maxL' h' n' index ci N : Nat} {T : u_T} {ret' : Option FieldType} {As st : List Value} {f : Option Unit} {g : Unit → Option β} (hq : ez_bd f g = some z) (hM : ∀ q, f = some q → ez_M l X B σ y cc' maxL' ret' h' (.ref (B + a) :: As) (none) σ) (hC : ez_C p R s m args c X B own cc nL h) (hk : tq_KV y cc' maxL' ret' n') (hlk : Cond.methodLink own index y ∈ tq_tbl) (hn : As.length = n') (hh : h' + 1 ≤ h) (hS : ez_S X B s.heap n σ H locs) (hr : ∀ q, f = some q → ∃ fs, σ[a]? = some (.inr (.inr (.inr (ci, fs))))) (hcl : vwCl[ci]? = some (y.cls, T, N)) (hl : ls.size = nL) (hst : st = As.reverse ++ .ref (B + a) :: rest) (hsum : (rest.map fun v => v.category).sum ≤ 8) (hz : cells ≤ R.cells ∧ slots ≤ R.slots) (hdg : decode cc pc = .ok (.invokevirtual index, 3))
    (kk : ∀ (r : Unit) (H1 : Heap) (locs1 : List Loc), ez_S X B s.heap n σ H1 locs1 → g r = some z → W p l e R s m args below meth c H1 locs1 cells slots Q (F0 m (pc + 3) ls (rest))) : W p l e R s m args below meth c H locs cells slots Q (F0 m pc ls st) := by
  obtain ⟨r, hf, hq⟩ := ez_bd_sp hq
  exact ez_callV hC (hM r hf) hk hlk hn hh hS (hr _ hf) hcl hl hst hsum hz hdg (fun H1 locs1 hS1 => kk r H1 locs1 hS1 hq)
theorem ez_cVv {y : MethodName} {cc' : ByteArray} {maxL' h' n' index ci N : Nat} {T : u_T} {ret' : Option FieldType} {As st : List Value} {f : Option (Unit × ez_H)} {g : Unit → ez_H → Option β} (hq : ez_b2 f g = some z) (hM : ∀ q, f = some q → ez_M l X B σ y cc' maxL' ret' h' (.ref (B + a) :: As) (none) q.2) (hC : ez_C p R s m args c X B own cc nL h) (hk : tq_KV y cc' maxL' ret' n') (hlk : Cond.methodLink own index y ∈ tq_tbl) (hn : As.length = n') (hh : h' + 1 ≤ h) (hS : ez_S X B s.heap n σ H locs) (hr : ∀ q, f = some q → ∃ fs, σ[a]? = some (.inr (.inr (.inr (ci, fs))))) (hcl : vwCl[ci]? = some (y.cls, T, N)) (hl : ls.size = nL) (hst : st = As.reverse ++ .ref (B + a) :: rest) (hsum : (rest.map fun v => v.category).sum ≤ 8) (hz : cells ≤ R.cells ∧ slots ≤ R.slots) (hdg : decode cc pc = .ok (.invokevirtual index, 3))
    (kk : ∀ (r : Unit) (σ1 : ez_H) (H1 : Heap) (locs1 : List Loc), ez_S X B s.heap n σ1 H1 locs1 → g r σ1 = some z → W p l e R s m args below meth c H1 locs1 cells slots Q (F0 m (pc + 3) ls (rest))) : W p l e R s m args below meth c H locs cells slots Q (F0 m pc ls st) := by
  obtain ⟨r, σ1, hf, hq⟩ := ez_b2_sp hq
  exact ez_callV hC (hM (r, σ1) hf) hk hlk hn hh hS (hr _ hf) hcl hl hst hsum hz hdg (fun H1 locs1 hS1 => kk r σ1 H1 locs1 hS1 hq)
theorem ez_callS {y : MethodName} {cc' : ByteArray} {maxL' h' n' index : Nat} {ret' : Option FieldType} {As st : List Value} {r : Option Value} {σ1 : ez_H} (hC : ez_C p R s m args c X B own cc nL h) (hM : ez_M l X B σ y cc' maxL' ret' h' As r σ1) (hk : tq_KS y cc' maxL' ret' n') (hlk : Cond.methodLink own index y ∈ tq_tbl) (hn : As.length = n') (hh : h' + 1 ≤ h) (hS : ez_S X B s.heap n σ H locs) (hl : ls.size = nL) (hst : st = As.reverse ++ rest) (hsum : (rest.map fun v => v.category).sum ≤ 8) (hz : cells ≤ R.cells ∧ slots ≤ R.slots) (hdg : decode cc pc = .ok (.invokestatic index, 3))
    (kk : ∀ (H1 : Heap) (locs1 : List Loc), ez_S X B s.heap n σ1 H1 locs1 → W p l e R s m args below meth c H1 locs1 cells slots Q (F0 m (pc + 3) ls (r.toList ++ rest))) : W p l e R s m args below meth c H locs cells slots Q (F0 m pc ls st) := by
  obtain ⟨k1, k2, k4, k5, k6, k7, k8⟩ := hk
  have hts := hC.1.2.2.2.2
  have cw : CallB R s args own index y cc' maxL' ret' (Cond.code y cc' maxL' ret' :: tq_tbl) (ez_rm h' 0 0) 0 0 n' ∧ (Cond.static y).before args s = true := ⟨callB_of n' hts (tq_goodT k1) rfl rfl rfl (hts _ k4) (hts _ hlk) ⟨k6, k7, k8⟩ ⟨by show h' + 1 ≤ _; have := hC.2.2.1; omega, by show 8 + (maxL' + 11) + 100 * h' ≤ _; have := hC.2.2.2.1; omega⟩, hts _ k2⟩
  intro T0 hT0 X0
  obtain ⟨v, st₀, t, T', L, h0, X', hL, e1, e2, hq, stp⟩ := va_runS (g := F0 m pc ls st) (As := As) (rest := rest) hC.1 hM cw ⟨ez_blind, fun U hU hW => ⟨rfl, by rw [hU]; exact hS.2.1, va_K.moved hW.alike hC.2.1, hC.2.2.2.2.at hW hU hS.2.2⟩⟩ rfl hn hl hst (lv_room hsum) hdg ⟨hz.1, hz.2⟩ T0 hT0 X0
  obtain ⟨⟨hv, hlen, hP1⟩, hF⟩ := hq
  cases hv
  subst h0
  obtain ⟨t2, a1, b1⟩ := kk t.heap (locs ++ L) (hS.call (hlen.trans hS.1) hP1 hF hL) T' e1 X'
  exact ⟨t2, stp t2 a1, b1⟩
theorem ez_cSpi {y : MethodName} {cc' : ByteArray} {maxL' h' n' index : Nat} {ret' : Option FieldType} {As st : List Value} {f : Option Int32} {g : Int32 → Option β} (hq : ez_bd f g = some z) (hM : ∀ q, f = some q → ez_M l X B σ y cc' maxL' ret' h' As (some (.int q)) σ) (hC : ez_C p R s m args c X B own cc nL h) (hk : tq_KS y cc' maxL' ret' n') (hlk : Cond.methodLink own index y ∈ tq_tbl) (hn : As.length = n') (hh : h' + 1 ≤ h) (hS : ez_S X B s.heap n σ H locs) (hl : ls.size = nL) (hst : st = As.reverse ++ rest) (hsum : (rest.map fun v => v.category).sum ≤ 8) (hz : cells ≤ R.cells ∧ slots ≤ R.slots) (hdg : decode cc pc = .ok (.invokestatic index, 3))
    (kk : ∀ (r : Int32) (H1 : Heap) (locs1 : List Loc), ez_S X B s.heap n σ H1 locs1 → g r = some z → W p l e R s m args below meth c H1 locs1 cells slots Q (F0 m (pc + 3) ls (.int r :: rest))) : W p l e R s m args below meth c H locs cells slots Q (F0 m pc ls st) := by
  obtain ⟨r, hf, hq⟩ := ez_bd_sp hq
  exact ez_callS hC (hM r hf) hk hlk hn hh hS hl hst hsum hz hdg (fun H1 locs1 hS1 => kk r H1 locs1 hS1 hq)
theorem ez_cSi {y : MethodName} {cc' : ByteArray} {maxL' h' n' index : Nat} {ret' : Option FieldType} {As st : List Value} {f : Option (Int32 × ez_H)} {g : Int32 → ez_H → Option β} (hq : ez_b2 f g = some z) (hM : ∀ q, f = some q → ez_M l X B σ y cc' maxL' ret' h' As (some (.int q.1)) q.2) (hC : ez_C p R s m args c X B own cc nL h) (hk : tq_KS y cc' maxL' ret' n') (hlk : Cond.methodLink own index y ∈ tq_tbl) (hn : As.length = n') (hh : h' + 1 ≤ h) (hS : ez_S X B s.heap n σ H locs) (hl : ls.size = nL) (hst : st = As.reverse ++ rest) (hsum : (rest.map fun v => v.category).sum ≤ 8) (hz : cells ≤ R.cells ∧ slots ≤ R.slots) (hdg : decode cc pc = .ok (.invokestatic index, 3))
    (kk : ∀ (r : Int32) (σ1 : ez_H) (H1 : Heap) (locs1 : List Loc), ez_S X B s.heap n σ1 H1 locs1 → g r σ1 = some z → W p l e R s m args below meth c H1 locs1 cells slots Q (F0 m (pc + 3) ls (.int r :: rest))) : W p l e R s m args below meth c H locs cells slots Q (F0 m pc ls st) := by
  obtain ⟨r, σ1, hf, hq⟩ := ez_b2_sp hq
  exact ez_callS hC (hM (r, σ1) hf) hk hlk hn hh hS hl hst hsum hz hdg (fun H1 locs1 hS1 => kk r σ1 H1 locs1 hS1 hq)
theorem ez_cSpl {y : MethodName} {cc' : ByteArray} {maxL' h' n' index : Nat} {ret' : Option FieldType} {As st : List Value} {f : Option Int64} {g : Int64 → Option β} (hq : ez_bd f g = some z) (hM : ∀ q, f = some q → ez_M l X B σ y cc' maxL' ret' h' As (some (.long q)) σ) (hC : ez_C p R s m args c X B own cc nL h) (hk : tq_KS y cc' maxL' ret' n') (hlk : Cond.methodLink own index y ∈ tq_tbl) (hn : As.length = n') (hh : h' + 1 ≤ h) (hS : ez_S X B s.heap n σ H locs) (hl : ls.size = nL) (hst : st = As.reverse ++ rest) (hsum : (rest.map fun v => v.category).sum ≤ 8) (hz : cells ≤ R.cells ∧ slots ≤ R.slots) (hdg : decode cc pc = .ok (.invokestatic index, 3))
    (kk : ∀ (r : Int64) (H1 : Heap) (locs1 : List Loc), ez_S X B s.heap n σ H1 locs1 → g r = some z → W p l e R s m args below meth c H1 locs1 cells slots Q (F0 m (pc + 3) ls (.long r :: rest))) : W p l e R s m args below meth c H locs cells slots Q (F0 m pc ls st) := by
  obtain ⟨r, hf, hq⟩ := ez_bd_sp hq
  exact ez_callS hC (hM r hf) hk hlk hn hh hS hl hst hsum hz hdg (fun H1 locs1 hS1 => kk r H1 locs1 hS1 hq)
theorem ez_cSl {y : MethodName} {cc' : ByteArray} {maxL' h' n' index : Nat} {ret' : Option FieldType} {As st : List Value} {f : Option (Int64 × ez_H)} {g : Int64 → ez_H → Option β} (hq : ez_b2 f g = some z) (hM : ∀ q, f = some q → ez_M l X B σ y cc' maxL' ret' h' As (some (.long q.1)) q.2) (hC : ez_C p R s m args c X B own cc nL h) (hk : tq_KS y cc' maxL' ret' n') (hlk : Cond.methodLink own index y ∈ tq_tbl) (hn : As.length = n') (hh : h' + 1 ≤ h) (hS : ez_S X B s.heap n σ H locs) (hl : ls.size = nL) (hst : st = As.reverse ++ rest) (hsum : (rest.map fun v => v.category).sum ≤ 8) (hz : cells ≤ R.cells ∧ slots ≤ R.slots) (hdg : decode cc pc = .ok (.invokestatic index, 3))
    (kk : ∀ (r : Int64) (σ1 : ez_H) (H1 : Heap) (locs1 : List Loc), ez_S X B s.heap n σ1 H1 locs1 → g r σ1 = some z → W p l e R s m args below meth c H1 locs1 cells slots Q (F0 m (pc + 3) ls (.long r :: rest))) : W p l e R s m args below meth c H locs cells slots Q (F0 m pc ls st) := by
  obtain ⟨r, σ1, hf, hq⟩ := ez_b2_sp hq
  exact ez_callS hC (hM (r, σ1) hf) hk hlk hn hh hS hl hst hsum hz hdg (fun H1 locs1 hS1 => kk r σ1 H1 locs1 hS1 hq)
theorem ez_cSpr {y : MethodName} {cc' : ByteArray} {maxL' h' n' index : Nat} {ret' : Option FieldType} {As st : List Value} {f : Option Nat} {g : Nat → Option β} (hq : ez_bd f g = some z) (hM : ∀ q, f = some q → ez_M l X B σ y cc' maxL' ret' h' As (some (.ref (B + q))) σ) (hC : ez_C p R s m args c X B own cc nL h) (hk : tq_KS y cc' maxL' ret' n') (hlk : Cond.methodLink own index y ∈ tq_tbl) (hn : As.length = n') (hh : h' + 1 ≤ h) (hS : ez_S X B s.heap n σ H locs) (hl : ls.size = nL) (hst : st = As.reverse ++ rest) (hsum : (rest.map fun v => v.category).sum ≤ 8) (hz : cells ≤ R.cells ∧ slots ≤ R.slots) (hdg : decode cc pc = .ok (.invokestatic index, 3))
    (kk : ∀ (r : Nat) (H1 : Heap) (locs1 : List Loc), ez_S X B s.heap n σ H1 locs1 → g r = some z → W p l e R s m args below meth c H1 locs1 cells slots Q (F0 m (pc + 3) ls (.ref (B + r) :: rest))) : W p l e R s m args below meth c H locs cells slots Q (F0 m pc ls st) := by
  obtain ⟨r, hf, hq⟩ := ez_bd_sp hq
  exact ez_callS hC (hM r hf) hk hlk hn hh hS hl hst hsum hz hdg (fun H1 locs1 hS1 => kk r H1 locs1 hS1 hq)
theorem ez_cSr {y : MethodName} {cc' : ByteArray} {maxL' h' n' index : Nat} {ret' : Option FieldType} {As st : List Value} {f : Option (Nat × ez_H)} {g : Nat → ez_H → Option β} (hq : ez_b2 f g = some z) (hM : ∀ q, f = some q → ez_M l X B σ y cc' maxL' ret' h' As (some (.ref (B + q.1))) q.2) (hC : ez_C p R s m args c X B own cc nL h) (hk : tq_KS y cc' maxL' ret' n') (hlk : Cond.methodLink own index y ∈ tq_tbl) (hn : As.length = n') (hh : h' + 1 ≤ h) (hS : ez_S X B s.heap n σ H locs) (hl : ls.size = nL) (hst : st = As.reverse ++ rest) (hsum : (rest.map fun v => v.category).sum ≤ 8) (hz : cells ≤ R.cells ∧ slots ≤ R.slots) (hdg : decode cc pc = .ok (.invokestatic index, 3))
    (kk : ∀ (r : Nat) (σ1 : ez_H) (H1 : Heap) (locs1 : List Loc), ez_S X B s.heap n σ1 H1 locs1 → g r σ1 = some z → W p l e R s m args below meth c H1 locs1 cells slots Q (F0 m (pc + 3) ls (.ref (B + r) :: rest))) : W p l e R s m args below meth c H locs cells slots Q (F0 m pc ls st) := by
  obtain ⟨r, σ1, hf, hq⟩ := ez_b2_sp hq
  exact ez_callS hC (hM (r, σ1) hf) hk hlk hn hh hS hl hst hsum hz hdg (fun H1 locs1 hS1 => kk r σ1 H1 locs1 hS1 hq)
theorem ez_cSpv {y : MethodName} {cc' : ByteArray} {maxL' h' n' index : Nat} {ret' : Option FieldType} {As st : List Value} {f : Option Unit} {g : Unit → Option β} (hq : ez_bd f g = some z) (hM : ∀ q, f = some q → ez_M l X B σ y cc' maxL' ret' h' As (none) σ) (hC : ez_C p R s m args c X B own cc nL h) (hk : tq_KS y cc' maxL' ret' n') (hlk : Cond.methodLink own index y ∈ tq_tbl) (hn : As.length = n') (hh : h' + 1 ≤ h) (hS : ez_S X B s.heap n σ H locs) (hl : ls.size = nL) (hst : st = As.reverse ++ rest) (hsum : (rest.map fun v => v.category).sum ≤ 8) (hz : cells ≤ R.cells ∧ slots ≤ R.slots) (hdg : decode cc pc = .ok (.invokestatic index, 3))
    (kk : ∀ (r : Unit) (H1 : Heap) (locs1 : List Loc), ez_S X B s.heap n σ H1 locs1 → g r = some z → W p l e R s m args below meth c H1 locs1 cells slots Q (F0 m (pc + 3) ls (rest))) : W p l e R s m args below meth c H locs cells slots Q (F0 m pc ls st) := by
  obtain ⟨r, hf, hq⟩ := ez_bd_sp hq
  exact ez_callS hC (hM r hf) hk hlk hn hh hS hl hst hsum hz hdg (fun H1 locs1 hS1 => kk r H1 locs1 hS1 hq)
theorem ez_cSv {y : MethodName} {cc' : ByteArray} {maxL' h' n' index : Nat} {ret' : Option FieldType} {As st : List Value} {f : Option (Unit × ez_H)} {g : Unit → ez_H → Option β} (hq : ez_b2 f g = some z) (hM : ∀ q, f = some q → ez_M l X B σ y cc' maxL' ret' h' As (none) q.2) (hC : ez_C p R s m args c X B own cc nL h) (hk : tq_KS y cc' maxL' ret' n') (hlk : Cond.methodLink own index y ∈ tq_tbl) (hn : As.length = n') (hh : h' + 1 ≤ h) (hS : ez_S X B s.heap n σ H locs) (hl : ls.size = nL) (hst : st = As.reverse ++ rest) (hsum : (rest.map fun v => v.category).sum ≤ 8) (hz : cells ≤ R.cells ∧ slots ≤ R.slots) (hdg : decode cc pc = .ok (.invokestatic index, 3))
    (kk : ∀ (r : Unit) (σ1 : ez_H) (H1 : Heap) (locs1 : List Loc), ez_S X B s.heap n σ1 H1 locs1 → g r σ1 = some z → W p l e R s m args below meth c H1 locs1 cells slots Q (F0 m (pc + 3) ls (rest))) : W p l e R s m args below meth c H locs cells slots Q (F0 m pc ls st) := by
  obtain ⟨r, σ1, hf, hq⟩ := ez_b2_sp hq
  exact ez_callS hC (hM (r, σ1) hf) hk hlk hn hh hS hl hst hsum hz hdg (fun H1 locs1 hS1 => kk r σ1 H1 locs1 hS1 hq)
theorem ez_callU {y : MethodName} {cc' : ByteArray} {maxL' h' n' index : Nat} {ret' : Option FieldType} {As st : List Value} {r : Option Value} {σ1 : ez_H} (hC : ez_C p R s m args c X B own cc nL h) (hM : ez_M l X B σ y cc' maxL' ret' h' (.ref a :: As) r σ1) (hk : tq_KV y cc' maxL' ret' n') (hlk : Cond.methodLink own index y ∈ tq_tbl) (hn : As.length = n') (hh : h' + 1 ≤ h) (hS : ez_S X B s.heap n σ H locs) (hr : ∃ cell : Cell, H[a]? = some cell ∧ cell.vm.isStatics = false ∧ s.vm.findClass y.cls = some cell.cls) (hl : ls.size = nL) (hst : st = As.reverse ++ .ref a :: rest) (hsum : (rest.map fun v => v.category).sum ≤ 8) (hz : cells ≤ R.cells ∧ slots ≤ R.slots) (hdg : decode cc pc = .ok (.invokevirtual index, 3))
    (kk : ∀ (H1 : Heap) (locs1 : List Loc), ez_S X B s.heap n σ1 H1 locs1 → W p l e R s m args below meth c H1 locs1 cells slots Q (F0 m (pc + 3) ls (r.toList ++ rest))) : W p l e R s m args below meth c H locs cells slots Q (F0 m pc ls st) := by
  obtain ⟨k1, k2, k3, k4, k5, k6, k7, k8⟩ := hk
  have hts := hC.1.2.2.2.2
  have cw : CallW R s args own y.cls index y cc' maxL' ret' (Cond.code y cc' maxL' ret' :: tq_tbl) (ez_rm h' 0 0) 0 0 n' := ⟨callB_of n' hts (tq_goodT k1) rfl rfl rfl (hts _ k4) (hts _ hlk) ⟨k6, k7, k8⟩ ⟨by show h' + 1 ≤ _; have := hC.2.2.1; omega, by show 8 + (maxL' + 11) + 100 * h' ≤ _; have := hC.2.2.2.1; omega⟩, hts _ k2, hts _ k3⟩
  intro T0 hT0 X0
  obtain ⟨v, st₀, t, T', L, h0, X', hL, e1, e2, hq, stp⟩ := va_runV (g := F0 m pc ls st) (As := As) (rest := rest) hC.1 hM cw ⟨ez_blind, hr, fun U hU hW => ⟨rfl, by rw [hU]; exact hS.2.1, va_K.moved hW.alike hC.2.1, hC.2.2.2.2.at hW hU hS.2.2⟩⟩ rfl hn hl hst (lv_room hsum) hdg ⟨hz.1, hz.2⟩ T0 hT0 X0
  obtain ⟨⟨hv, hlen, hP1⟩, hF⟩ := hq
  cases hv
  subst h0
  obtain ⟨t2, a1, b1⟩ := kk t.heap (locs ++ L) (hS.call (hlen.trans hS.1) hP1 hF hL) T' e1 X'
  exact ⟨t2, stp t2 a1, b1⟩
theorem ez_cUpi {y : MethodName} {cc' : ByteArray} {maxL' h' n' index : Nat} {ret' : Option FieldType} {As st : List Value} {f : Option Int32} {g : Int32 → Option β} (hq : ez_bd f g = some z) (hM : ∀ q, f = some q → ez_M l X B σ y cc' maxL' ret' h' (.ref a :: As) (some (.int q)) σ) (hC : ez_C p R s m args c X B own cc nL h) (hk : tq_KV y cc' maxL' ret' n') (hlk : Cond.methodLink own index y ∈ tq_tbl) (hn : As.length = n') (hh : h' + 1 ≤ h) (hS : ez_S X B s.heap n σ H locs) (hr : ∃ cell : Cell, H[a]? = some cell ∧ cell.vm.isStatics = false ∧ s.vm.findClass y.cls = some cell.cls) (hl : ls.size = nL) (hst : st = As.reverse ++ .ref a :: rest) (hsum : (rest.map fun v => v.category).sum ≤ 8) (hz : cells ≤ R.cells ∧ slots ≤ R.slots) (hdg : decode cc pc = .ok (.invokevirtual index, 3))
    (kk : ∀ (r : Int32) (H1 : Heap) (locs1 : List Loc), ez_S X B s.heap n σ H1 locs1 → g r = some z → W p l e R s m args below meth c H1 locs1 cells slots Q (F0 m (pc + 3) ls (.int r :: rest))) : W p l e R s m args below meth c H locs cells slots Q (F0 m pc ls st) := by
  obtain ⟨r, hf, hq⟩ := ez_bd_sp hq
  exact ez_callU hC (hM r hf) hk hlk hn hh hS hr hl hst hsum hz hdg (fun H1 locs1 hS1 => kk r H1 locs1 hS1 hq)
theorem ez_obj {idx : Nat} (hC : ez_C p R s m args c X B own cc nL h) (hlk : Cond.methodLink own idx objectInit ∈ tq_tbl) (hl : ls.size = nL) (hrest : rest = []) (hh : 1 ≤ h) (hdg : decode cc pc = .ok (.invokespecial idx, 3))
    (kk : W p l e R s m args below meth c H locs cells slots Q (F0 m (pc + 3) ls rest)) : W p l e R s m args below meth c H locs cells slots Q (F0 m pc ls (.ref a :: rest)) := by
  have hts := hC.1.2.2.2.2
  subst hrest
  exact W.objInit hC.1.1 hC.1.2.1 hC.1.2.2.2.1 (hts _ hlk) (hts _ qo_m) (hts _ qo_c) rfl (hl.trans hC.1.2.2.1.symm) rfl hdg (Nat.le_trans hh hC.2.2.1) (by show 2 * 0 + 0 + 12 ≤ _; have := hC.2.2.2.1; omega) kk
theorem ez_cI {y : MethodName} {cc' : ByteArray} {maxL' h' mc ms n' index c1 s1 n1 : Nat} {As st : List Value} {f : Option (Unit × ez_H)} {g : Unit → ez_H → Option β} (hq9 : ez_b2 f g = some z) (hM : ∀ q, f = some q → ez_Mn l X B σ y cc' maxL' h' mc ms (.ref (B + a) :: As) q.2) (hC : ez_C p R s m args c X B own cc nL h) (hk : Cond.code y cc' maxL' none ∈ tq_tbl ∧ Cond.instanceMethod y ∈ tq_tbl ∧ Cond.initialized y.cls ∈ tq_tbl) (hyn : y.name = "<init>") (hd : maxL' ≤ 81 ∧ y.cls ≠ "java/lang/invoke/MethodHandle" ∧ y.cls ≠ "java/lang/invoke/VarHandle" ∧ (parseMethodDescriptor y.desc).map (fun d => d.parameters.length) = some n') (hlk : Cond.methodLink own index y ∈ tq_tbl) (hn : As.length = n') (hh : h' + 1 ≤ h) (hS : ez_S X B s.heap n σ H locs) (hn0 : 0 < n) (hsz : s.heap.size + cells = B + n) (hl : ls.size = nL) (hst : st = As.reverse ++ .ref (B + a) :: rest) (hsum : (rest.map fun v => v.category).sum ≤ 8) (ec : cells + mc = c1) (es : slots + ms = s1) (en : n + mc = n1) (hz : c1 ≤ R.cells ∧ s1 ≤ R.slots) (hdg : decode cc pc = .ok (.invokespecial index, 3))
    (kk : ∀ (σ1 : ez_H) (H1 : Heap) (locs1 : List Loc), ez_S X B s.heap n1 σ1 H1 locs1 → s.heap.size + c1 = B + n1 → g () σ1 = some z → W p l e R s m args below meth c H1 locs1 c1 s1 Q (F0 m (pc + 3) ls rest)) : W p l e R s m args below meth c H locs cells slots Q (F0 m pc ls st) := by
  subst ec
  subst es
  subst en
  obtain ⟨u9, σ1, hf, hq9⟩ := ez_b2_sp hq9
  have hts := hC.1.2.2.2.2
  have hM := hM _ hf
  have cw : CallB R s args own index y cc' maxL' none (Cond.code y cc' maxL' none :: tq_tbl) (ez_rm h' mc ms) mc ms n' ∧ y.name = "<init>" ∧ (Cond.instanceMethod y).before args s = true := ⟨callB_of n' hts (tq_goodT hk.1) rfl rfl rfl (hts _ hk.2.2) (hts _ hlk) hd.2 ⟨by show h' + 1 ≤ _; have := hC.2.2.1; omega, by show 8 + (maxL' + 11) + 100 * h' ≤ _; have := hd.1; have := hC.2.2.2.1; omega⟩, hyn, hts _ hk.2.1⟩
  intro T0 hT0 X0
  have hsz1 : H.size = B + σ.length := by
    have q1 : H.size ≤ s.heap.size + cells := by rw [← hT0]; exact X0.heapSize
    have q2 := ez_S.size hS hn0
    have q3 := hS.1
    omega
  obtain ⟨v, st₀, t, T', L, h0, X', hL, e1, e2, hq, stp⟩ := va_runI (g := F0 m pc ls st) (As := As) (rest := rest) hC.1 hM cw ⟨ez_blindn, fun U hU hW => ⟨rfl, by rw [hU]; exact hsz1, by rw [hU]; exact hS.2.1, va_K.moved hW.alike hC.2.1, hC.2.2.2.2.at hW hU hS.2.2⟩⟩ rfl hn hl hst (lv_room hsum) hdg hz T0 hT0 X0
  obtain ⟨⟨hv, hlen, hP1⟩, hF⟩ := hq
  cases hv
  subst h0
  obtain ⟨h1, h2, h3⟩ := hS.2.2
  have hS1 : ez_S X B s.heap (n + mc) σ1 t.heap (locs ++ L) := ⟨by rw [hlen, hS.1], hP1, Nat.le_trans h1 hF.1, fun q q1 q2 => (hF.2 q (Nat.lt_of_lt_of_le q1 h1) q2).trans (h2 q q1 q2), fun q hq => (List.mem_append.mp hq).elim (h3 q) (hL q)⟩
  obtain ⟨t2, a1, b1⟩ := kk σ1 t.heap (locs ++ L) hS1 (by omega) hq9 T' e1 X'
  exact ⟨t2, stp t2 a1, b1⟩
end EZC
theorem ez_ofWF {l : Launch} {y : MethodName} {ws ws' : List Cond} {rm : Room} {Pc : Array Value → State → Prop} {Qc : Array Value → State → Outcome → State → Prop} {mc ms : Nat} {free : Addr → Prop} {cc : ByteArray} {maxL : Nat} {ret : Option FieldType}
    (hy : plainFor y = true) (hw : ws = Cond.code y cc maxL ret :: ws')
    (body : ∀ p e s m args below meth c s₁, BodyLoose p l y (headSpec ws rm) cc maxL ret e s m args below meth c s₁ → c.maxLocals = maxL → Pc args s →
      W p l e (headSpec ws rm).room s m args below meth c s.heap [] 0 0 (MQ below Qc args s mc ms free) (entryFrame m args maxL)) : Met l y ws rm Pc Qc mc ms free := by
  refine MetFree.of_bodySF (code := cc) (maxLocals := maxL) (ret := ret) hy ?_ ?_
  · intro args s m h hn
    obtain ⟨meth, c, h1, h2, h3, h4, h5, h6, -, -⟩ := Cond.code_spec hn (atoms_spec (ws := ws) h _ (by rw [hw]; exact List.mem_cons_self))
    exact ⟨meth, c, h1, h2, h3, h4, h5, h6⟩
  · intro p e s m args below meth c s₁ B hml hP _
    have hh0 : s₁.heap = s.heap := by rw [B.state]; rfl
    obtain ⟨t, a1, o, b1, b2, b3⟩ := body p e s m args below meth c s₁ B hml hP s₁ hh0 (Stand.of_body B)
    exact ⟨t, o, a1, b1, b2, ⟨b3.1, b3.2⟩⟩
section EZS
variable {l : Launch} {X : ez_X} {B : Nat} {σ : ez_H}
theorem ez_startip {ty : FieldType} {y : MethodName} {cc : ByteArray} {maxL h : Nat} {vs : List Value} {z : Int32} (hy : plainName y.cls = true) (hvs : (lg_sl vs).length ≤ maxL) (body : ∀ (p : Program) (e : Env) (R : Room) (s : State) (m : MethodId) (args : Array Value) (below : List Frame) (meth : Method) (c : Code) (Q : State → Prop), ez_C p R s m args c X B y.cls cc maxL h → (∀ (r : Int32) (H1 : Heap) (locs1 : List Loc) (ls : Array Slot) (pc : Nat), r = z → narrow ty (.int r) = .int r → ez_S X B s.heap σ.length σ H1 locs1 → decode cc pc = .ok (.ireturn, 1) → W p l e R s m args below meth c H1 locs1 0 0 Q (F0 m pc ls [.int r])) → ez_S X B s.heap σ.length σ s.heap [] → ∀ ls : Array Slot, lv_has ls maxL (lv_args 0 vs) → W p l e R s m args below meth c s.heap [] 0 0 Q (F0 m 0 ls [])) : ez_M l X B σ y cc maxL (some ty) h vs (some (.int z)) σ := by
  refine Met.ofW (cc := cc) (maxL := maxL) (ret := some ty) hy rfl ?_
  intro p e s m args below meth c s₁ B1 hml hv
  obtain ⟨rfl, hP, hK, hG⟩ := hv
  have hts := atoms_spec (ws := Cond.code y cc maxL (some ty) :: tq_tbl) B1.pre
  have hlocks := B1.notSynchronized
  have hl := lv_entry vs (n := maxL) hvs
  rw [lg_entry_eq]
  generalize (lg_sl vs ++ List.replicate (maxL - (lg_sl vs).length) Slot.unset).toArray = ls at hl ⊢
  exact body p e _ s m _ below meth c _ ⟨⟨B1.exec, B1.bytes, hml, findClass_of_methodNamed B1.named, fun w hw => hts w (List.mem_cons_of_mem _ hw)⟩, hK, Nat.le_refl _, Nat.le_refl _, hG⟩ (fun r H1 locs1 ls pc ez hn hS hd => by subst ez; exact W.zret B1.exec B1.bytes B1.returns hn (fun t ht hW => ⟨⟨rfl, hS.1, by rw [ht]; exact hS.2.1⟩, hS.2.2.F ht⟩) hS.2.2.2.2 hd) ⟨rfl, hP, va_S.rf⟩ ls hl
theorem ez_starti {ty : FieldType} {y : MethodName} {cc : ByteArray} {maxL h : Nat} {vs : List Value} {z : Int32 × ez_H} (hy : plainName y.cls = true) (hvs : (lg_sl vs).length ≤ maxL) (body : ∀ (p : Program) (e : Env) (R : Room) (s : State) (m : MethodId) (args : Array Value) (below : List Frame) (meth : Method) (c : Code) (Q : State → Prop), ez_C p R s m args c X B y.cls cc maxL h → (∀ (r : Int32) (σ1 : ez_H) (H1 : Heap) (locs1 : List Loc) (ls : Array Slot) (pc : Nat), (r, σ1) = z → narrow ty (.int r) = .int r → ez_S X B s.heap σ.length σ1 H1 locs1 → decode cc pc = .ok (.ireturn, 1) → W p l e R s m args below meth c H1 locs1 0 0 Q (F0 m pc ls [.int r])) → ez_S X B s.heap σ.length σ s.heap [] → ∀ ls : Array Slot, lv_has ls maxL (lv_args 0 vs) → W p l e R s m args below meth c s.heap [] 0 0 Q (F0 m 0 ls [])) : ez_M l X B σ y cc maxL (some ty) h vs (some (.int z.1)) z.2 := by
  refine Met.ofW (cc := cc) (maxL := maxL) (ret := some ty) hy rfl ?_
  intro p e s m args below meth c s₁ B1 hml hv
  obtain ⟨rfl, hP, hK, hG⟩ := hv
  have hts := atoms_spec (ws := Cond.code y cc maxL (some ty) :: tq_tbl) B1.pre
  have hlocks := B1.notSynchronized
  have hl := lv_entry vs (n := maxL) hvs
  rw [lg_entry_eq]
  generalize (lg_sl vs ++ List.replicate (maxL - (lg_sl vs).length) Slot.unset).toArray = ls at hl ⊢
  exact body p e _ s m _ below meth c _ ⟨⟨B1.exec, B1.bytes, hml, findClass_of_methodNamed B1.named, fun w hw => hts w (List.mem_cons_of_mem _ hw)⟩, hK, Nat.le_refl _, Nat.le_refl _, hG⟩ (fun r σ1 H1 locs1 ls pc ez hn hS hd => by subst ez; exact W.zret B1.exec B1.bytes B1.returns hn (fun t ht hW => ⟨⟨rfl, hS.1, by rw [ht]; exact hS.2.1⟩, hS.2.2.F ht⟩) hS.2.2.2.2 hd) ⟨rfl, hP, va_S.rf⟩ ls hl
theorem ez_startlp {y : MethodName} {cc : ByteArray} {maxL h : Nat} {vs : List Value} {z : Int64} (hy : plainName y.cls = true) (hvs : (lg_sl vs).length ≤ maxL) (body : ∀ (p : Program) (e : Env) (R : Room) (s : State) (m : MethodId) (args : Array Value) (below : List Frame) (meth : Method) (c : Code) (Q : State → Prop), ez_C p R s m args c X B y.cls cc maxL h → (∀ (r : Int64) (H1 : Heap) (locs1 : List Loc) (ls : Array Slot) (pc : Nat), r = z → ez_S X B s.heap σ.length σ H1 locs1 → decode cc pc = .ok (.lreturn, 1) → W p l e R s m args below meth c H1 locs1 0 0 Q (F0 m pc ls [.long r])) → ez_S X B s.heap σ.length σ s.heap [] → ∀ ls : Array Slot, lv_has ls maxL (lv_args 0 vs) → W p l e R s m args below meth c s.heap [] 0 0 Q (F0 m 0 ls [])) : ez_M l X B σ y cc maxL (some .long) h vs (some (.long z)) σ := by
  refine Met.ofW (cc := cc) (maxL := maxL) (ret := some .long) hy rfl ?_
  intro p e s m args below meth c s₁ B1 hml hv
  obtain ⟨rfl, hP, hK, hG⟩ := hv
  have hts := atoms_spec (ws := Cond.code y cc maxL (some .long) :: tq_tbl) B1.pre
  have hlocks := B1.notSynchronized
  have hl := lv_entry vs (n := maxL) hvs
  rw [lg_entry_eq]
  generalize (lg_sl vs ++ List.replicate (maxL - (lg_sl vs).length) Slot.unset).toArray = ls at hl ⊢
  exact body p e _ s m _ below meth c _ ⟨⟨B1.exec, B1.bytes, hml, findClass_of_methodNamed B1.named, fun w hw => hts w (List.mem_cons_of_mem _ hw)⟩, hK, Nat.le_refl _, Nat.le_refl _, hG⟩ (fun r H1 locs1 ls pc ez hS hd => by subst ez; exact W.lret B1.exec B1.bytes B1.returns (fun t ht hW => ⟨⟨rfl, hS.1, by rw [ht]; exact hS.2.1⟩, hS.2.2.F ht⟩) hS.2.2.2.2 hd) ⟨rfl, hP, va_S.rf⟩ ls hl
theorem ez_startl {y : MethodName} {cc : ByteArray} {maxL h : Nat} {vs : List Value} {z : Int64 × ez_H} (hy : plainName y.cls = true) (hvs : (lg_sl vs).length ≤ maxL) (body : ∀ (p : Program) (e : Env) (R : Room) (s : State) (m : MethodId) (args : Array Value) (below : List Frame) (meth : Method) (c : Code) (Q : State → Prop), ez_C p R s m args c X B y.cls cc maxL h → (∀ (r : Int64) (σ1 : ez_H) (H1 : Heap) (locs1 : List Loc) (ls : Array Slot) (pc : Nat), (r, σ1) = z → ez_S X B s.heap σ.length σ1 H1 locs1 → decode cc pc = .ok (.lreturn, 1) → W p l e R s m args below meth c H1 locs1 0 0 Q (F0 m pc ls [.long r])) → ez_S X B s.heap σ.length σ s.heap [] → ∀ ls : Array Slot, lv_has ls maxL (lv_args 0 vs) → W p l e R s m args below meth c s.heap [] 0 0 Q (F0 m 0 ls [])) : ez_M l X B σ y cc maxL (some .long) h vs (some (.long z.1)) z.2 := by
  refine Met.ofW (cc := cc) (maxL := maxL) (ret := some .long) hy rfl ?_
  intro p e s m args below meth c s₁ B1 hml hv
  obtain ⟨rfl, hP, hK, hG⟩ := hv
  have hts := atoms_spec (ws := Cond.code y cc maxL (some .long) :: tq_tbl) B1.pre
  have hlocks := B1.notSynchronized
  have hl := lv_entry vs (n := maxL) hvs
  rw [lg_entry_eq]
  generalize (lg_sl vs ++ List.replicate (maxL - (lg_sl vs).length) Slot.unset).toArray = ls at hl ⊢
  exact body p e _ s m _ below meth c _ ⟨⟨B1.exec, B1.bytes, hml, findClass_of_methodNamed B1.named, fun w hw => hts w (List.mem_cons_of_mem _ hw)⟩, hK, Nat.le_refl _, Nat.le_refl _, hG⟩ (fun r σ1 H1 locs1 ls pc ez hS hd => by subst ez; exact W.lret B1.exec B1.bytes B1.returns (fun t ht hW => ⟨⟨rfl, hS.1, by rw [ht]; exact hS.2.1⟩, hS.2.2.F ht⟩) hS.2.2.2.2 hd) ⟨rfl, hP, va_S.rf⟩ ls hl
theorem ez_startrp {ty : FieldType} {y : MethodName} {cc : ByteArray} {maxL h : Nat} {vs : List Value} {z : Nat} (hty : (∃ n, ty = .object n) ∨ ∃ t, ty = .array t) (hy : plainName y.cls = true) (hvs : (lg_sl vs).length ≤ maxL) (body : ∀ (p : Program) (e : Env) (R : Room) (s : State) (m : MethodId) (args : Array Value) (below : List Frame) (meth : Method) (c : Code) (Q : State → Prop), ez_C p R s m args c X B y.cls cc maxL h → (∀ (r : Nat) (H1 : Heap) (locs1 : List Loc) (ls : Array Slot) (pc : Nat), r = z → ez_S X B s.heap σ.length σ H1 locs1 → decode cc pc = .ok (.areturn, 1) → W p l e R s m args below meth c H1 locs1 0 0 Q (F0 m pc ls [.ref (B + r)])) → ez_S X B s.heap σ.length σ s.heap [] → ∀ ls : Array Slot, lv_has ls maxL (lv_args 0 vs) → W p l e R s m args below meth c s.heap [] 0 0 Q (F0 m 0 ls [])) : ez_M l X B σ y cc maxL (some ty) h vs (some (.ref (B + z))) σ := by
  refine Met.ofW (cc := cc) (maxL := maxL) (ret := some ty) hy rfl ?_
  intro p e s m args below meth c s₁ B1 hml hv
  obtain ⟨rfl, hP, hK, hG⟩ := hv
  have hts := atoms_spec (ws := Cond.code y cc maxL (some ty) :: tq_tbl) B1.pre
  have hlocks := B1.notSynchronized
  have hl := lv_entry vs (n := maxL) hvs
  rw [lg_entry_eq]
  generalize (lg_sl vs ++ List.replicate (maxL - (lg_sl vs).length) Slot.unset).toArray = ls at hl ⊢
  exact body p e _ s m _ below meth c _ ⟨⟨B1.exec, B1.bytes, hml, findClass_of_methodNamed B1.named, fun w hw => hts w (List.mem_cons_of_mem _ hw)⟩, hK, Nat.le_refl _, Nat.le_refl _, hG⟩ (fun r H1 locs1 ls pc ez hS hd => by subst ez; exact W.aret B1.exec B1.bytes B1.returns hty (Or.inr ⟨_, rfl⟩) (fun t ht hW => ⟨⟨rfl, hS.1, by rw [ht]; exact hS.2.1⟩, hS.2.2.F ht⟩) hS.2.2.2.2 hd) ⟨rfl, hP, va_S.rf⟩ ls hl
theorem ez_startr {ty : FieldType} {y : MethodName} {cc : ByteArray} {maxL h : Nat} {vs : List Value} {z : Nat × ez_H} (hty : (∃ n, ty = .object n) ∨ ∃ t, ty = .array t) (hy : plainName y.cls = true) (hvs : (lg_sl vs).length ≤ maxL) (body : ∀ (p : Program) (e : Env) (R : Room) (s : State) (m : MethodId) (args : Array Value) (below : List Frame) (meth : Method) (c : Code) (Q : State → Prop), ez_C p R s m args c X B y.cls cc maxL h → (∀ (r : Nat) (σ1 : ez_H) (H1 : Heap) (locs1 : List Loc) (ls : Array Slot) (pc : Nat), (r, σ1) = z → ez_S X B s.heap σ.length σ1 H1 locs1 → decode cc pc = .ok (.areturn, 1) → W p l e R s m args below meth c H1 locs1 0 0 Q (F0 m pc ls [.ref (B + r)])) → ez_S X B s.heap σ.length σ s.heap [] → ∀ ls : Array Slot, lv_has ls maxL (lv_args 0 vs) → W p l e R s m args below meth c s.heap [] 0 0 Q (F0 m 0 ls [])) : ez_M l X B σ y cc maxL (some ty) h vs (some (.ref (B + z.1))) z.2 := by
  refine Met.ofW (cc := cc) (maxL := maxL) (ret := some ty) hy rfl ?_
  intro p e s m args below meth c s₁ B1 hml hv
  obtain ⟨rfl, hP, hK, hG⟩ := hv
  have hts := atoms_spec (ws := Cond.code y cc maxL (some ty) :: tq_tbl) B1.pre
  have hlocks := B1.notSynchronized
  have hl := lv_entry vs (n := maxL) hvs
  rw [lg_entry_eq]
  generalize (lg_sl vs ++ List.replicate (maxL - (lg_sl vs).length) Slot.unset).toArray = ls at hl ⊢
  exact body p e _ s m _ below meth c _ ⟨⟨B1.exec, B1.bytes, hml, findClass_of_methodNamed B1.named, fun w hw => hts w (List.mem_cons_of_mem _ hw)⟩, hK, Nat.le_refl _, Nat.le_refl _, hG⟩ (fun r σ1 H1 locs1 ls pc ez hS hd => by subst ez; exact W.aret B1.exec B1.bytes B1.returns hty (Or.inr ⟨_, rfl⟩) (fun t ht hW => ⟨⟨rfl, hS.1, by rw [ht]; exact hS.2.1⟩, hS.2.2.F ht⟩) hS.2.2.2.2 hd) ⟨rfl, hP, va_S.rf⟩ ls hl
theorem ez_startvp {y : MethodName} {cc : ByteArray} {maxL h : Nat} {vs : List Value} {z : Unit} (hy : plainName y.cls = true) (hvs : (lg_sl vs).length ≤ maxL) (body : ∀ (p : Program) (e : Env) (R : Room) (s : State) (m : MethodId) (args : Array Value) (below : List Frame) (meth : Method) (c : Code) (Q : State → Prop), ez_C p R s m args c X B y.cls cc maxL h → (∀ (r : Unit) (H1 : Heap) (locs1 : List Loc) (ls : Array Slot) (pc : Nat), r = z → ez_S X B s.heap σ.length σ H1 locs1 → decode cc pc = .ok (.return_, 1) → W p l e R s m args below meth c H1 locs1 0 0 Q (F0 m pc ls [])) → ez_S X B s.heap σ.length σ s.heap [] → ∀ ls : Array Slot, lv_has ls maxL (lv_args 0 vs) → W p l e R s m args below meth c s.heap [] 0 0 Q (F0 m 0 ls [])) : ez_M l X B σ y cc maxL (none) h vs (none) σ := by
  refine Met.ofW (cc := cc) (maxL := maxL) (ret := none) hy rfl ?_
  intro p e s m args below meth c s₁ B1 hml hv
  obtain ⟨rfl, hP, hK, hG⟩ := hv
  have hts := atoms_spec (ws := Cond.code y cc maxL (none) :: tq_tbl) B1.pre
  have hlocks := B1.notSynchronized
  have hl := lv_entry vs (n := maxL) hvs
  rw [lg_entry_eq]
  generalize (lg_sl vs ++ List.replicate (maxL - (lg_sl vs).length) Slot.unset).toArray = ls at hl ⊢
  exact body p e _ s m _ below meth c _ ⟨⟨B1.exec, B1.bytes, hml, findClass_of_methodNamed B1.named, fun w hw => hts w (List.mem_cons_of_mem _ hw)⟩, hK, Nat.le_refl _, Nat.le_refl _, hG⟩ (fun r H1 locs1 ls pc ez hS hd => by subst ez; exact W.vret B1.exec B1.bytes B1.returns (fun t ht hW => ⟨⟨rfl, hS.1, by rw [ht]; exact hS.2.1⟩, hS.2.2.F ht⟩) hS.2.2.2.2 hd) ⟨rfl, hP, va_S.rf⟩ ls hl
theorem ez_startv {y : MethodName} {cc : ByteArray} {maxL h : Nat} {vs : List Value} {z : Unit × ez_H} (hy : plainName y.cls = true) (hvs : (lg_sl vs).length ≤ maxL) (body : ∀ (p : Program) (e : Env) (R : Room) (s : State) (m : MethodId) (args : Array Value) (below : List Frame) (meth : Method) (c : Code) (Q : State → Prop), ez_C p R s m args c X B y.cls cc maxL h → (∀ (r : Unit) (σ1 : ez_H) (H1 : Heap) (locs1 : List Loc) (ls : Array Slot) (pc : Nat), (r, σ1) = z → ez_S X B s.heap σ.length σ1 H1 locs1 → decode cc pc = .ok (.return_, 1) → W p l e R s m args below meth c H1 locs1 0 0 Q (F0 m pc ls [])) → ez_S X B s.heap σ.length σ s.heap [] → ∀ ls : Array Slot, lv_has ls maxL (lv_args 0 vs) → W p l e R s m args below meth c s.heap [] 0 0 Q (F0 m 0 ls [])) : ez_M l X B σ y cc maxL (none) h vs (none) z.2 := by
  refine Met.ofW (cc := cc) (maxL := maxL) (ret := none) hy rfl ?_
  intro p e s m args below meth c s₁ B1 hml hv
  obtain ⟨rfl, hP, hK, hG⟩ := hv
  have hts := atoms_spec (ws := Cond.code y cc maxL (none) :: tq_tbl) B1.pre
  have hlocks := B1.notSynchronized
  have hl := lv_entry vs (n := maxL) hvs
  rw [lg_entry_eq]
  generalize (lg_sl vs ++ List.replicate (maxL - (lg_sl vs).length) Slot.unset).toArray = ls at hl ⊢
  exact body p e _ s m _ below meth c _ ⟨⟨B1.exec, B1.bytes, hml, findClass_of_methodNamed B1.named, fun w hw => hts w (List.mem_cons_of_mem _ hw)⟩, hK, Nat.le_refl _, Nat.le_refl _, hG⟩ (fun r σ1 H1 locs1 ls pc ez hS hd => by subst ez; exact W.vret B1.exec B1.bytes B1.returns (fun t ht hW => ⟨⟨rfl, hS.1, by rw [ht]; exact hS.2.1⟩, hS.2.2.F ht⟩) hS.2.2.2.2 hd) ⟨rfl, hP, va_S.rf⟩ ls hl
theorem ez_startipF {ty : FieldType} {y : MethodName} {cc : ByteArray} {maxL h : Nat} {vs : List Value} {z : Int32} (hy : plainFor y = true) (hvs : (lg_sl vs).length ≤ maxL) (body : ∀ (p : Program) (e : Env) (R : Room) (s : State) (m : MethodId) (args : Array Value) (below : List Frame) (meth : Method) (c : Code) (Q : State → Prop), ez_C p R s m args c X B y.cls cc maxL h → (∀ (r : Int32) (H1 : Heap) (locs1 : List Loc) (ls : Array Slot) (pc : Nat), r = z → narrow ty (.int r) = .int r → ez_S X B s.heap σ.length σ H1 locs1 → decode cc pc = .ok (.ireturn, 1) → W p l e R s m args below meth c H1 locs1 0 0 Q (F0 m pc ls [.int r])) → ez_S X B s.heap σ.length σ s.heap [] → ∀ ls : Array Slot, lv_has ls maxL (lv_args 0 vs) → W p l e R s m args below meth c s.heap [] 0 0 Q (F0 m 0 ls [])) : ez_M l X B σ y cc maxL (some ty) h vs (some (.int z)) σ := by
  refine ez_ofWF (cc := cc) (maxL := maxL) (ret := some ty) hy rfl ?_
  intro p e s m args below meth c s₁ B1 hml hv
  obtain ⟨rfl, hP, hK, hG⟩ := hv
  have hts := atoms_spec (ws := Cond.code y cc maxL (some ty) :: tq_tbl) B1.pre
  have hlocks := B1.notSynchronized
  have hl := lv_entry vs (n := maxL) hvs
  rw [lg_entry_eq]
  generalize (lg_sl vs ++ List.replicate (maxL - (lg_sl vs).length) Slot.unset).toArray = ls at hl ⊢
  exact body p e _ s m _ below meth c _ ⟨⟨B1.exec, B1.bytes, hml, findClass_of_methodNamed B1.named, fun w hw => hts w (List.mem_cons_of_mem _ hw)⟩, hK, Nat.le_refl _, Nat.le_refl _, hG⟩ (fun r H1 locs1 ls pc ez hn hS hd => by subst ez; exact W.zret B1.exec B1.bytes B1.returns hn (fun t ht hW => ⟨⟨rfl, hS.1, by rw [ht]; exact hS.2.1⟩, hS.2.2.F ht⟩) hS.2.2.2.2 hd) ⟨rfl, hP, va_S.rf⟩ ls hl
theorem ez_startn {y : MethodName} {cc : ByteArray} {maxL h mc ms : Nat} {vs : List Value} {z : Unit × ez_H} (hy : plainName y.cls = true) (hyn : y.name = "<init>") (hvs : (lg_sl vs).length ≤ maxL) (body : ∀ (p : Program) (e : Env) (R : Room) (s : State) (m : MethodId) (args : Array Value) (below : List Frame) (meth : Method) (c : Code) (Q : State → Prop), ez_C p R s m args c X B y.cls cc maxL h → meth.name = "<init>" → mc ≤ R.cells ∧ ms ≤ R.slots → s.heap.size + 0 = B + σ.length → (∀ (r : Unit) (σ1 : ez_H) (H1 : Heap) (locs1 : List Loc) (ls : Array Slot) (pc : Nat), (r, σ1) = z → ez_S X B s.heap (σ.length + mc) σ1 H1 locs1 → decode cc pc = .ok (.return_, 1) → W p l e R s m args below meth c H1 locs1 mc ms Q (F0 m pc ls [])) → ez_S X B s.heap σ.length σ s.heap [] → ∀ ls : Array Slot, lv_has ls maxL (lv_args 0 vs) → W p l e R s m args below meth c s.heap [] 0 0 Q (F0 m 0 ls [])) : ez_Mn l X B σ y cc maxL h mc ms vs z.2 := by
  refine Met.ofW (cc := cc) (maxL := maxL) (ret := none) hy rfl ?_
  intro p e s m args below meth c s₁ B1 hml hv
  obtain ⟨rfl, hsz, hP, hK, hG⟩ := hv
  have hts := atoms_spec (ws := Cond.code y cc maxL none :: tq_tbl) B1.pre
  have hlocks := B1.notSynchronized
  have hin : meth.name = "<init>" := (name_of_methodNamed B1.named B1.method).1.trans hyn
  have hl := lv_entry vs (n := maxL) hvs
  rw [lg_entry_eq]
  generalize (lg_sl vs ++ List.replicate (maxL - (lg_sl vs).length) Slot.unset).toArray = ls at hl ⊢
  exact body p e _ s m _ below meth c _ ⟨⟨B1.exec, B1.bytes, hml, findClass_of_methodNamed B1.named, fun w hw => hts w (List.mem_cons_of_mem _ hw)⟩, hK, Nat.le_refl _, Nat.le_refl _, hG⟩ hin ⟨Nat.le_refl _, Nat.le_refl _⟩ hsz (fun r σ1 H1 locs1 ls pc ez hS hd => by subst ez; exact W.vret B1.exec B1.bytes B1.returns (fun t ht hW => ⟨⟨rfl, hS.1, by rw [ht]; exact hS.2.1⟩, hS.2.2.F ht⟩) hS.2.2.2.2 hd) ⟨rfl, hP, va_S.rf⟩ ls hl
end EZS
