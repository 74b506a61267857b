/-- the outer row when i of its elements are there; an inner row; the state then -/
def ez_mO (c : ClassId) (N q i : Nat) : Cell := arrV c N (fun j => va_rf (if j < i then some (q + 1 + j) else none))
def ez_mI (comp : ClassId) (M : Nat) : Cell := arrV comp M (fun _ => .long 0)
def ez_mF (T : State) (c comp : ClassId) (N M : Nat) : Nat → State
  | 0 => T.pushCell (ez_mO c N T.heap.size 0)
  | i + 1 => ((ez_mF T c comp N M i).pushCell (ez_mI comp M)).setCell T.heap.size (ez_mO c N T.heap.size (i + 1))
theorem ez_mO_next (c : ClassId) (N q i : Nat) : (ez_mO c N q i).setSlot i (.ref (q + 1 + i)) = ez_mO c N q (i + 1) := by
  unfold ez_mO
  rw [arrV_store]
  refine congrArg (arrV c N) (funext fun j => ?_)
  by_cases e9 : j = i
  · subst e9
    simp [updV, va_rf]
  · by_cases h : j < i
    · simp [updV, e9, h, Nat.lt_succ_of_lt h]
    · simp [updV, e9, h, show ¬ j < i + 1 by omega]
theorem ez_mF_facts (T : State) (c comp : ClassId) (N M : Nat) : ∀ i, (ez_mF T c comp N M i).heap.size = T.heap.size + 1 + i ∧ (ez_mF T c comp N M i).heap[T.heap.size]? = some (ez_mO c N T.heap.size i) ∧ (ez_mF T c comp N M i).vm = T.vm ∧ (ez_mF T c comp N M i).slotsUsed = T.slotsUsed + N + i * M
  | 0 => ⟨by simp [ez_mF], by simp [ez_mF], rfl, by simp [ez_mF, ez_mO, arrV_size]⟩
  | i + 1 => by
    obtain ⟨h1, h2, h3, h4⟩ := ez_mF_facts T c comp N M i
    have hlt : T.heap.size < (ez_mF T c comp N M i).heap.size := by rw [h1]; omega
    have h5 : ((ez_mF T c comp N M i).pushCell (ez_mI comp M)).heap[T.heap.size]? = some (ez_mO c N T.heap.size i) := by rw [State.heap_pushCell_of_lt (h := hlt)]; exact h2
    refine ⟨?_, State.heap_setCell_self h5, by simp [ez_mF, h3], ?_⟩
    · simp [ez_mF, State.setCell, h1]; omega
    · simp [ez_mF, h4, ez_mI, arrV_size, Nat.succ_mul]; omega
theorem ez_mF_old (T : State) (c comp : ClassId) (N M : Nat) {a : Addr} (ha : a < T.heap.size) : ∀ i, (ez_mF T c comp N M i).heap[a]? = T.heap[a]?
  | 0 => State.heap_pushCell_of_lt _ _ ha
  | i + 1 => by
    have h1 := (ez_mF_facts T c comp N M i).1
    show (((ez_mF T c comp N M i).pushCell (ez_mI comp M)).setCell T.heap.size _).heap[a]? = _
    have hlt : a < (ez_mF T c comp N M i).heap.size := Nat.lt_of_lt_of_le ha (by rw [h1]; omega)
    rw [State.heap_setCell_other (Nat.ne_of_gt ha), State.heap_pushCell_of_lt (h := hlt)]
    exact ez_mF_old T c comp N M ha i
theorem ez_mF_in (T : State) (c comp : ClassId) (N M : Nat) : ∀ i j, j < i → (ez_mF T c comp N M i).heap[T.heap.size + 1 + j]? = some (ez_mI comp M)
  | 0, _, h => absurd h (Nat.not_lt_zero _)
  | i + 1, j, h => by
    have h1 := (ez_mF_facts T c comp N M i).1
    show (((ez_mF T c comp N M i).pushCell (ez_mI comp M)).setCell T.heap.size _).heap[T.heap.size + 1 + j]? = _
    rw [State.heap_setCell_other (show T.heap.size ≠ T.heap.size + 1 + j by omega)]
    by_cases hj : j < i
    · have hlt : T.heap.size + 1 + j < (ez_mF T c comp N M i).heap.size := by rw [h1]; omega
      rw [State.heap_pushCell_of_lt (h := hlt)]
      exact ez_mF_in T c comp N M i j hj
    · have e9 : j = i := by omega
      subst e9
      rw [← h1]
      exact State.heap_pushCell_size _ _
theorem ez_mF_top (T : State) (f : JFrame) (c comp : ClassId) (N M : Nat) : ∀ i, ez_mF (T.setTop f) c comp N M i = (ez_mF T c comp N M i).setTop f
  | 0 => rfl
  | i + 1 => by simp only [ez_mF, ez_mF_top T f c comp N M i, State.heap_setTop, State.pushCell_setTop, State.setCell_setTop]
section EZM
variable {p : Program} {l : Launch} {e : Env} {R : Room} {s : State} {m : MethodId} {args : Array Value} {below : List Frame} {meth : Method} {c : Code} {H : Heap} {locs : List Loc} {cells slots : Nat} {Q : State → Prop}
variable {cc : ByteArray} {pc : Nat} {ls : Array Slot} {rest : List Value} {X : ez_X} {B : Nat} {a : Nat} {own : String} {nL h : Nat} {H0 : Heap} {n c1 s1 n1 : Nat} {σ : ez_H} {β : Type} {z : β}
theorem ez_mF_stand {T : State} (Y : Stand p l e R s m args below meth c T locs cells slots) (cA comp : ClassId) (N M : Nat) : ∀ i, ∃ L : List Loc, (∀ q ∈ L, q.base = T.heap.size) ∧ Stand p l e R s m args below meth c (ez_mF T cA comp N M i) (locs ++ L) (cells + 1 + i) (slots + N + i * M)
  | 0 => by
    refine ⟨[], (fun q hq => nomatch hq), ?_⟩
    have h9 := Y.pushed (ez_mO cA N T.heap.size 0)
    rw [show (ez_mO cA N T.heap.size 0).slots.size = N from arrV_size _ _ _] at h9
    simpa [ez_mF] using h9
  | i + 1 => by
    obtain ⟨L, hL, Yi⟩ := ez_mF_stand Y cA comp N M i
    obtain ⟨h1, h2, -, -⟩ := ez_mF_facts T cA comp N M i
    have hlt : T.heap.size < (ez_mF T cA comp N M i).heap.size := by rw [h1]; omega
    have h5 : ((ez_mF T cA comp N M i).pushCell (ez_mI comp M)).heap[T.heap.size]? = some (ez_mO cA N T.heap.size i) := by rw [State.heap_pushCell_of_lt (h := hlt)]; exact h2
    have h9 := (Yi.pushed (ez_mI comp M)).stored h5 i (.ref (T.heap.size + 1 + i))
    rw [show (ez_mI comp M).slots.size = M from arrV_size _ _ _, ez_mO_next, List.append_assoc] at h9
    refine ⟨L ++ [⟨T.heap.size, i⟩], fun q hq => ?_, ?_⟩
    · rcases List.mem_append.mp hq with h | h
      · exact hL q h
      · rw [List.mem_singleton.mp h]
    · rw [show slots + N + (i + 1) * M = slots + N + i * M + M by rw [Nat.succ_mul]; omega]
      exact h9
end EZM
theorem ez_mO_0 (c : ClassId) (N q : Nat) : ({ cls := c, slots := Array.replicate N .null, vm := .none } : Cell) = ez_mO c N q 0 := by
  rw [arrV_new]
  unfold ez_mO
  refine congrArg (arrV c N) (funext fun j => ?_)
  simp [va_rf]
section EZQ
variable {E : CtlPost} {e : Env} {d : Bool} {acts : List Action} {T : State}
theorem ez_make1 {comp c0 : ClassId} {kc : Class} {x : Int32} (hkc : T.vm.classes[comp]? = some kc) (hkind : kc.kind = .array c0 .long) (hx : ¬ x < 0) (hl : ¬ x.toNatClampNeg > e.platform.arrayLengthLimit) (hh : ¬ x.toNatClampNeg * componentBytes .long > e.platform.maxHeapBytes) (h1 : T.heap.size < e.platform.maxCells) (h2 : T.slotsUsed + x.toNatClampNeg ≤ e.platform.maxSlots) {Q : Addr → Pre} (hq : ∀ acts', Q T.heap.size d acts' (T.pushCell (ez_mI comp x.toNatClampNeg))) : wp (multianewarray.make comp [x]) Q E e d acts T := by
  rw [multianewarray.make]
  simp only [wp_bind', W.ite, hx, if_false, wp_pure', W.theClass, hkc, hkind, Option.some.injEq, exists_eq_left']
  refine W.newArray_of hkc hkind hl hh h1 h2 rfl (fun acts' => ?_)
  have e9 := hq acts'
  unfold ez_mI at e9
  rw [← arrV_new] at e9
  exact e9
theorem ez_make2 {c comp c0 : ClassId} {k kc : Class} {x y : Int32} (hk : T.vm.classes[c]? = some k) (hkind : k.kind = .array comp (.array .long)) (hkc : T.vm.classes[comp]? = some kc) (hkindc : kc.kind = .array c0 .long) (hx : ¬ x < 0) (hy : ¬ y < 0)
    (hl1 : ¬ x.toNatClampNeg > e.platform.arrayLengthLimit) (hh1 : ¬ x.toNatClampNeg * componentBytes (.array .long) > e.platform.maxHeapBytes) (hl2 : ¬ y.toNatClampNeg > e.platform.arrayLengthLimit) (hh2 : ¬ y.toNatClampNeg * componentBytes .long > e.platform.maxHeapBytes)
    (hc : T.heap.size + (1 + x.toNatClampNeg) ≤ e.platform.maxCells) (hs : T.slotsUsed + (x.toNatClampNeg + x.toNatClampNeg * y.toNatClampNeg) ≤ e.platform.maxSlots) {Q : Addr → Pre} (hq : ∀ d' acts', Q T.heap.size d' acts' (ez_mF T c comp x.toNatClampNeg y.toNatClampNeg x.toNatClampNeg)) : wp (multianewarray.make c [x, y]) Q E e d acts T := by
  have hfind : ([y].find? (· < 0)) = none := by simp [hy]
  rw [multianewarray.make]
  simp only [wp_bind', W.ite, hx, if_false, wp_pure', W.theClass, hk, hkind, Option.some.injEq, exists_eq_left']
  refine W.newArray_of hk hkind hl1 hh1 (by omega) (by omega) rfl (fun acts' => ?_)
  simp only [hfind]
  rw [ite_self, wp_bind', Std.Legacy.Range.forIn_eq_forIn_range']
  have hsz : ([:x.toNatClampNeg] : Std.Legacy.Range).size = x.toNatClampNeg := by simp [Std.Legacy.Range.size]
  rw [hsz, ez_mO_0 c x.toNatClampNeg T.heap.size]
  refine wp_forIn_inv (fun todo s9 => ∃ i, i ≤ x.toNatClampNeg ∧ todo = List.range' i (x.toNatClampNeg - i) ∧ s9 = ez_mF T c comp x.toNatClampNeg y.toNatClampNeg i) _ _ ⟨0, Nat.zero_le _, rfl, rfl⟩ ?_ ?_
  · rintro j todo s9 d' acts2 Q' ⟨i, hi, hl, rfl⟩ hnext
    have hlt : i < x.toNatClampNeg := by
      rcases Nat.lt_or_ge i x.toNatClampNeg with h | h
      · exact h
      · rw [show x.toNatClampNeg - i = 0 by omega] at hl; simp at hl
    rw [show x.toNatClampNeg - i = (x.toNatClampNeg - (i + 1)) + 1 by omega, List.range'_succ] at hl
    obtain ⟨rfl, htodo⟩ := List.cons.inj hl
    obtain ⟨f1, f2, f3, f4⟩ := ez_mF_facts T c comp x.toNatClampNeg y.toNatClampNeg j
    have hmul : j * y.toNatClampNeg + y.toNatClampNeg ≤ x.toNatClampNeg * y.toNatClampNeg := by
      have := Nat.mul_le_mul_right y.toNatClampNeg (show j + 1 ≤ x.toNatClampNeg from hlt)
      rw [Nat.succ_mul] at this; exact this
    simp only [wp_bind']
    refine ez_make1 (by rw [f3]; exact hkc) hkindc hy hl2 hh2 (by rw [f1]; omega) (by rw [f4]; omega) (fun acts3 => ?_)
    have hlt0 : T.heap.size < (ez_mF T c comp x.toNatClampNeg y.toNatClampNeg j).heap.size := by rw [f1]; omega
    simp only [wp_bind', W.writeLoc, wp_pure']
    refine ⟨ez_mO c x.toNatClampNeg T.heap.size j, (by rw [State.heap_pushCell_of_lt (h := hlt0)]; exact f2), (fun q => by cases q), by rw [show (ez_mO c x.toNatClampNeg T.heap.size j).slots.size = _ from arrV_size _ _ _]; exact hlt, ?_, hnext _ _ _ ⟨j + 1, hlt, htodo, ?_⟩⟩
    · show State.fitsSlot _ c .none j (.ref _) = true
      simp [State.fitsSlot, State.slotType?, f3, hk, hkind]
      rfl
    · rw [f1, ez_mO_next]; rfl
  · rintro s9 d' acts2 ⟨i, hi, hl, rfl⟩
    have hiN : i = x.toNatClampNeg := by
      rcases Nat.lt_or_ge i x.toNatClampNeg with h | h
      · rw [show x.toNatClampNeg - i = (x.toNatClampNeg - (i + 1)) + 1 by omega, List.range'_succ] at hl; cases hl
      · omega
    subst hiN
    simp only [wp_pure']
    exact hq _ _
end EZQ
theorem ez_arrV {c : ClassId} {N : Nat} {f g : Nat → Value} (h : ∀ j, j < N → f j = g j) : arrV c N f = arrV c N g := by
  unfold arrV
  congr 2
  funext j
  exact h j.val j.isLt
theorem ez_range_get (A q : Nat) : ∀ j, j < A → ez_get none ((List.range A).map (fun i => (i, some (q + i)))) j = some (q + j) := by
  intro j hj
  have key : ∀ (k n : Nat), k ≤ j → j < k + n → ez_get none ((List.range' k n).map (fun i => (i, some (q + i)))) j = some (q + j) := by
    intro k n
    induction n generalizing k with
    | zero => intro h1 h2; omega
    | succ n ih =>
      intro h1 h2
      rw [List.range'_succ, List.map_cons]
      show (bif Nat.beq j k then some (q + k) else ez_get none ((List.range' (k + 1) n).map (fun i => (i, some (q + i)))) j) = _
      rw [ez_beq]
      by_cases e9 : j = k
      · rw [decide_eq_true e9, cond_true, e9]
      · rw [decide_eq_false e9, cond_false]
        exact ih (k + 1) (by omega) (by omega)
  rw [List.range_eq_range']
  exact key 0 A (Nat.zero_le _) (by omega)
section EZM2
variable {p : Program} {l : Launch} {e : Env} {R : Room} {s : State} {m : MethodId} {args : Array Value} {below : List Frame} {meth : Method} {c : Code} {H : Heap} {locs : List Loc} {cells slots : Nat} {Q : State → Prop}
variable {cc : ByteArray} {pc : Nat} {ls : Array Slot} {rest : List Value} {X : ez_X} {B : Nat} {a : Nat} {own : String} {nL h : Nat} {H0 : Heap} {n c1 s1 n1 : Nat} {σ : ez_H} {β : Type} {z : β}
theorem ez_mna {N1 N2 index : Nat} {x1 x2 : Int32} (hC : ez_C p R s m args c X B own cc nL h) (hS : ez_S X B s.heap n σ H locs) (hn0 : 0 < n) (hsz : s.heap.size + cells = B + n) (hlk : Cond.classLink own index "[[J" ∈ tq_tbl) (hx1 : ¬ x1 < 0) (hx2 : ¬ x2 < 0) (e1 : x1.toNatClampNeg = N1) (e2 : x2.toNatClampNeg = N2) (hb1 : N1 * 4 ≤ 536870912) (hb2 : N2 * 8 ≤ 536870912) (ec : cells + 1 + N1 = c1) (es : slots + N1 + N1 * N2 = s1) (en : n + (1 + N1) = n1) (hcells : c1 ≤ R.cells) (hslots : s1 ≤ R.slots) {g : Nat → ez_H → Option β} (h : ez_mn σ N1 N2 g = some z) (hdg : decode cc pc = .ok (.multianewarray index 2, 4))
    (kk : ∀ (a : Nat) (σ1 : ez_H) (H1 : Heap) (locs1 : List Loc), ez_S X B s.heap n1 σ1 H1 locs1 → s.heap.size + c1 = B + n1 → g a σ1 = some z → W p l e R s m args below meth c H1 locs1 c1 s1 Q (F0 m (pc + 4) ls (.ref (B + a) :: rest))) : W p l e R s m args below meth c H locs cells slots Q (F0 m pc ls (.int x2 :: .int x1 :: rest)) := by
  subst ec
  subst es
  subst en
  subst e1
  subst e2
  have hts := hC.1.2.2.2.2
  have hexec := hC.1.1
  have hb := hC.1.2.1
  intro T hT Y
  have hpl : e.platform.magicAccessors = ({} : Platform).magicAccessors := by rw [Y.admits.platform]
  obtain ⟨comp, cA, kA, hcomp, hkA, hkindA, hnameA⟩ := hC.2.2.2.2.2.2.2.2.2.2
  obtain ⟨comp', kC, c9, hcomp', hkC, hkindC⟩ := Cond.arrayClass_spec (hts _ qw_long)
  have ecomp : comp' = comp := Option.some.inj (hcomp'.symm.trans hcomp)
  subst ecomp
  obtain ⟨c0, hfc0, hcl⟩ := Cond.classLink_spec hC.1.2.2.2.1 (hts _ hlk) e.platform hpl
  cases hnameA.symm.trans hfc0
  obtain ⟨hg₁, hwarm₁, hready₁⟩ := State.classEntry (e := e) Y.warmed hcl
  generalize T.vm.noted m.cls index (.cls cA) = vm₁ at hg₁ hwarm₁ hready₁
  have hal : s.vm.Alike vm₁ := hwarm₁.alike
  obtain ⟨kA₁, hkA₁, heA⟩ := hal.2.2 _ _ hkA
  obtain ⟨kC₁, hkC₁, heC⟩ := hal.2.2 _ _ hkC
  have hkindA₁ : kA₁.kind = .array comp' (.array .long) := by rw [heA]; exact hkindA
  have hkindC₁ : kC₁.kind = .array c9 .long := by rw [heC]; exact hkindC
  obtain ⟨L, hL, Y2⟩ := ez_mF_stand (Y.noted hwarm₁) cA comp' x1.toNatClampNeg x2.toNatClampNeg x1.toNatClampNeg
  obtain ⟨f1, f2, f3, f4⟩ := ez_mF_facts (T.setVm vm₁) cA comp' x1.toNatClampNeg x2.toNatClampNeg x1.toNatClampNeg
  have f5 := fun {a : Addr} (ha : a < (T.setVm vm₁).heap.size) => ez_mF_old (T.setVm vm₁) cA comp' x1.toNatClampNeg x2.toNatClampNeg ha x1.toNatClampNeg
  have f6 := ez_mF_in (T.setVm vm₁) cA comp' x1.toNatClampNeg x2.toNatClampNeg x1.toNatClampNeg
  have hTH : (T.setVm vm₁).heap = H := hT
  have hHsz : H.size = B + n := by
    have q1 : H.size ≤ s.heap.size + cells := by rw [← hT]; exact Y.heapSize
    have q2 := ez_S.size hS hn0
    omega
  rw [hTH, hHsz] at f1 f2 f5 f6
  have hcA : X.2.1 5 = cA := by
    have q1 : s.vm.findClass "[[J" = some (X.2.1 5) := (hC.2.1.2 5 _ rfl).2
    exact Option.some.inj (q1.symm.trans hnameA)
  have hcC : X.2.1 2 = comp' := by
    have q1 : s.vm.findClass "[J" = some (X.2.1 2) := (hC.2.1.2 2 _ rfl).2
    exact Option.some.inj (q1.symm.trans hcomp)
  obtain ⟨F, hF⟩ : ∃ F, F = ez_mF (T.setVm vm₁) cA comp' x1.toNatClampNeg x2.toNatClampNeg x1.toNatClampNeg := ⟨_, rfl⟩
  rw [← hF] at f1 f2 f5 f6 Y2
  obtain ⟨r1, r2⟩ := Y.roomAbove (a := 1 + x1.toNatClampNeg) (b := x1.toNatClampNeg + x1.toNatClampNeg * x2.toNatClampNeg) (by omega) (by omega)
  have h9 : g σ.length (σ ++ (.inr (.inr (.inl (5, x1.toNatClampNeg, (List.range x1.toNatClampNeg).map (fun i => (i, some (σ.length + 1 + i))))))) :: List.replicate x1.toNatClampNeg (.inr (.inl (x2.toNatClampNeg, [])))) = some z := h
  have hS1 : ez_S X B s.heap (n + (1 + x1.toNatClampNeg)) (σ ++ (.inr (.inr (.inl (5, x1.toNatClampNeg, (List.range x1.toNatClampNeg).map (fun i => (i, some (σ.length + 1 + i))))))) :: List.replicate x1.toNatClampNeg (.inr (.inl (x2.toNatClampNeg, [])))) F.heap (locs ++ L) := by
    refine ⟨by simp [hS.1]; omega, fun k q hk => ?_, ?_⟩
    · rcases Nat.lt_or_ge k n with hk1 | hk1
      · obtain ⟨e9, he9, rfl⟩ := ez_ws_inv hk
        rw [List.getElem?_append_left (by rw [hS.1]; exact hk1)] at he9
        exact (hS.2.1 k _ (ez_ws_at he9)).kept (f5 (by show B + k < B + n; omega))
      · obtain ⟨e9, he9, rfl⟩ := ez_ws_inv hk
        rw [List.getElem?_append_right (by rw [hS.1]; exact hk1), hS.1] at he9
        rcases Nat.eq_or_lt_of_le hk1 with hk2 | hk2
        · subst hk2
          rw [Nat.sub_self] at he9
          cases he9
          show F.heap[B + n]? = some (vp_cell (X.2.1 5) _)
          rw [f2, hcA]
          refine congrArg some ?_
          unfold ez_mO
          show arrV cA x1.toNatClampNeg _ = arrV cA x1.toNatClampNeg (fun j => va_rf ((ez_get none ((List.range x1.toNatClampNeg).map (fun i => (i, some (n + 1 + i)))) j).map (fun b => B + b)))
          refine ez_arrV (fun j hj => ?_)
          rw [if_pos hj]
          show Value.ref (B + n + 1 + j) = va_rf ((ez_get none _ j).map (fun b => B + b))
          rw [ez_range_get _ _ j hj]
          show Value.ref (B + n + 1 + j) = Value.ref (B + (n + 1 + j))
          rw [show B + n + 1 + j = B + (n + 1 + j) by omega]
        · obtain ⟨j, rfl⟩ : ∃ j, k = n + 1 + j := ⟨k - n - 1, by omega⟩
          rw [show n + 1 + j - n = j + 1 by omega, List.getElem?_cons_succ] at he9
          have hj : j < x1.toNatClampNeg := by
            have := (List.getElem?_eq_some_iff.mp he9).1
            simpa using this
          rw [List.getElem?_replicate, if_pos hj] at he9
          cases he9
          show F.heap[B + (n + 1 + j)]? = some (vp_cell (X.2.1 2) _)
          rw [show B + (n + 1 + j) = B + n + 1 + j by omega, f6 j hj, hcC]
          rfl
    · obtain ⟨v1, v2, v3⟩ := hS.2.2
      refine ⟨by omega, fun q q1 q2 => ?_, fun q hq => ?_⟩
      · have q3 : q < B + n := by have := (show s.heap.size ≤ H.size from v1); omega
        rw [f5 q3]
        exact v2 q q1 q2
      · rcases List.mem_append.mp hq with h9 | h9
        · exact v3 q h9
        · show B ≤ q.base
          rw [hL q h9, hTH, hHsz]
          omega
  obtain ⟨t, a1, b1⟩ := kk σ.length (σ ++ (.inr (.inr (.inl (5, x1.toNatClampNeg, (List.range x1.toNatClampNeg).map (fun i => (i, some (σ.length + 1 + i))))))) :: List.replicate x1.toNatClampNeg (.inr (.inl (x2.toNatClampNeg, [])))) F.heap (locs ++ L) hS1 (by omega) h9 F rfl Y2
  refine ⟨t, ?_, b1⟩
  have hl1 : ¬ x1.toNatClampNeg > e.platform.arrayLengthLimit := by rw [Launch.admits_arrayLengthLimit Y.admits]; omega
  have hh1 : ¬ x1.toNatClampNeg * componentBytes (.array .long) > e.platform.maxHeapBytes := by
    rw [Launch.admits_maxHeapBytes Y.admits]; show ¬ x1.toNatClampNeg * 4 > 536870912; omega
  have hl2 : ¬ x2.toNatClampNeg > e.platform.arrayLengthLimit := by rw [Launch.admits_arrayLengthLimit Y.admits]; omega
  have hh2 : ¬ x2.toNatClampNeg * componentBytes .long > e.platform.maxHeapBytes := by
    rw [Launch.admits_maxHeapBytes Y.admits]; show ¬ x2.toNatClampNeg * 8 > 536870912; omega
  jvm_step Y.here [hexec, hb, hdg]
  simp only [multianewarray.sem, wp_bind', W.resolveClassAt_links (State.method?_setTop (F0 m pc ls (.int x2 :: .int x1 :: rest)) Y.here.top) hg₁]
  rw [W.popN, if_neg (by decide)]
  refine ⟨F0 m pc ls (.int x2 :: .int x1 :: rest), State.topJava?_setTop' (s := T.setVm vm₁) _ Y.here.top, [.int x1, .int x2], rest, rfl, rfl, ?_⟩
  simp only [List.mapM_cons, List.mapM_nil, wp_bind', wp_pure']
  refine ez_make2 (k := kA₁) (kc := kC₁) (comp := comp') (c0 := c9) hkA₁ hkindA₁ hkC₁ hkindC₁ hx1 hx2 hl1 hh1 hl2 hh2 (by exact r1) (by exact r2) (fun d' acts' => ?_)
  have eS : ((T.setTop (F0 m pc ls (.int x2 :: .int x1 :: rest))).setVm vm₁).setTop (F0 m pc ls rest) = (T.setVm vm₁).setTop (F0 m pc ls rest) := by
    show ((T.setVm vm₁).setTop _).setTop _ = _
    rw [State.setTop_setTop]
  have eH : ((T.setTop (F0 m pc ls (.int x2 :: .int x1 :: rest))).setVm vm₁).heap.size = B + n := by rw [← hHsz, ← hT]; rfl
  rw [hF] at Y2 a1
  rw [eS, ez_mF_top]
  simp only [wp_bind', W.mark, W.pushRef, State.topJava?_setTop' _ Y2.here.top, Option.some.injEq, exists_eq_left', State.setTop_setTop, State.heap_setTop]
  intro acts
  simp [jvm, Y2.here.top]
  rw [hS.1, ← hHsz, ← hTH] at a1
  exact a1
end EZM2
