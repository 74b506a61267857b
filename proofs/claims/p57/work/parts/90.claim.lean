/-! THE CLAIM OUT OF ONE WALK OF THE LAW'S BODY. Your part is whole_start (and what it stands on); all else here is the same for every law, but numbers. -/
def R_law : String := "PinPlanLaw"
def lw_P (b : Addr) (xs : List Int32) (args : Array Value) (s : State) : Prop := args = #[.ref b] ∧ s.IntsAt b xs ∧ xs.length ≤ 3072 ∧ (Jvm.Cond.and given_1 narrow_1).before args s = true
def lw_Q (_ : Array Value) (s : State) (o : Outcome) (t : State) : Prop := o = .returned (some (.int 1)) ∧ Framed s o t [] 600000 7302249
def lw_Z (below : List Frame) (a : Array Value) (s : State) : State → Prop := fun t => ∃ o, t.status = .running ∧ Ended t below o ∧ lw_Q a s o t
/-- the law's own end, with 1 on the stack, nothing written that was there before, its room as the claim has it -/
theorem lw_ret {p : Program} {l : Launch} {e : Env} {s : State} {m : MethodId} {below : List Frame} {meth : Method} {c : Code} {b : Nat} (hx : p.tables.exec = Jvm.exec) (hb : c.code = code) (hr : meth.sig.returnType = ret) (hlocks : meth.locks = false) {pc : Nat} {H : Heap} {ls : Array Slot} (hdg : decode code pc = .ok (.ireturn, 1)) : W p l e room_1 s m #[Value.ref b] below meth c H [] 600000 7302249 (lw_Z below #[Value.ref b] s) (F0 m pc ls [.int 1]) := by
  intro T hT X
  obtain ⟨fs, hret, hrun, hended, hW, hframe⟩ := X.leave (v := some (.int 1)) (hlocks := hlocks) (fun h => by rw [hr] at h; cases h)
  have hmeth' : T.vm.method? m = some meth := X.method'
  refine ⟨T.setFrames fs, ?_, .returned (some (.int 1)), hrun, hended, rfl, ⟨_, rfl⟩, hW, hframe⟩
  jvm_step X.here [X.here.top, hx, hb, hdg, hmeth', hr, ret, narrow_b1]
  (try refine ⟨rfl, ?_⟩); (try refine ⟨rfl, ?_⟩)
  first | (intro acts; rw [hret _ acts rfl rfl rfl]) | rw [hret _ _ rfl rfl rfl]
  exact Steps.refl _
/-- what holds at the law's entry: the machine, the code, the tables' words (any of lw_tbl by 'hts w (by decide +kernel)'), the script of L ints xs at the cell b, what the Statement gives of the start (any of its parts by flat_of_before) -/
def lw_At (p : Program) (s : State) (m : MethodId) (meth : Method) (c : Code) (b L : Nat) (xs : Nat → Int32) : Prop :=
  p.tables.exec = Jvm.exec ∧ c.code = code ∧ meth.sig.returnType = ret ∧ c.maxLocals = 4 ∧ s.vm.findClass R_law = some m.cls ∧ (∀ w ∈ lw_tbl, w.before #[Value.ref b] s = true) ∧ va_X b L xs s s.heap ∧ b < s.heap.size ∧ meth.locks = false ∧ (Jvm.Cond.and given_1 narrow_1).before #[Value.ref b] s = true
set_option maxRecDepth 100000 in
set_option maxHeartbeats 4000000 in
theorem ez_start_X {s : State} {b : Nat} (hts : ∀ w ∈ lw_tbl, w.before #[Value.ref b] s = true) (hgv : (Jvm.Cond.and given_1 narrow_1).before #[Value.ref b] s = true) : ∃ X : ez_X, va_K X.1 vwCl (ez_tys X) s ∧ ez_G X (ez_A s.heap.size) s := by
  have ht : ∀ w ∈ tq_tbl, w.before #[Value.ref b] s = true := fun w hw => hts w (List.mem_filter.mp hw).1
  have hs := flat_of_before _ hgv
  have hA : ∀ a : Nat, a < s.heap.size → ¬ ez_A s.heap.size a := fun a h1 h2 => Nat.not_le.mpr h1 h2
  have at' : ∀ (i : Nat) (w : Cond), lw_tbl[i]? = some w → w.before #[Value.ref b] s = true := fun i w h => hts w (List.mem_of_getElem? h)
  have hcl : ∀ k : Nat, ∃ q : ClassId × (Nat → Nat), ∀ r, vwCl[k]? = some r → u_Kn s r.1 r.2.1 r.2.2 q.1 q.2 := by
    intro k
    match k with
    | 0 =>
      obtain ⟨c, i, h⟩ := u_known (n := 5) ht inq_0 (ht _ qn_0)
      exact ⟨(c, i), fun r hr => by cases hr; exact h⟩
    | 1 =>
      obtain ⟨c, i, h⟩ := u_known (n := 4) ht inq_1 (ht _ qn_1)
      exact ⟨(c, i), fun r hr => by cases hr; exact h⟩
    | 2 =>
      obtain ⟨c, i, h⟩ := u_known (n := 6) ht inq_2 (ht _ qn_2)
      exact ⟨(c, i), fun r hr => by cases hr; exact h⟩
    | 3 =>
      obtain ⟨c, i, h⟩ := u_known (n := 13) ht inq_3 (ht _ qn_3)
      exact ⟨(c, i), fun r hr => by cases hr; exact h⟩
    | 4 =>
      obtain ⟨c, i, h⟩ := u_known (n := 6) ht inq_4 (ht _ qn_4)
      exact ⟨(c, i), fun r hr => by cases hr; exact h⟩
    | 5 =>
      obtain ⟨c, i, h⟩ := u_known (n := 5) ht inq_5 (ht _ qn_5)
      exact ⟨(c, i), fun r hr => by cases hr; exact h⟩
    | 6 =>
      obtain ⟨c, i, h⟩ := u_known (n := 4) ht inq_6 (ht _ qn_6)
      exact ⟨(c, i), fun r hr => by cases hr; exact h⟩
    | 7 =>
      obtain ⟨c, i, h⟩ := u_known (n := 1) ht inq_7 (ht _ qn_7)
      exact ⟨(c, i), fun r hr => by cases hr; exact h⟩
    | 8 =>
      obtain ⟨c, i, h⟩ := u_known (n := 13) ht inq_8 (ht _ qn_8)
      exact ⟨(c, i), fun r hr => by cases hr; exact h⟩
    | 9 =>
      obtain ⟨c, i, h⟩ := u_known (n := 8) ht inq_9 (ht _ qn_9)
      exact ⟨(c, i), fun r hr => by cases hr; exact h⟩
    | 10 =>
      obtain ⟨c, i, h⟩ := u_known (n := 6) ht inq_10 (ht _ qn_10)
      exact ⟨(c, i), fun r hr => by cases hr; exact h⟩
    | 11 =>
      obtain ⟨c, i, h⟩ := u_known (n := 16) ht inq_11 (ht _ qn_11)
      exact ⟨(c, i), fun r hr => by cases hr; exact h⟩
    | 12 =>
      obtain ⟨c, i, h⟩ := u_known (n := 70) ht inq_12 (ht _ qn_12)
      exact ⟨(c, i), fun r hr => by cases hr; exact h⟩
    | k + 13 => exact ⟨(0, id), fun r hr => by simp [vwCl] at hr⟩
  obtain ⟨dd, hdd⟩ := Classical.axiomOfChoice hcl
  have hpr : ∀ ty : FieldType, Cond.arrayClass ty ∈ tq_tbl → ∃ c : ClassId, ArrOfT s c ty ∧ s.vm.findClass ("[" ++ ty.toString) = some c := by
    intro ty h
    obtain ⟨c, k, comp, h1, h2, h3⟩ := Cond.arrayClass_spec (ht _ h)
    exact ⟨c, fun n z => ⟨fun k h => (by cases h), k, h2, comp, h3⟩, h1⟩
  obtain ⟨c0, a0, n0⟩ := hpr .byte qw_byte
  obtain ⟨c1, a1, n1⟩ := hpr .int qw_int
  obtain ⟨c2, a2, n2⟩ := hpr .long qw_long
  obtain ⟨c3, a3, n3⟩ := hpr .boolean qw_boolean
  have ao : va_AO "PinPlan$State" s := va_AO.of (at' 465 _ (by decide +kernel))
  obtain ⟨comp4, c4, k4, f1, f2, f3, f4, f5⟩ := Cond.arrayOver_spec ao
  have al : ez_AL s := by
    have h : (Cond.arrayOver (.array .long)).before #[Value.ref b] s = true := at' 431 _ (by decide +kernel)
    unfold Cond.before at h
    simp only [Cond.holds, Cond.value, beq_iff_eq] at h
    cases hc : s.vm.findClass (FieldType.array .long).toString with
    | none => simp [hc] at h
    | some comp =>
      simp only [hc, Option.bind_some, Option.bind_eq_some_iff, Option.map_eq_some_iff] at h
      obtain ⟨c, hi, k, hk, hb⟩ := h
      obtain ⟨hlt, hp, -⟩ := Array.findIdx?_eq_some_iff_getElem.mp hi
      have hkk : s.vm.classes[c] = k := (Array.getElem?_eq_some_iff.mp hk).2
      rw [hkk] at hp
      cases hkind : k.kind with
      | array component ty =>
        rw [hkind] at hb hp
        simp at hb hp
        exact ⟨comp, c, k, hc, hk, by rw [hkind, hp, hb.1], hb.2⟩
      | _ => rw [hkind] at hb; simp at hb
  obtain ⟨comp5, c5, k5, g1, g2, g3, g4⟩ := id al
  obtain ⟨adK, adV, hS, hE⟩ := vk_Sof (args := #[Value.ref b]) (s := s) (N := 2) (tm := fun i => if i = 0 then Term.string "PinPlan$Tokens" 19 else Term.string "PinPlan$Tokens" 75) (len := ez_len) (byt := ez_byt) (A := ez_A s.heap.size)
    (fun i hi => by match i, hi with | 0, _ => decide | 1, _ => decide)
    (fun i hi => by match i, hi with | 0, _ => exact hs _ (by decide +kernel) | 1, _ => exact hs _ (by decide +kernel))
    (fun i hi => by match i, hi with | 0, _ => exact hs _ (by decide +kernel) | 1, _ => exact hs _ (by decide +kernel))
    (fun i hi => by match i, hi with | 0, _ => exact hs _ (by decide +kernel) | 1, _ => exact hs _ (by decide +kernel))
    (fun i hi => by match i, hi with | 0, _ => exact hs _ (by decide +kernel) | 1, _ => exact hs _ (by decide +kernel))
    (fun i hi => by
      match i, hi with
      | 0, _ =>
        have key : ∀ j : Nat, j < 120 → Cond.eq (.elem (.field (Term.string "PinPlan$Tokens" 19) "java/lang/String" "value" "[B") (.int (Int32.ofNat j))) (.int ((ez_byt.getD 0 []).getD j 0)) ∈ flatC (Jvm.Cond.and given_1 narrow_1) := by decide +kernel
        exact fun j hj => hs _ (key j hj)
      | 1, _ =>
        have key : ∀ j : Nat, j < 11 → Cond.eq (.elem (.field (Term.string "PinPlan$Tokens" 75) "java/lang/String" "value" "[B") (.int (Int32.ofNat j))) (.int ((ez_byt.getD 1 []).getD j 0)) ∈ flatC (Jvm.Cond.and given_1 narrow_1) := by decide +kernel
        exact fun j hj => hs _ (key j hj))
    (fun i j hi hj hij => by
      match i, j, hi, hj, hij with
      | 0, 0, _, _, h => exact absurd rfl h
      | 0, 1, _, _, _ => exact Or.inl (hs _ (by decide +kernel))
      | 1, 0, _, _, _ => exact Or.inr (hs _ (by decide +kernel))
      | 1, 1, _, _, h => exact absurd rfl h) hA
  obtain ⟨vF, hvF, hvR⟩ := Cond.isRef_spec (t := Term.static "jdk/internal/util/Preconditions" "SIOOBE_FORMATTER" "Ljava/util/function/BiFunction;") (hs _ (by decide +kernel))
  obtain ⟨oF, rfl⟩ : ∃ q : Nat, vF = ez_fm q := by
    cases vF with
    | null => exact ⟨0, rfl⟩
    | ref q => exact ⟨q + 1, rfl⟩
    | _ => cases hvR
  have zC := va_Zof (C := "java/lang/String") (n := "COMPACT_STRINGS") (d := "Z") (v := .int 1) (A := ez_A s.heap.size) (at' 357 _ (by decide +kernel)) (at' 173 _ (by decide +kernel)) (va_eqi (args := #[Value.ref b]) (s := s) (C := "java/lang/String") (n := "COMPACT_STRINGS") (d := "Z") (z := 1) (hs _ (by decide +kernel))) hA
  have zF := va_Zof (C := "jdk/internal/util/Preconditions") (n := "SIOOBE_FORMATTER") (d := "Ljava/util/function/BiFunction;") (v := ez_fm oF) (A := ez_A s.heap.size) (at' 373 _ (by decide +kernel)) (at' 175 _ (by decide +kernel)) hvF hA
  have r0 : vk_R "PinPlan$Tokens" 19 ez_t0 (adK 0) s := vk_R.of (at' 347 _ (by decide +kernel)) (hE 0 (by decide))
  have r1 : vk_R "PinPlan$Tokens" 75 ez_t1 (adK 1) s := vk_R.of (at' 717 _ (by decide +kernel)) (hE 1 (by decide))
  refine ⟨((fun k => (dd k).1, fun k => (dd k).2), (fun k => if k = 0 then c0 else if k = 1 then c1 else if k = 2 then c2 else if k = 3 then c3 else if k = 4 then c4 else c5), (fun k => if k = 2 then oF else adK k), adV), ⟨fun c q hq => hdd c q hq, fun k q hq => ?_⟩, ?_, r0, r1, zC, ao, zF, al⟩
  · match k, hq with
    | 0, hq => cases hq; exact ⟨a0, n0⟩
    | 1, hq => cases hq; exact ⟨a1, n1⟩
    | 2, hq => cases hq; exact ⟨a2, n2⟩
    | 3, hq => cases hq; exact ⟨a3, n3⟩
    | 4, hq => cases hq; exact ⟨fun n z => ⟨fun k h => (by cases h), k4, f3, comp4, f4⟩, k4, comp4, f3, f4, f1, f5⟩
    | 5, hq => cases hq; exact ⟨fun n z => ⟨fun k h => (by cases h), k5, g2, comp5, g3⟩, g4⟩
    | k + 6, hq => simp [ez_tys] at hq
  · exact ⟨fun i hi => by match i, hi with | 0, _ => exact hS.1 0 (by decide) | 1, _ => exact hS.1 1 (by decide), fun i j hi hj e => by match i, j, hi, hj, e with | 0, 0, _, _, _ => rfl | 0, 1, h1, h2, e => exact hS.2 0 1 h1 h2 e | 1, 0, h1, h2, e => exact hS.2 1 0 h1 h2 e | 1, 1, _, _, _ => rfl⟩
/-- from the entry, for every script of at most 3072 ints, the law comes to its end with true -/
theorem whole_start {p : Program} {e : Env} {s : State} {m : MethodId} {below : List Frame} {meth : Method} {c : Code} (l : Launch) {b L : Nat} {xs : Nat → Int32} (hL : L ≤ 3072) (C0 : lw_At p s m meth c b L xs) : W p l e room_1 s m #[Value.ref b] below meth c s.heap [] 0 0 (lw_Z below #[Value.ref b] s) (entryFrame m ([Value.ref b] : List Value).toArray 4) := by
  obtain ⟨hx, hb, hr, hml, hown, hts, hX, hbl, hlocks, hgv⟩ := id C0
  obtain ⟨X, hK, hG⟩ := ez_start_X hts hgv
  obtain ⟨σ1, hp⟩ := law_pure xs hL
  have hl := lv_entry ([.ref b]) (n := 4) (Nat.le_of_ble_eq_true rfl)
  rw [lg_entry_eq]
  generalize (lg_sl ([.ref b]) ++ List.replicate (4 - (lg_sl ([.ref b])).length) Slot.unset).toArray = ls at hl ⊢
  have ht : ∀ w ∈ tq_tbl, w.before #[Value.ref b] s = true := fun w hw => hts w (List.mem_filter.mp hw).1
  refine law_go (X := X) (B := s.heap.size) (σ := []) (z := (1, σ1)) (b := b) (L := L) (xs := xs) hp rfl rfl ⟨⟨hx, hb, hml, hown, ht⟩, hK, by decide, by decide, hG⟩ hX hbl (fun r σ2 H1 locs1 ls pc ez hS hd => ?_) ⟨rfl, fun k q h => (by simp [ez_ws] at h), va_S.rf⟩ ls hl
  cases ez
  refine va_forget (fun q hq => hS.2.2.2.2 q hq) ?_
  refine W.widen (k := 600000) (n := 7302249) (by decide) (by decide) ?_
  exact lw_ret hx hb hr hlocks hd
set_option maxHeartbeats 4000000 in
theorem lw_walk (l : Launch) (b : Addr) (xs : List Int32) : MetFree l x (headSpec (Jvm.Cond.code x code maxLocals ret :: tables_1) room_1) (lw_P b xs) (fun _ _ _ _ _ => True) lw_Q := by
  refine MetFree.of_bodyS (code := code) (maxLocals := maxLocals) (ret := ret) (by decide) ?_ ?_
  · intro args s m h hn
    obtain ⟨meth, c, h1, h2, h3, h4, h5, h6, -, -⟩ := Cond.code_spec hn (atoms_spec (ws := Jvm.Cond.code x code maxLocals ret :: tables_1) h _ List.mem_cons_self)
    exact ⟨meth, c, h1, h2, h3, h4, h5, h6⟩
  · intro p e s m args below meth c s₁ B hml0 hP _
    obtain ⟨rfl, hx, hbd, hgv⟩ := hP
    obtain ⟨scr, harrAt, hlist, hof, hsmall⟩ := hx
    obtain ⟨hcb, hkn, -, -⟩ := State.arrayAt?_spec harrAt
    have hown : s.vm.findClass R_law = some m.cls := findClass_of_methodNamed B.named
    have hts0 : ∀ c ∈ (Jvm.Cond.code x code maxLocals ret :: tables_1), c.before #[Value.ref b] s = true := atoms_spec (ws := Jvm.Cond.code x code maxLocals ret :: tables_1) B.pre
    have hts : ∀ w ∈ lw_tbl, w.before #[Value.ref b] s = true := k2_hts_sels lw_privs (fun w hw => hts0 w (List.mem_cons_of_mem _ hw)) lw_privs_ok
    have hml : c.maxLocals = 4 := B.maxLocals_eq (hts0 _ List.mem_cons_self)
    have X₀ : Stand p l e room_1 s m #[Value.ref b] below meth c s₁ [] 0 0 := Stand.of_body B
    have hh0 : s₁.heap = s.heap := by rw [B.state]; rfl
    have hsz : scr.slots.size = xs.length := by rw [← Array.length_toList, hlist, List.length_map]
    have hval : ∀ j : Nat, j < xs.length → scr.slots[j]? = some (.int (xs.getD j 0)) := fun j hj => by
      rw [← Array.getElem?_toList, hlist]
      simp [hj]
    have hbl : b < s.heap.size := (Array.getElem?_eq_some_iff.mp hcb).1
    have hX : va_X b xs.length (fun j => xs.getD j 0) s s.heap := ⟨scr, hcb, hof, hkn, hsz, hval⟩
    have K : W p l e room_1 s m #[Value.ref b] below meth c s₁.heap [] 0 0 (lw_Z below #[Value.ref b] s) (entryFrame m ([Value.ref b] : List Value).toArray 4) := by
      rw [hh0]
      exact whole_start l hbd ⟨B.exec, B.bytes, B.returns, hml, hown, hts, hX, hbl, B.notSynchronized, hgv⟩
    obtain ⟨t, a1, o, b1, b2, b3⟩ := K s₁ rfl X₀
    exact ⟨t, o, a1, b1, b2, b3⟩
theorem lw_pre_spec {args : Array Value} {s : State} (h : (Jvm.Cond.and given_1 narrow_1).before args s = true) (hr : rest_1_c.before args s = true) : ∃ (b : Addr) (xs : List Int32), lw_P b xs args s := by
  have hs := flat_of_before _ h
  have hq := flat_of_before _ hr
  have hc : (Cond.count 1).before args s = true := hs _ (by decide +kernel)
  have harr : (Cond.arrayOf (.arg 0) .int).before args s = true := hs _ (by decide +kernel)
  have hle : (Cond.le (.length (.arg 0)) (.int 3072)).before args s = true := hs _ (by decide +kernel)
  have hlen : (Cond.isInt (.length (.arg 0))).before args s = true := hq _ (by decide +kernel)
  have hall : (Cond.all (.arg 0) (.isInt (.elem (.arg 0) (.index 0)))).before args s = true := hq _ (by decide +kernel)
  obtain ⟨b, xs, hb, hx⟩ := State.ints_of_pre rfl harr hlen hall
  have hsm : xs.length < 2 ^ 31 := hx.choose_spec.2.2.2
  have hev : (Term.length (.arg 0)).eval args s none [] s = some (.int xs.length.toInt32) := hx.length_eval hb
  have hv := Cond.le_ints hev (show (Term.int 3072).eval args s none [] s = some (.int 3072) from rfl)
  have hd : xs.length.toInt32 ≤ 3072 := by
    simpa [Cond.before, Cond.holds, hv] using hle
  have hN : xs.length ≤ 3072 := (Int32.ofNat_le_ofNat hsm (by decide)).mp (show Int32.ofNat xs.length ≤ Int32.ofNat 3072 from hd)
  exact ⟨b, xs, Cond.one_arg hc (show args[0]? = some (.ref b) from hb), hx, hN, h⟩
theorem lw_comes (l : Launch) : Comes l x (Jvm.Cond.code x code maxLocals ret :: tables_1) room_1 (fun tb e args s => Calls_1 tb e args s ∧ rest_1 tb e args s ∧ Pre_1 tb e args s)
    (fun _ _ args s o t => lw_Q args s o t) := by
  intro p e ha hc hk s m args below hf hfit hheap happ hpre
  obtain ⟨b, xs, hP⟩ := lw_pre_spec hpre.2.2 hpre.2.1
  obtain ⟨k, o, h1, h2, h3, hQ⟩ := lw_walk l b xs p e ha hc hk s m args below hf ((Spec.applies_iff_loose hf).mp happ).1 hP trivial
  exact ⟨k, o, h1, h2, h3, hQ⟩
theorem lw_frame {s t : State} {o : Outcome} {args : Array Value} (h : Framed s o t [] 600000 7302249) :
    Framed s o t (fieldLocs frame_1_writes args s ++ arrayLocs frame_1_arrays args s ++ staticLocs frame_1_statics s) 600000 7302249 := h
theorem lw_limb (L : Cond) (hL : ∀ (args : Array Value) (s t : State), L.after args s (.returned (some (.int 1))) t = true) :
    ArmFor flags0 classFile x code maxLocals ret World_1 tables_1 room_1 Calls_1 rest_1 Pre_1
      (fun tb e a s o t => postC L tb e a s o t ∧ Framed s o t (fieldLocs frame_1_writes a s ++ arrayLocs frame_1_arrays a s ++ staticLocs frame_1_statics s) 600000 7302249) := by
  intro l _ _ _ p e ha hc hk s m args below hf hfit hheap happ hpre
  obtain ⟨k, o, h1, h2, h3, rfl, hF⟩ := lw_comes l p e ha hc hk s m args below hf hfit hheap happ hpre
  exact ⟨k, _, h1, h2, h3, hL args s _, lw_frame hF⟩
theorem i_vc : Claimed_1_1 ∧ Claimed_1_2 := ⟨lw_limb limb_1_1 (fun args s t => by simp [limb_1_1, Cond.after, Cond.holds, Cond.value]), lw_limb limb_1_2 (fun args s t => Cond.after_iff.mpr (by
  first | (rw [show limb_1_2 = Cond.eq .result (.int 1) from rfl, Cond.eq_ints (x := 1) (y := 1) rfl rfl]; simp; done) | (simp [limb_1_2, Cond.value, Term.eval]; done)))⟩

