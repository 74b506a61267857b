/-! What a write leaves as it was. -/
section FR
variable {σ σ1 : ez_H} {t a r k ci b j cj t2 : Nat} {i x i2 : Int32} {v : ez_V}
theorem fr_is_at (h : ez_is σ t r i x = some σ1) (q : b ≠ r) : ez_at σ1 b = ez_at σ b := by
  obtain ⟨n, l, -, -, e⟩ := ez_is_sp h
  rw [e, ez_at_eq, ez_at_eq, List.getElem?_set_ne (fun w => q w.symm)]
theorem fr_is_ob (h : ez_is σ t r i x = some σ1) : ez_ob σ1 cj b = ez_ob σ cj b := by
  by_cases q : b = r
  · subst q
    obtain ⟨n, l, e0, -, e⟩ := ez_is_sp h
    have hl := (List.getElem?_eq_some_iff.mp e0).1
    unfold ez_ob
    rw [e, ez_at_eq, ez_at_eq, List.getElem?_set_self hl, e0]
  · unfold ez_ob
    rw [fr_is_at h q]
theorem fr_is_gi (h : ez_is σ t r i x = some σ1) : ez_gi σ1 cj b j = ez_gi σ cj b j := by unfold ez_gi; rw [fr_is_ob h]
theorem fr_is_gl (h : ez_is σ t r i x = some σ1) : ez_gl σ1 cj b j = ez_gl σ cj b j := by unfold ez_gl; rw [fr_is_ob h]
theorem fr_is_gr (h : ez_is σ t r i x = some σ1) : ez_gr σ1 cj b j = ez_gr σ cj b j := by unfold ez_gr; rw [fr_is_ob h]
theorem fr_is_ia (h : ez_is σ t r i x = some σ1) (q : b ≠ r) : ez_ia σ1 t2 b i2 = ez_ia σ t2 b i2 := by unfold ez_ia; rw [fr_is_at h q]
theorem fr_pf_at (h : ez_pf σ ci a k v = some σ1) (q : b ≠ a) : ez_at σ1 b = ez_at σ b := by
  obtain ⟨fs, -, -, e⟩ := ez_pf_sp h
  rw [e, ez_at_eq, ez_at_eq, List.getElem?_set_ne (fun w => q w.symm)]
theorem fr_pf_ia (h : ez_pf σ ci a k v = some σ1) : ez_ia σ1 t2 b i2 = ez_ia σ t2 b i2 := by
  by_cases q : b = a
  · subst q
    obtain ⟨fs, e0, -, e⟩ := ez_pf_sp h
    have hl := (List.getElem?_eq_some_iff.mp e0).1
    unfold ez_ia
    rw [e, ez_at_eq, ez_at_eq, List.getElem?_set_self hl, e0]
  · unfold ez_ia
    rw [fr_pf_at h q]
theorem fr_pf_ob (h : ez_pf σ ci a k v = some σ1) : ∃ fs, ez_ob σ ci a = some fs ∧ k < fs.length ∧ ez_ob σ1 ci a = some (fs.set k v) ∧ ∀ cj b, ¬ (b = a ∧ cj = ci) → ez_ob σ1 cj b = ez_ob σ cj b := by
  obtain ⟨fs, e0, hk, e⟩ := ez_pf_sp h
  have hl := (List.getElem?_eq_some_iff.mp e0).1
  have e1 : σ1[a]? = some (.inr (.inr (.inr (ci, fs.set k v)))) := by rw [e, List.getElem?_set_self hl]
  refine ⟨fs, ?_, hk, ?_, fun cj b q => ?_⟩
  · unfold ez_ob
    rw [ez_at_eq, e0]
    simp [ez_beq]
  · unfold ez_ob
    rw [ez_at_eq, e1]
    simp [ez_beq]
  · by_cases q1 : b = a
    · subst q1
      have q2 : ¬ ci = cj := fun w => q ⟨rfl, w.symm⟩
      unfold ez_ob
      rw [ez_at_eq, ez_at_eq, e1, e0]
      simp [ez_beq, q2]
    · unfold ez_ob
      rw [fr_pf_at h q1]
theorem fr_pf_v (h : ez_pf σ ci a k v = some σ1) (q : ¬ (b = a ∧ cj = ci ∧ j = k)) : ez_gi σ1 cj b j = ez_gi σ cj b j ∧ ez_gl σ1 cj b j = ez_gl σ cj b j ∧ ez_gr σ1 cj b j = ez_gr σ cj b j := by
  obtain ⟨fs, h1, hk, h2, h3⟩ := fr_pf_ob h
  by_cases w : b = a ∧ cj = ci
  · obtain ⟨w1, w2⟩ := w
    subst w1 w2
    have w3 : j ≠ k := fun e => q ⟨rfl, rfl, e⟩
    have e : ez_at (fs.set k v) j = ez_at fs j := by rw [ez_at_eq, ez_at_eq, List.getElem?_set_ne (fun w => w3 w.symm)]
    refine ⟨?_, ?_, ?_⟩
    · unfold ez_gi; rw [h1, h2]; simp only [e]
    · unfold ez_gl; rw [h1, h2]; simp only [e]
    · unfold ez_gr; rw [h1, h2]; simp only [e]
  · have e := h3 cj b w
    refine ⟨?_, ?_, ?_⟩
    · unfold ez_gi; rw [e]
    · unfold ez_gl; rw [e]
    · unfold ez_gr; rw [e]
theorem fr_pf_gi (h : ez_pf σ ci a k (.inl x) = some σ1) : ez_gi σ1 ci a k = some x := by
  obtain ⟨fs, -, hk, h2, -⟩ := fr_pf_ob h
  unfold ez_gi
  rw [h2]
  simp only [ez_at_eq, List.getElem?_set_self hk]
theorem fr_lst_at {y : Int64} (h : ez_lst σ r i y = some σ1) (q : b ≠ r) : ez_at σ1 b = ez_at σ b := by
  obtain ⟨n, l, -, -, e⟩ := ez_lst_sp h
  rw [e, ez_at_eq, ez_at_eq, List.getElem?_set_ne (fun w => q w.symm)]
theorem fr_lst_ob {y : Int64} (h : ez_lst σ r i y = some σ1) : ez_ob σ1 cj b = ez_ob σ cj b := by
  by_cases q : b = r
  · subst q
    obtain ⟨n, l, e0, -, e⟩ := ez_lst_sp h
    have hl := (List.getElem?_eq_some_iff.mp e0).1
    unfold ez_ob
    rw [e, ez_at_eq, ez_at_eq, List.getElem?_set_self hl, e0]
  · unfold ez_ob
    rw [fr_lst_at h q]
theorem fr_lst_gi {y : Int64} (h : ez_lst σ r i y = some σ1) : ez_gi σ1 cj b j = ez_gi σ cj b j := by unfold ez_gi; rw [fr_lst_ob h]
theorem fr_lst_gl {y : Int64} (h : ez_lst σ r i y = some σ1) : ez_gl σ1 cj b j = ez_gl σ cj b j := by unfold ez_gl; rw [fr_lst_ob h]
theorem fr_lst_gr {y : Int64} (h : ez_lst σ r i y = some σ1) : ez_gr σ1 cj b j = ez_gr σ cj b j := by unfold ez_gr; rw [fr_lst_ob h]
theorem fr_cp_at (h : ez_cp σ a r i = some σ1) (q : b ≠ r) : ez_at σ1 b = ez_at σ b := by
  obtain ⟨n0, l0, n, l, -, -, -, -, -, e⟩ := ez_cp_sp h
  rw [e, ez_at_eq, ez_at_eq, List.getElem?_set_ne (fun w => q w.symm)]
theorem fr_cp_ob (h : ez_cp σ a r i = some σ1) : ez_ob σ1 cj b = ez_ob σ cj b := by
  by_cases q : b = r
  · subst q
    obtain ⟨n0, l0, n, l, -, e0, -, -, -, e⟩ := ez_cp_sp h
    have hl := (List.getElem?_eq_some_iff.mp e0).1
    unfold ez_ob
    rw [e, ez_at_eq, ez_at_eq, List.getElem?_set_self hl, e0]
  · unfold ez_ob
    rw [fr_cp_at h q]
theorem fr_cp_gi (h : ez_cp σ a r i = some σ1) : ez_gi σ1 cj b j = ez_gi σ cj b j := by unfold ez_gi; rw [fr_cp_ob h]
theorem fr_cp_gl (h : ez_cp σ a r i = some σ1) : ez_gl σ1 cj b j = ez_gl σ cj b j := by unfold ez_gl; rw [fr_cp_ob h]
theorem fr_cp_gr (h : ez_cp σ a r i = some σ1) : ez_gr σ1 cj b j = ez_gr σ cj b j := by unfold ez_gr; rw [fr_cp_ob h]
end FR
/-- which fields may have changed -/
def fw_in (W : List (Nat × Nat)) (ci k : Nat) : Bool := W.any fun q => Nat.beq q.1 ci && Nat.beq q.2 k
def fw (W : List (Nat × Nat)) (σ s : ez_H) : Prop := ∀ ci k a, fw_in W ci k = false → ez_gi s ci a k = ez_gi σ ci a k ∧ ez_gl s ci a k = ez_gl σ ci a k ∧ ez_gr s ci a k = ez_gr σ ci a k
section FW
variable {W W2 : List (Nat × Nat)} {σ s s1 : ez_H} {ci k a t r : Nat} {i x : Int32} {v : ez_V} {y : Int64}
theorem fw_0 : fw W σ σ := fun _ _ _ _ => ⟨rfl, rfl, rfl⟩
theorem fw_pf (h : fw W σ s) (c : ez_pf s ci a k v = some s1) (hin : fw_in W ci k = true) : fw W σ s1 := fun cj j b hn => by
  have hq : ¬ (b = a ∧ cj = ci ∧ j = k) := fun q => by
    rw [q.2.1, q.2.2, hin] at hn
    cases hn
  have h1 := fr_pf_v c hq
  have h2 := h cj j b hn
  exact ⟨h1.1.trans h2.1, h1.2.1.trans h2.2.1, h1.2.2.trans h2.2.2⟩
theorem fw_is (h : fw W σ s) (c : ez_is s t r i x = some s1) : fw W σ s1 := fun cj j b hn => by
  have h2 := h cj j b hn
  exact ⟨(fr_is_gi c).trans h2.1, (fr_is_gl c).trans h2.2.1, (fr_is_gr c).trans h2.2.2⟩
theorem fw_lst (h : fw W σ s) (c : ez_lst s r i y = some s1) : fw W σ s1 := fun cj j b hn => by
  have h2 := h cj j b hn
  exact ⟨(fr_lst_gi c).trans h2.1, (fr_lst_gl c).trans h2.2.1, (fr_lst_gr c).trans h2.2.2⟩
theorem fw_cp (h : fw W σ s) (c : ez_cp s a r i = some s1) : fw W σ s1 := fun cj j b hn => by
  have h2 := h cj j b hn
  exact ⟨(fr_cp_gi c).trans h2.1, (fr_cp_gl c).trans h2.2.1, (fr_cp_gr c).trans h2.2.2⟩
theorem fw_call (h : fw W σ s) (c : fw W2 s s1) (hs : (W2.all fun q => fw_in W q.1 q.2) = true) : fw W σ s1 := fun cj j b hn => by
  have hn2 : fw_in W2 cj j = false := by
    cases e : fw_in W2 cj j with
    | false => rfl
    | true =>
      unfold fw_in at e
      rw [List.any_eq_true] at e
      obtain ⟨q, hq, e⟩ := e
      rw [Bool.and_eq_true] at e
      have e1 := Nat.eq_of_beq_eq_true e.1
      have e2 := Nat.eq_of_beq_eq_true e.2
      have := List.all_eq_true.mp hs q hq
      rw [e1, e2, hn] at this
      cases this
  have h1 := c cj j b hn2
  have h2 := h cj j b hn
  exact ⟨h1.1.trans h2.1, h1.2.1.trans h2.2.1, h1.2.2.trans h2.2.2⟩
end FW
theorem tz_ba {α β : Type} {Q : β → Prop} {o : Option α} {g : α → Option β} {x : α} (h : o = some x) (hg : ∀ y, o = some y → y = x → tz_O Q (g y)) : tz_O Q (ez_bd o g) := by
  have := hg x h rfl
  rw [h]
  exact this
theorem tz_tx0 {i : Int32} {lo hi : Int} (hq : tq_iv lo hi i) (h0 : 0 ≤ lo) (h1 : hi < 120) : tz_O (fun _ => True) (ez_tx 0 i) := by
  have h : ez_inb i (ez_len.getD 0 0) = true := tz_inb (n := 120) (by have := hq.1; omega) (by have := hq.2; omega) (by decide)
  unfold ez_tx
  rw [h]
  exact ⟨_, rfl, trivial⟩
theorem tz_tx1 {i : Int32} {lo hi : Int} (hq : tq_iv lo hi i) (h0 : 0 ≤ lo) (h1 : hi < 11) : tz_O (fun _ => True) (ez_tx 1 i) := by
  have h : ez_inb i (ez_len.getD 1 0) = true := tz_inb (n := 11) (by have := hq.1; omega) (by have := hq.2; omega) (by decide)
  unfold ez_tx
  rw [h]
  exact ⟨_, rfl, trivial⟩
