/-! What a write leaves as it was. -/
section FR
variable {σ σ1 : ez_H} {t a r k ci b j cj t2 : Nat} {i x i2 : Int32} {v : ez_V}
theorem fr_is_at (h : ez_is σ t r i x = some σ1) (q : b ≠ r) : ez_at σ1 b = ez_at σ b := by
  obtain ⟨n, l, -, -, e⟩ := ez_is_sp h
  rw [e, ez_at_eq, ez_at_eq, List.getElem?_set_ne (fun w => q w.symm)]
theorem fr_is_ob (h : ez_is σ t r i x = some σ1) : ez_ob σ1 cj b = ez_ob σ cj b := by
  by_cases q : b = r
  · subst q
    obtain ⟨n, l, e0, -, e⟩ := ez_is_sp h
    have hl := (List.getElem?_eq_some_iff.mp e0).1
    unfold ez_ob
    rw [e, ez_at_eq, ez_at_eq, List.getElem?_set_self hl, e0]
  · unfold ez_ob
    rw [fr_is_at h q]
theorem fr_is_gi (h : ez_is σ t r i x = some σ1) : ez_gi σ1 cj b j = ez_gi σ cj b j := by unfold ez_gi; rw [fr_is_ob h]
theorem fr_is_gl (h : ez_is σ t r i x = some σ1) : ez_gl σ1 cj b j = ez_gl σ cj b j := by unfold ez_gl; rw [fr_is_ob h]
theorem fr_is_gr (h : ez_is σ t r i x = some σ1) : ez_gr σ1 cj b j = ez_gr σ cj b j := by unfold ez_gr; rw [fr_is_ob h]
theorem fr_is_ia (h : ez_is σ t r i x = some σ1) (q : b ≠ r) : ez_ia σ1 t2 b i2 = ez_ia σ t2 b i2 := by unfold ez_ia; rw [fr_is_at h q]
theorem fr_pf_at (h : ez_pf σ ci a k v = some σ1) (q : b ≠ a) : ez_at σ1 b = ez_at σ b := by
  obtain ⟨fs, -, -, e⟩ := ez_pf_sp h
  rw [e, ez_at_eq, ez_at_eq, List.getElem?_set_ne (fun w => q w.symm)]
theorem fr_pf_ia (h : ez_pf σ ci a k v = some σ1) : ez_ia σ1 t2 b i2 = ez_ia σ t2 b i2 := by
  by_cases q : b = a
  · subst q
    obtain ⟨fs, e0, -, e⟩ := ez_pf_sp h
    have hl := (List.getElem?_eq_some_iff.mp e0).1
    unfold ez_ia
    rw [e, ez_at_eq, ez_at_eq, List.getElem?_set_self hl, e0]
  · unfold ez_ia
    rw [fr_pf_at h q]
theorem fr_pf_ob (h : ez_pf σ ci a k v = some σ1) : ∃ fs, ez_ob σ ci a = some fs ∧ k < fs.length ∧ ez_ob σ1 ci a = some (fs.set k v) ∧ ∀ cj b, ¬ (b = a ∧ cj = ci) → ez_ob σ1 cj b = ez_ob σ cj b := by
  obtain ⟨fs, e0, hk, e⟩ := ez_pf_sp h
  have hl := (List.getElem?_eq_some_iff.mp e0).1
  have e1 : σ1[a]? = some (.inr (.inr (.inr (ci, fs.set k v)))) := by rw [e, List.getElem?_set_self hl]
  refine ⟨fs, ?_, hk, ?_, fun cj b q => ?_⟩
  · unfold ez_ob
    rw [ez_at_eq, e0]
    simp [ez_beq]
  · unfold ez_ob
    rw [ez_at_eq, e1]
    simp [ez_beq]
  · by_cases q1 : b = a
    · subst q1
      have q2 : ¬ ci = cj := fun w => q ⟨rfl, w.symm⟩
      unfold ez_ob
      rw [ez_at_eq, ez_at_eq, e1, e0]
      simp [ez_beq, q2]
    · unfold ez_ob
      rw [fr_pf_at h q1]
theorem fr_pf_v (h : ez_pf σ ci a k v = some σ1) (q : ¬ (b = a ∧ cj = ci ∧ j = k)) : ez_gi σ1 cj b j = ez_gi σ cj b j ∧ ez_gl σ1 cj b j = ez_gl σ cj b j ∧ ez_gr σ1 cj b j = ez_gr σ cj b j := by
  obtain ⟨fs, h1, hk, h2, h3⟩ := fr_pf_ob h
  by_cases w : b = a ∧ cj = ci
  · obtain ⟨w1, w2⟩ := w
    subst w1 w2
    have w3 : j ≠ k := fun e => q ⟨rfl, rfl, e⟩
    have e : ez_at (fs.set k v) j = ez_at fs j := by rw [ez_at_eq, ez_at_eq, List.getElem?_set_ne (fun w => w3 w.symm)]
    refine ⟨?_, ?_, ?_⟩
    · unfold ez_gi; rw [h1, h2]; simp only [e]
    · unfold ez_gl; rw [h1, h2]; simp only [e]
    · unfold ez_gr; rw [h1, h2]; simp only [e]
  · have e := h3 cj b w
    refine ⟨?_, ?_, ?_⟩
    · unfold ez_gi; rw [e]
    · unfold ez_gl; rw [e]
    · unfold ez_gr; rw [e]
theorem fr_pf_gi (h : ez_pf σ ci a k (.inl x) = some σ1) : ez_gi σ1 ci a k = some x := by
  obtain ⟨fs, -, hk, h2, -⟩ := fr_pf_ob h
  unfold ez_gi
  rw [h2]
  simp only [ez_at_eq, List.getElem?_set_self hk]
end FR
