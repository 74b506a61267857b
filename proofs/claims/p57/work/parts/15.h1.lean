/-! What is known besides may change with a field of the reference. -/
def up (p : tz_P) (j : Nat) (v : Int) : tz_P := (fun i => if i = j then v else p.1 i, p.2)
def kp (p : tz_P) : tz_P := up (up p 4 40) 5 0
theorem tz_one12 {j : Nat} (h : tz_C j = some (3, 12, 0, 0)) : j = 170 := by
  have hl : j < 217 := by
    unfold tz_C at h
    rw [ez_at_eq] at h
    exact (List.getElem?_eq_some_iff.mp h).1
  have hd : ∀ i : Fin 217, (match tz_C i.val with
    | some K => tz_qK K (3, 12, 0, 0)
    | none => false) = true → i.val = 170 := by decide +kernel
  refine hd ⟨j, hl⟩ ?_
  show (match tz_C j with
    | some K => tz_qK K (3, 12, 0, 0)
    | none => false) = true
  rw [h]
  rfl
theorem tz_one10 {j : Nat} (h : tz_C j = some (3, 10, 0, 0)) : j = 164 := by
  have hl : j < 217 := by
    unfold tz_C at h
    rw [ez_at_eq] at h
    exact (List.getElem?_eq_some_iff.mp h).1
  have hd : ∀ i : Fin 217, (match tz_C i.val with
    | some K => tz_qK K (3, 10, 0, 0)
    | none => false) = true → i.val = 164 := by decide +kernel
  refine hd ⟨j, hl⟩ ?_
  show (match tz_C j with
    | some K => tz_qK K (3, 10, 0, 0)
    | none => false) = true
  rw [h]
  rfl
theorem tz_k3 {j k2 k3 k4 : Nat} (hj : tz_C j = some (3, k2, k3, k4)) : k3 = 0 ∧ k4 = 0 := by
  have hl : j < 217 := by
    unfold tz_C at hj
    rw [ez_at_eq] at hj
    exact (List.getElem?_eq_some_iff.mp hj).1
  have hd : ∀ i : Fin 217, (match tz_C i.val with
    | some K => !(Nat.beq K.1 3) || (Nat.beq K.2.2.1 0 && Nat.beq K.2.2.2 0)
    | none => true) = true := by decide +kernel
  have := hd ⟨j, hl⟩
  have h2 : (match tz_C j with
    | some K => !(Nat.beq K.1 3) || (Nat.beq K.2.2.1 0 && Nat.beq K.2.2.2 0)
    | none => true) = true := this
  rw [hj] at h2
  have h3 : (Nat.beq k3 0 && Nat.beq k4 0) = true := h2
  rw [Bool.and_eq_true] at h3
  exact ⟨Nat.eq_of_beq_eq_true h3.1, Nat.eq_of_beq_eq_true h3.2⟩
def tz_FL (L : List (List tz_f)) (ci k : Nat) : Option tz_f := match ez_at L ci with
  | some l => ez_at l k
  | none => none
theorem tz_FL_set {P : List (List tz_f)} {c kk : Nat} {f : tz_f} (ci k : Nat) (f2 : tz_f) (h : tz_FL (P.set c ((P.getD c []).set kk f)) ci k = some f2) : (ci = c ∧ k = kk ∧ f2 = f) ∨ (tz_FL P ci k = some f2 ∧ (ci = c → ¬ k = kk)) := by
  unfold tz_FL at h ⊢
  rw [ez_at_eq] at h
  rw [ez_at_eq]
  by_cases q1 : ci = c
  · subst q1
    by_cases q2 : ci < P.length
    · rw [List.getElem?_set_self q2] at h
      have e2 : P[ci]? = some (P.getD ci []) := by
        rw [List.getD_eq_getElem?_getD, List.getElem?_eq_getElem q2]
        rfl
      rw [e2]
      generalize P.getD ci [] = l at h ⊢
      have h : ez_at (l.set kk f) k = some f2 := h
      show _ ∨ (ez_at l k = some f2 ∧ _)
      rw [ez_at_eq] at h
      rw [ez_at_eq]
      by_cases q3 : k = kk
      · subst q3
        by_cases q4 : k < l.length
        · rw [List.getElem?_set_self q4] at h
          exact Or.inl ⟨rfl, rfl, (Option.some.inj h).symm⟩
        · rw [List.getElem?_eq_none (by rw [List.length_set]; omega)] at h
          cases h
      · rw [List.getElem?_set_ne (fun w => q3 w.symm)] at h
        exact Or.inr ⟨h, fun _ => q3⟩
    · rw [List.getElem?_eq_none (by rw [List.length_set]; omega)] at h
      cases h
  · rw [List.getElem?_set_ne (fun w => q1 w.symm)] at h
    exact Or.inr ⟨h, fun w => absurd w q1⟩
/-- one field of a class of which there is one object: all but that field abstract -/
theorem tz_reghG {C : Nat → Option tz_K} {F F' : Nat → Nat → Option tz_f} {E : Nat → Nat → Int × Int} {P P' : Prop} {c kk a : Nat} {f : tz_f} {σ σ1 : ez_H} {v : ez_V} (hone : ∀ j k3 k4, C j = some (3, c, k3, k4) → j = a) (hF : ∀ ci k f2, F' ci k = some f2 → (ci = c ∧ k = kk ∧ f2 = f) ∨ (F ci k = some f2 ∧ (ci = c → ¬ k = kk))) (hg : P') (hT : tz_T (C, F, E, P) σ) (hK : C a = some (3, c, 0, 0)) (hpf : ez_pf σ c a kk v = some σ1) (hv : tz_okV (C, F', E, P') f v) : tz_T (C, F', E, P') σ1 := by
  obtain ⟨fs, e0, hk, e1⟩ := ez_pf_sp hpf
  have e0' : ez_at σ a = some (.inr (.inr (.inr (c, fs)))) := by rw [ez_at_eq]; exact e0
  have hV : ∀ f2 w, tz_okV (C, F, E, P) f2 w → tz_okV (C, F', E, P') f2 w := by
    intro f2 w h
    match w, h with
    | .inl _, h => exact h
    | .inr (.inl _), h => exact h
    | .inr (.inr none), h => exact h
    | .inr (.inr (some _)), h => exact h
  refine ⟨hg, fun j K hj => ?_⟩
  have hj : C j = some K := hj
  rw [e1, tz_at_set e0']
  obtain ⟨e, h1, h2⟩ := hT.2 j K hj
  by_cases qj : j = a
  · subst qj
    rw [if_pos rfl]
    refine ⟨_, rfl, ?_⟩
    rw [hK] at hj
    cases hj
    refine ⟨rfl, rfl, fun k f2 hf2 => ?_⟩
    have hf2 : F' c k = some f2 := hf2
    rw [e0'] at h1
    cases h1
    obtain ⟨-, -, h3⟩ := h2
    rcases hF c k f2 hf2 with ⟨-, rfl, rfl⟩ | ⟨hp, hne⟩
    · exact ⟨v, List.getElem?_set_self hk, hv⟩
    · obtain ⟨w, w1, w2⟩ := h3 k f2 hp
      exact ⟨w, by rw [List.getElem?_set_ne (fun z => hne rfl z.symm), w1], hV _ _ w2⟩
  · rw [if_neg qj]
    refine ⟨e, h1, ?_⟩
    match e, h1, h2 with
    | .inl (t, n, l), _, h2 => exact h2
    | .inr (.inl (n, _)), _, h2 => exact h2
    | .inr (.inr (.inl (t, n, l))), _, h2 => exact h2
    | .inr (.inr (.inr (ci, fs2))), h1, ⟨a1, a2, a3⟩ =>
      refine ⟨a1, a2, fun k f2 hf2 => ?_⟩
      have hf2 : F' ci k = some f2 := hf2
      have hc : ¬ ci = c := fun w => qj (by
        obtain ⟨k1, k2, k3, k4⟩ := K
        have b1 : k1 = 3 := a1
        have b2 : k2 = ci := a2
        subst b1 b2 w
        exact hone j k3 k4 hj)
      rcases hF ci k f2 hf2 with ⟨w, -, -⟩ | ⟨hp, -⟩
      · exact absurd w hc
      · obtain ⟨w, w1, w2⟩ := a3 k f2 hp
        exact ⟨w, w1, hV _ _ w2⟩
theorem tz_Gp_eq (p : tz_P) : tz_Gp p = (tz_C, tz_F p, tz_el p, tz_gh p) := rfl
theorem tz_F_FL (p : tz_P) (ci k : Nat) : tz_F p ci k = tz_FL (tz_fs p) ci k := rfl
theorem tz_regh {p q : tz_P} {c kk a : Nat} {f : tz_f} {σ σ1 : ez_H} {v : ez_V} (hone : ∀ j, tz_C j = some (3, c, 0, 0) → j = a) (hq : tz_fs q = (tz_fs p).set c (((tz_fs p).getD c []).set kk f)) (he : tz_el q = tz_el p) (hg : tz_gh q) (hT : tp p σ) (hK : tz_C a = some (3, c, 0, 0)) (hpf : ez_pf σ c a kk v = some σ1) (hv : tz_okV (tz_Gp q) f v) : tp q σ1 := by
  unfold tp at hT ⊢
  rw [tz_Gp_eq] at hT hv ⊢
  rw [he] at hv ⊢
  refine tz_reghG (fun j k3 k4 hj => ?_) (fun ci k f2 h => ?_) hg hT hK hpf hv
  · obtain ⟨b3, b4⟩ := tz_k3 hj
    rw [b3, b4] at hj
    exact hone j hj
  · rw [tz_F_FL, hq] at h
    rw [tz_F_FL]
    exact tz_FL_set ci k f2 h
theorem tz_pfE {G : tz_G} {σ : ez_H} {a ci k : Nat} {f : tz_f} (hT : tz_T G σ) (hK : G.1 a = some (3, ci, 0, 0)) (hF : G.2.1 ci k = some f) (v : ez_V) : ∃ σ1, ez_pf σ ci a k v = some σ1 := by
  obtain ⟨fs, h1, h2, h3⟩ := tz_obE hT hK
  obtain ⟨v0, h4, -⟩ := h3 k _ hF
  have hl := (List.getElem?_eq_some_iff.mp h4).1
  refine ⟨σ.set a (.inr (.inr (.inr (ci, fs.set k v)))), ?_⟩
  unfold ez_pf
  rw [h2]
  simp [Nat.blt_eq.mpr hl, ez_setK_eq]
section RG
variable {p : tz_P} {σ σ1 : ez_H} {h0 : Nat} {x : Int32} {v : Int}
theorem up_e4 : tz_el (up p 4 v) = tz_el p := rfl
theorem up_e5 : tz_el (up p 5 v) = tz_el p := rfl
theorem up_e1 : tz_el (up p 1 v) = tz_el p := rfl
theorem up_e0 : tz_el (up p 0 v) = tz_el p := rfl
theorem up_e3 : tz_el (up p 3 v) = tz_el p := rfl
theorem up_g4 (h : tz_gh p) (h0 : 0 ≤ v) (h1 : v ≤ 40) : tz_gh (up p 4 v) := ⟨h.1, h.2.1, h.2.2.1, h.2.2.2.1, ⟨h0, h1⟩, h.2.2.2.2.2.1, h.2.2.2.2.2.2⟩
theorem up_g5 (h : tz_gh p) (h0 : 0 ≤ v) (h1 : v ≤ 40) : tz_gh (up p 5 v) := ⟨h.1, h.2.1, h.2.2.1, h.2.2.2.1, h.2.2.2.2.1, ⟨h0, h1⟩, h.2.2.2.2.2.2⟩
theorem up_g1 (h : tz_gh p) (h0 : 0 ≤ v) (h1 : v ≤ 100000) : tz_gh (up p 1 v) := ⟨h.1, ⟨h0, h1⟩, h.2.2⟩
theorem up_g0 (h : tz_gh p) (h0 : 0 ≤ v) (h1 : v ≤ 100000) : tz_gh (up p 0 v) := ⟨⟨h0, h1⟩, h.2⟩
theorem up_g3 (h : tz_gh p) (h0 : v = 0 ∨ v = 1) : tz_gh (up p 3 v) := ⟨h.1, h.2.1, h.2.2.1, h0, h.2.2.2.2⟩
theorem tz_up4 (hT : tp p σ) (k_h0 : tz_C h0 = some (3, 12, 0, 0)) (hx : 0 ≤ x.toInt) (hx2 : x.toInt ≤ v) (h2 : v ≤ 40) : tz_O (tp (up p 4 v)) (ez_pf σ 12 h0 60 (.inl x)) := by
  have h170 := tz_one12 k_h0
  subst h170
  obtain ⟨s, e⟩ := tz_pfE (G := tz_Gp p) (a := 170) (ci := 12) (k := 60) hT k_h0 (tf_12_60 (p := p)) (.inl x)
  exact ⟨s, e, tz_regh (a := 170) (c := 12) (f := (0, (0, 0, 0, 0), 0, v)) (fun _ => tz_one12) rfl up_e4 (up_g4 hT.1 (by omega) h2) hT k_h0 e ⟨rfl, hx, hx2⟩⟩
theorem tz_up5 (hT : tp p σ) (k_h0 : tz_C h0 = some (3, 12, 0, 0)) (hx : 0 ≤ x.toInt) (hx2 : x.toInt ≤ v) (h2 : v ≤ 40) : tz_O (tp (up p 5 v)) (ez_pf σ 12 h0 61 (.inl x)) := by
  have h170 := tz_one12 k_h0
  subst h170
  obtain ⟨s, e⟩ := tz_pfE (G := tz_Gp p) (a := 170) (ci := 12) (k := 61) hT k_h0 (tf_12_61 (p := p)) (.inl x)
  exact ⟨s, e, tz_regh (a := 170) (c := 12) (f := (0, (0, 0, 0, 0), 0, v)) (fun _ => tz_one12) rfl up_e5 (up_g5 hT.1 (by omega) h2) hT k_h0 e ⟨rfl, hx, hx2⟩⟩
theorem tz_up1 (hT : tp p σ) (k_h0 : tz_C h0 = some (3, 12, 0, 0)) (hx : x.toInt = v) (h1 : 0 ≤ v) (h2 : v ≤ 100000) : tz_O (tp (up p 1 v)) (ez_pf σ 12 h0 67 (.inl x)) := by
  have h170 := tz_one12 k_h0
  subst h170
  obtain ⟨s, e⟩ := tz_pfE (G := tz_Gp p) (a := 170) (ci := 12) (k := 67) hT k_h0 (tf_12_67 (p := p)) (.inl x)
  exact ⟨s, e, tz_regh (a := 170) (c := 12) (f := (0, (0, 0, 0, 0), v, v)) (fun _ => tz_one12) rfl up_e1 (up_g1 hT.1 h1 h2) hT k_h0 e ⟨rfl, by show v ≤ _; omega, by show _ ≤ v; omega⟩⟩
theorem tz_up0 (hT : tp p σ) (k_h0 : tz_C h0 = some (3, 10, 0, 0)) (hx : x.toInt = v) (h1 : 0 ≤ v) (h2 : v ≤ 100000) : tz_O (tp (up p 0 v)) (ez_pf σ 10 h0 5 (.inl x)) := by
  have h170 := tz_one10 k_h0
  subst h170
  obtain ⟨s, e⟩ := tz_pfE (G := tz_Gp p) (a := 164) (ci := 10) (k := 5) hT k_h0 (tf_10_5 (p := p)) (.inl x)
  exact ⟨s, e, tz_regh (a := 164) (c := 10) (f := (0, (0, 0, 0, 0), v, v)) (fun _ => tz_one10) rfl up_e0 (up_g0 hT.1 h1 h2) hT k_h0 e ⟨rfl, by show v ≤ _; omega, by show _ ≤ v; omega⟩⟩
theorem tz_up3 (hT : tp p σ) (k_h0 : tz_C h0 = some (3, 12, 0, 0)) (hx : x.toInt = v) (h1 : v = 0 ∨ v = 1) : tz_O (tp (up p 3 v)) (ez_pf σ 12 h0 44 (.inl x)) := by
  have h170 := tz_one12 k_h0
  subst h170
  obtain ⟨s, e⟩ := tz_pfE (G := tz_Gp p) (a := 170) (ci := 12) (k := 44) hT k_h0 (tf_12_44 (p := p)) (.inl x)
  exact ⟨s, e, tz_regh (a := 170) (c := 12) (f := (0, (0, 0, 0, 0), v, v)) (fun _ => tz_one12) rfl up_e3 (up_g3 hT.1 h1) hT k_h0 e ⟨rfl, by show v ≤ _; omega, by show _ ≤ v; omega⟩⟩
end RG
/-! Rows that are copied: all, kept, was, boxAll. -/
def gseg (k : Nat) (x : Int32) : Prop := tq_iv (tz_seg k).1 (tz_seg k).2 x
section CP
variable {p : tz_P} {σ : ez_H} {i x : Int32} {k : Nat}
theorem rd_205 (hT : tp p σ) (h1 : 0 ≤ i.toInt) (h2 : i.toInt < 91) : tz_O (gseg i.toInt.toNat) (ez_ia σ 1 205 i) := tz_iaG (r := 205) (t := 1) (n := 91) (e := 205) hT tc_205 h1 h2
theorem rd_206 (hT : tp p σ) (h1 : 0 ≤ i.toInt) (h2 : i.toInt < 91) : tz_O (gseg i.toInt.toNat) (ez_ia σ 1 206 i) := tz_iaG (r := 206) (t := 1) (n := 91) (e := 206) hT tc_206 h1 h2
theorem rd_210 (hT : tp p σ) (h1 : 0 ≤ i.toInt) (h2 : i.toInt < 3731) (hk : i.toInt.toNat % 91 = k) : tz_O (gseg k) (ez_ia σ 1 210 i) := by
  subst hk
  exact tz_iaG (r := 210) (t := 1) (n := 3731) (e := 210) hT tc_210 h1 h2
theorem rd_215 (hT : tp p σ) (h1 : 0 ≤ i.toInt) (h2 : i.toInt < 273) (hk : i.toInt.toNat % 91 = k) : tz_O (gseg k) (ez_ia σ 1 215 i) := by
  subst hk
  exact tz_iaG (r := 215) (t := 1) (n := 273) (e := 215) hT tc_215 h1 h2
theorem wr_205 (hT : tp p σ) (h1 : 0 ≤ i.toInt) (h2 : i.toInt < 91) (hx : gseg i.toInt.toNat x) : tz_O (tp p) (ez_is σ 1 205 i x) := tz_isG (r := 205) (t := 1) (n := 91) (e := 205) hT tc_205 h1 h2 hx
theorem wr_206 (hT : tp p σ) (h1 : 0 ≤ i.toInt) (h2 : i.toInt < 91) (hx : gseg i.toInt.toNat x) : tz_O (tp p) (ez_is σ 1 206 i x) := tz_isG (r := 206) (t := 1) (n := 91) (e := 206) hT tc_206 h1 h2 hx
theorem wr_210 (hT : tp p σ) (h1 : 0 ≤ i.toInt) (h2 : i.toInt < 3731) (hk : i.toInt.toNat % 91 = k) (hx : gseg k x) : tz_O (tp p) (ez_is σ 1 210 i x) := by
  subst hk
  exact tz_isG (r := 210) (t := 1) (n := 3731) (e := 210) hT tc_210 h1 h2 hx
theorem wr_215 (hT : tp p σ) (h1 : 0 ≤ i.toInt) (h2 : i.toInt < 273) (hk : i.toInt.toNat % 91 = k) (hx : gseg k x) : tz_O (tp p) (ez_is σ 1 215 i x) := by
  subst hk
  exact tz_isG (r := 215) (t := 1) (n := 273) (e := 215) hT tc_215 h1 h2 hx
end CP
theorem tq_inc {x t : Int32} (e : t = x + 1) (h1 : 0 ≤ x.toInt) (h2 : x.toInt < 2147483647) : t.toInt = x.toInt + 1 := by
  rw [e]
  exact tq_addT (a := x.toInt) (b := x.toInt) (c := 1) (d := 1) ⟨Int.le_refl _, Int.le_refl _⟩ tk_1 (by omega) (by omega)
theorem tq_91 {a k t u : Int32} (e : t = 91 * a) (e2 : u = t + k) (ha : tq_iv 0 40 a) (h1 : 0 ≤ k.toInt) (h2 : k.toInt < 91) : u.toInt = 91 * a.toInt + k.toInt := by
  have i91 : tq_iv 91 91 (91 : Int32) := ⟨by decide, by decide⟩
  have h3 : t.toInt = 91 * a.toInt := by
    have hl := ha.1
    have hr := ha.2
    have e91 : (91 : Int32).toInt = 91 := by decide
    rw [e, Int32.toInt_mul, e91]
    exact tq_bm (by omega) (by omega)
  rw [e2]
  have hl := ha.1
  have hr := ha.2
  rw [tq_addT (a := 0) (b := 3640) (c := 0) (d := 91) ⟨by omega, by omega⟩ ⟨h1, by omega⟩ (by decide) (by decide), h3]
/-! Loops, once for all. -/
theorem lpG {K A β : Type} {Q : β → Prop} {F : K → K} {bot : K} (ap : K → A → Option β) (I : A → Prop) (μ : A → Nat) (step : ∀ k a, I a → (∀ b, I b → μ b < μ a → tz_O Q (ap k b)) → tz_O Q (ap (F k) a)) (a : A) (hI : I a) (hμ : μ a < ez_N) : tz_O Q (ap (ez_fix bot F ez_N) a) := by
  refine ez_fix_indn (fun n k => ∀ a, I a → μ a < n → tz_O Q (ap k a)) (fun _ _ h => absurd h (Nat.not_lt_zero _)) (fun n k hk a hI hn => ?_) ez_N a hI hμ
  exact step k a hI (fun b hb hlt => hk b hb (by omega))
theorem nle_c {x c : Int32} (h : ¬ c ≤ x) : x.toInt < c.toInt := Int32.lt_iff_toInt_lt.mp (tq_nle h)
theorem le_c {x c : Int32} (h : c ≤ x) : c.toInt ≤ x.toInt := Int32.le_iff_toInt_le.mp h
theorem nlt_c {x c : Int32} (h : ¬ x < c) : c.toInt ≤ x.toInt := Int32.le_iff_toInt_le.mp (tq_nlt h)
theorem lt_c {x c : Int32} (h : x < c) : x.toInt < c.toInt := Int32.lt_iff_toInt_lt.mp h
theorem ne_c {x c : Int32} (h : ¬ x = c) : ¬ x.toInt = c.toInt := fun e => h (Int32.toInt_inj.mp e)
theorem eq_c {x c : Int32} (h : x = c) : x.toInt = c.toInt := by rw [h]
theorem of_c {x : Int32} {v : Int} (h : x.toInt = v) : tq_iv v v x := ⟨by omega, by omega⟩
theorem up_id (p : tz_P) (j : Nat) : up p j (p.1 j) = p := by
  refine Prod.ext ?_ rfl
  funext i
  show (if i = j then p.1 j else p.1 i) = p.1 i
  by_cases q : i = j
  · rw [if_pos q, q]
  · rw [if_neg q]
theorem up_up (p : tz_P) (j : Nat) (v w : Int) : up (up p j v) j w = up p j w := by
  refine Prod.ext ?_ rfl
  funext i
  show (if i = j then w else (if i = j then v else p.1 i)) = (if i = j then w else p.1 i)
  by_cases q : i = j
  · rw [if_pos q, if_pos q]
  · rw [if_neg q, if_neg q, if_neg q]
theorem tz_or {p q : tz_P} {s : ez_H} (h : q = p ∨ q = kp p) (hT : tp q s) : tp p s ∨ tp (kp p) s := by
  rcases h with rfl | rfl
  · exact Or.inl hT
  · exact Or.inr hT
/-- a field written with what it holds -/
theorem ez_pf_same {σ : ez_H} {ci a k : Nat} {x : Int32} (h : ez_gi σ ci a k = some x) : ez_pf σ ci a k (.inl x) = some σ := by
  obtain ⟨fs, h1, h2⟩ := ez_gi_sp h
  have hl := (List.getElem?_eq_some_iff.mp h2)
  obtain ⟨hl, hv⟩ := hl
  obtain ⟨ha, hv2⟩ := List.getElem?_eq_some_iff.mp h1
  unfold ez_pf
  have h3 : ez_ob σ ci a = some fs := by
    unfold ez_ob
    rw [ez_at_eq, h1]
    simp [ez_beq]
  rw [h3]
  have e1 : fs.set k (.inl x) = fs := by rw [← hv]; exact List.set_getElem_self _
  have e2 : σ.set a (.inr (.inr (.inr (ci, fs)))) = σ := by rw [← hv2]; exact List.set_getElem_self _
  simp [Nat.blt_eq.mpr hl, ez_setK_eq, e1, e2]
theorem tz_re4 {p : tz_P} {σ : ez_H} {h0 : Nat} {x : Int32} {v : Int} (hT : tp p σ) (k_h0 : tz_C h0 = some (3, 12, 0, 0)) (e : ez_gi σ 12 h0 60 = some x) (hx : 0 ≤ x.toInt) (hx2 : x.toInt ≤ v) (h2 : v ≤ 40) : tp (up p 4 v) σ := tz_get (tz_up4 hT k_h0 hx hx2 h2) (ez_pf_same e)
theorem i00 : (0 : Int) ≤ (0 : Int32).toInt := by decide
theorem i0n {n : Int} (h : 0 ≤ n) : (0 : Int32).toInt ≤ n := by
  have : (0 : Int32).toInt = 0 := by decide
  omega
theorem c91 : (91 : Int32).toInt = 91 := by decide
/-! The time goes on. -/
def lT (t : Int) (x : Int32) : Int := if 0 ≤ x.toInt ∧ x.toInt ≤ 1000 ∧ t + x.toInt ≤ 100000 then t + x.toInt else t
def lA (t : Int) (x : Int32) : Int := if 0 ≤ x.toInt ∧ x.toInt ≤ 1000 ∧ t + x.toInt ≤ 100000 then t + x.toInt else -1
theorem tz_X10_goOn {p : tz_P} {σ : ez_H} {h0 : Nat} {x1 : Int32} (hT : tp p σ) (k_h0 : tz_C h0 = some (3, 10, 0, 0)) : tz_O2 (fun (z : Int32) (s : ez_H) => z.toInt = lA (p.1 0) x1 ∧ tp (up p 0 (lT (p.1 0) x1)) s) (z_X10_goOn σ h0 x1) := by
  have e0 : (0 : Int32).toInt = 0 := by decide
  have e1 : (1000 : Int32).toInt = 1000 := by decide
  have e2 : (100000 : Int32).toInt = 100000 := by decide
  have K : ¬ (0 ≤ x1.toInt ∧ x1.toInt ≤ 1000 ∧ p.1 0 + x1.toInt ≤ 100000) → tz_O (fun z : Int32 × ez_H => z.1.toInt = lA (p.1 0) x1 ∧ tp (up p 0 (lT (p.1 0) x1)) z.2) (z_X10_goOn_22 σ) := by
    intro h
    unfold z_X10_goOn_22
    refine tz_some ⟨?_, ?_⟩
    · show (-1 : Int32).toInt = _
      unfold lA
      rw [if_neg h]
      decide
    · unfold lT
      rw [if_neg h, up_id]
      exact hT
  have hg := hT.1.1
  unfold z_X10_goOn
  refine tz_bd (tz_ob hT k_h0) (fun _ _ => ?_)
  refine tz_if _ (fun c => K (by have := lt_c c; omega)) (fun c => ?_)
  have c := nlt_c c
  refine tz_if _ (fun c => K (by have := lt_c c; omega)) (fun c2 => ?_)
  have c2 := nlt_c c2
  refine tz_be (tz_gi hT k_h0 (tf_10_5 (p := p))) (fun t ht it => ?_)
  obtain ⟨i1, i2⟩ := it
  refine tz_let (fun u hu => ?_)
  have hu : u.toInt = t.toInt + x1.toInt := by
    rw [hu]
    exact tq_addT (a := 0) (b := 100000) (c := 0) (d := 1000) ⟨by omega, by omega⟩ ⟨by omega, by omega⟩ (by decide) (by decide)
  refine tz_if _ (fun c3 => ?_) (fun c => K (by have := nle_c c; omega))
  have c3 := le_c c3
  refine tz_bk ht ?_
  refine tz_let (fun w hw => ?_)
  have hw : w.toInt = t.toInt + x1.toInt := by
    rw [hw]
    exact tq_addT (a := 0) (b := 100000) (c := 0) (d := 1000) ⟨by omega, by omega⟩ ⟨by omega, by omega⟩ (by decide) (by decide)
  have hw2 : w.toInt = p.1 0 + x1.toInt := by omega
  refine tz_be (tz_up0 hT k_h0 hw2 (by omega) (by omega)) (fun s es hs => ?_)
  refine tz_bk (fr_pf_gi es) ?_
  refine tz_some ⟨?_, ?_⟩
  · show w.toInt = _
    unfold lA
    rw [if_pos (by omega)]
    omega
  · unfold lT
    rw [if_pos (by omega)]
    exact hs
theorem tz_X11_later {p : tz_P} {σ : ez_H} {h0 : Nat} {x1 : Int32} (hT : tp p σ) (k_h0 : tz_C h0 = some (3, 11, 0, 0)) : tz_O2 (fun (z : Int32) (s : ez_H) => z.toInt = lA (p.1 0) x1 ∧ tp (up p 0 (lT (p.1 0) x1)) s) (z_X11_later σ h0 x1) := by
  unfold z_X11_later
  refine tz_bd (tz_ob hT k_h0) (fun _ _ => ?_)
  refine tz_bd (tg_11_14 hT k_h0) (fun t kt => ?_)
  refine tz_b2 (tz_X10_goOn hT kt) (fun z s hz => ?_)
  exact tz_some hz
