/-! The reader of a text: all of it; another bank. -/
def sw (p : tz_P) (s : ez_H) : tz_P := (fun i => if i = 2 then p.1 3 else if i = 6 then cr p s 193 else if i = 7 then cr p s 194 else if i = 8 then cr p s 183 else p.1 i, fun i => rv s 200 i)
def spe (e : Nat) : Bool := Nat.beq e 173 || (Nat.beq e 174 || (Nat.beq e 183 || (Nat.beq e 193 || (Nat.beq e 194 || Nat.beq e 200))))
theorem spe_el {p q : tz_P} {e : Nat} (h : spe e = false) (i : Nat) : tz_el p e i = tz_el q e i := by
  unfold spe at h
  simp only [Bool.or_eq_false_iff] at h
  obtain ⟨h1, h2, h3, h4, h5, h6⟩ := h
  unfold tz_el
  simp only [h1, h2, h3, h4, h5, h6, cond_false]
theorem spe_j {j t n e : Nat} (hj : tz_C j = some (0, t, n, e)) (h : spe e = true) : e = j := by
  have hl : j < 217 := by
    unfold tz_C at hj
    rw [ez_at_eq] at hj
    exact (List.getElem?_eq_some_iff.mp hj).1
  have hd : ∀ i : Fin 217, (match tz_C i.val with
    | some K => !(Nat.beq K.1 0) || (!(spe K.2.2.2) || Nat.beq K.2.2.2 i.val)
    | none => true) = true := by decide +kernel
  have h2 : (match tz_C j with
    | some K => !(Nat.beq K.1 0) || (!(spe K.2.2.2) || Nat.beq K.2.2.2 j)
    | none => true) = true := hd ⟨j, hl⟩
  rw [hj] at h2
  have h3 : (!(Nat.beq 0 0) || (!(spe e) || Nat.beq e j)) = true := h2
  rw [h] at h3
  exact Nat.eq_of_beq_eq_true (by simpa using h3)
section H9
variable {p : tz_P} {σ s s1 s2 : ez_H} {r : Nat} {i x : Int32}
theorem sw_row (hL : PL p s) {j t n e : Nat} {l : List (Nat × Int32)} (hj : tz_C j = some (0, t, n, e)) (h1 : ez_at s j = some (.inl (t, n, l))) (h : ∀ i, i < n → tq_iv (tz_el p e i).1 (tz_el p e i).2 (ez_get 0 l i)) (i : Nat) (hi : i < n) : tq_iv (tz_el (sw p s) e i).1 (tz_el (sw p s) e i).2 (ez_get 0 l i) := by
  have g3 := gh_r hL.1.1
  by_cases q : spe e = false
  · rw [spe_el (q := p) q]
    exact h i hi
  have q : spe e = true := by
    cases w : spe e with
    | true => rfl
    | false => exact absurd w q
  have ej := spe_j hj q
  subst ej
  have hrv : rv s e i = (ez_get 0 l i).toInt := by
    unfold rv
    rw [h1]
    rfl
  have hold := h i hi
  have hcr : (i : Int) = p.1 3 → cr p s e = (ez_get 0 l i).toInt := by
    intro w
    unfold cr
    rw [show (p.1 3).toNat = i by omega, hrv]
  unfold spe at q
  simp only [Bool.or_eq_true] at q
  rcases q with q | q | q | q | q | q <;> have q := Nat.eq_of_beq_eq_true q <;> subst q
  · show tq_iv (tz_bn (sw p s) i (2, 5) (0, 5)).1 (tz_bn (sw p s) i (2, 5) (0, 5)).2 _
    have ho : tq_iv (tz_bn p i (2, 5) (0, 5)).1 (tz_bn p i (2, 5) (0, 5)).2 (ez_get 0 l i) := hold
    unfold tz_bn at ho ⊢
    have e2 : (sw p s).1 2 = p.1 3 := rfl
    rw [e2]
    by_cases w : (i : Int) = p.1 3
    · rw [if_pos w]
      have := hcr w
      have := hL.2.2.1
      exact ⟨by show (2 : Int) ≤ _; omega, by show _ ≤ (5 : Int); omega⟩
    · rw [if_neg w]
      by_cases w2 : (i : Int) = p.1 2
      · rw [if_pos w2] at ho
        have a := ho.1
        have b := ho.2
        exact ⟨by show (0 : Int) ≤ _; have a : (2 : Int) ≤ _ := a; omega, b⟩
      · rw [if_neg w2] at ho
        exact ho
  · show tq_iv (tz_bn (sw p s) i (2, 6) (0, 6)).1 (tz_bn (sw p s) i (2, 6) (0, 6)).2 _
    have ho : tq_iv (tz_bn p i (2, 6) (0, 6)).1 (tz_bn p i (2, 6) (0, 6)).2 (ez_get 0 l i) := hold
    unfold tz_bn at ho ⊢
    have e2 : (sw p s).1 2 = p.1 3 := rfl
    rw [e2]
    by_cases w : (i : Int) = p.1 3
    · rw [if_pos w]
      have := hcr w
      have := hL.2.2.2.1
      exact ⟨by show (2 : Int) ≤ _; omega, by show _ ≤ (6 : Int); omega⟩
    · rw [if_neg w]
      by_cases w2 : (i : Int) = p.1 2
      · rw [if_pos w2] at ho
        have a := ho.1
        have b := ho.2
        exact ⟨by show (0 : Int) ≤ _; have a : (2 : Int) ≤ _ := a; omega, b⟩
      · rw [if_neg w2] at ho
        exact ho
  · show tq_iv (tz_bn (sw p s) i (cr p s 183, cr p s 183) (-2147483648, 2147483647)).1 (tz_bn (sw p s) i (cr p s 183, cr p s 183) (-2147483648, 2147483647)).2 _
    unfold tz_bn
    have e2 : (sw p s).1 2 = p.1 3 := rfl
    rw [e2]
    by_cases w : (i : Int) = p.1 3
    · rw [if_pos w]
      have := hcr w
      exact ⟨by show cr p s 183 ≤ _; omega, by show _ ≤ cr p s 183; omega⟩
    · rw [if_neg w]
      exact tq_top _
  · show tq_iv (tz_bn (sw p s) i (cr p s 193, cr p s 193) (-2147483648, 2147483647)).1 (tz_bn (sw p s) i (cr p s 193, cr p s 193) (-2147483648, 2147483647)).2 _
    unfold tz_bn
    have e2 : (sw p s).1 2 = p.1 3 := rfl
    rw [e2]
    by_cases w : (i : Int) = p.1 3
    · rw [if_pos w]
      have := hcr w
      exact ⟨by show cr p s 193 ≤ _; omega, by show _ ≤ cr p s 193; omega⟩
    · rw [if_neg w]
      exact tq_top _
  · show tq_iv (tz_bn (sw p s) i (cr p s 194, cr p s 194) (-2147483648, 2147483647)).1 (tz_bn (sw p s) i (cr p s 194, cr p s 194) (-2147483648, 2147483647)).2 _
    unfold tz_bn
    have e2 : (sw p s).1 2 = p.1 3 := rfl
    rw [e2]
    by_cases w : (i : Int) = p.1 3
    · rw [if_pos w]
      have := hcr w
      exact ⟨by show cr p s 194 ≤ _; omega, by show _ ≤ cr p s 194; omega⟩
    · rw [if_neg w]
      exact tq_top _
  · by_cases w : 560 * (sw p s).1 2 ≤ (i : Int) ∧ (i : Int) < 560 * (sw p s).1 2 + 560
    · rw [el_200 w.1 w.2]
      have e : (sw p s).2 i = rv s 200 i := rfl
      exact ⟨by show (sw p s).2 i ≤ _; omega, by show _ ≤ (sw p s).2 i; omega⟩
    · rw [el_200n w]
      exact tq_top _
theorem sw_gh (hL : PL p s) : tz_gh (sw p s) := by
  obtain ⟨h0, h1, h2, h3, h4, h5, -⟩ := hL.1.1
  refine ⟨h0, h1, h3, h3, h4, h5, fun q => ?_⟩
  have q : cr p s 183 / 8 % 2 = 1 := q
  obtain ⟨a1, a2, a3, d, a4⟩ := hL.2.2.2.2.1 q
  exact ⟨a1, a2, a3, rpv_rp _ _ _ _ a4⟩
theorem sw_fs : tz_fs (sw p s) = (tz_fs p).set 12 (((tz_fs p).getD 12 []).set 43 (0, (0, 0, 0, 0), p.1 3, p.1 3)) := rfl
theorem tz_reghE {C : Nat → Option tz_K} {F F' : Nat → Nat → Option tz_f} {E E' : Nat → Nat → Int × Int} {P P' : Prop} {c kk a : Nat} {f : tz_f} {σ σ1 : ez_H} {v : ez_V} (hone : ∀ j k3 k4, C j = some (3, c, k3, k4) → j = a) (hF : ∀ ci k f2, F' ci k = some f2 → (ci = c ∧ k = kk ∧ f2 = f) ∨ (F ci k = some f2 ∧ (ci = c → ¬ k = kk))) (hE : ∀ j t n e l, C j = some (0, t, n, e) → ez_at σ j = some (.inl (t, n, l)) → (∀ i, i < n → tq_iv (E e i).1 (E e i).2 (ez_get 0 l i)) → ∀ i, i < n → tq_iv (E' e i).1 (E' e i).2 (ez_get 0 l i)) (hg : P') (hT : tz_T (C, F, E, P) σ) (hK : C a = some (3, c, 0, 0)) (hpf : ez_pf σ c a kk v = some σ1) (hv : tz_okV (C, F', E', P') f v) : tz_T (C, F', E', P') σ1 := by
  obtain ⟨fs, e0, hk, e1⟩ := ez_pf_sp hpf
  have e0' : ez_at σ a = some (.inr (.inr (.inr (c, fs)))) := by rw [ez_at_eq]; exact e0
  have hV : ∀ f2 w, tz_okV (C, F, E, P) f2 w → tz_okV (C, F', E', P') f2 w := by
    intro f2 w h
    match w, h with
    | .inl _, h => exact h
    | .inr (.inl _), h => exact h
    | .inr (.inr none), h => exact h
    | .inr (.inr (some _)), h => exact h
  refine ⟨hg, fun j K hj => ?_⟩
  have hj : C j = some K := hj
  rw [e1, tz_at_set e0']
  obtain ⟨e, h1, h2⟩ := hT.2 j K hj
  by_cases qj : j = a
  · subst qj
    rw [if_pos rfl]
    refine ⟨_, rfl, ?_⟩
    rw [hK] at hj
    cases hj
    refine ⟨rfl, rfl, fun k f2 hf2 => ?_⟩
    have hf2 : F' c k = some f2 := hf2
    rw [e0'] at h1
    cases h1
    obtain ⟨-, -, h3⟩ := h2
    rcases hF c k f2 hf2 with ⟨-, rfl, rfl⟩ | ⟨hp, hne⟩
    · exact ⟨v, List.getElem?_set_self hk, hv⟩
    · obtain ⟨w, w1, w2⟩ := h3 k f2 hp
      exact ⟨w, by rw [List.getElem?_set_ne (fun z => hne rfl z.symm), w1], hV _ _ w2⟩
  · rw [if_neg qj]
    refine ⟨e, h1, ?_⟩
    match e, h1, h2 with
    | .inl (t, n, l), h1, ⟨a1, a2, a3, a4, a5⟩ =>
      obtain ⟨k1, k2, k3, k4⟩ := K
      have a1 : k1 = 0 := a1
      have a2 : k2 = t := a2
      have a3 : k3 = n := a3
      subst a1 a2 a3
      exact ⟨rfl, rfl, rfl, a4, hE j k2 k3 k4 l hj h1 a5⟩
    | .inr (.inl (n, _)), _, h2 => exact h2
    | .inr (.inr (.inl (t, n, l))), _, h2 => exact h2
    | .inr (.inr (.inr (ci, fs2))), h1, ⟨a1, a2, a3⟩ =>
      refine ⟨a1, a2, fun k f2 hf2 => ?_⟩
      have hf2 : F' ci k = some f2 := hf2
      have hc : ¬ ci = c := fun w => qj (by
        obtain ⟨k1, k2, k3, k4⟩ := K
        have b1 : k1 = 3 := a1
        have b2 : k2 = ci := a2
        subst b1 b2 w
        exact hone j k3 k4 hj)
      rcases hF ci k f2 hf2 with ⟨w, -, -⟩ | ⟨hp, -⟩
      · exact absurd w hc
      · obtain ⟨w, w1, w2⟩ := a3 k f2 hp
        exact ⟨w, w1, hV _ _ w2⟩
theorem sw_T (hL : PL p s) (hx : x.toInt = p.1 3) (hpf : ez_pf s 12 170 43 (.inl x) = some s1) : tp (sw p s) s1 := by
  have hT := hL.1
  unfold tp at hT ⊢
  rw [tz_Gp_eq] at hT ⊢
  refine tz_reghE (c := 12) (kk := 43) (a := 170) (f := (0, (0, 0, 0, 0), p.1 3, p.1 3)) (fun j k3 k4 hj => ?_) (fun ci k f2 h => ?_) (fun j t n e l hj h1 h i hi => sw_row hL hj h1 h i hi) (sw_gh hL) hT tc_170 hpf ⟨rfl, ?_, ?_⟩
  · obtain ⟨b3, b4⟩ := tz_k3 hj
    rw [b3, b4] at hj
    exact tz_one12 hj
  · rw [tz_F_FL, sw_fs] at h
    rw [tz_F_FL]
    exact tz_FL_set ci k f2 h
  · show p.1 3 ≤ x.toInt
    omega
  · show x.toInt ≤ p.1 3
    omega
def CB (p : tz_P) (σ s : ez_H) : Prop := tp p s ∧ (∀ k, ¬ k = 45 → fv s k = fv σ k) ∧ fv s 45 = 560 * p.1 3 ∧ cr p s 173 = 5 ∧ cr p s 174 = 6 ∧ cr p s 183 = 0
theorem clearE (hT : tp p σ) (hb : ¬ p.1 3 = p.1 2) : tz_O (fun z : Unit × ez_H => CB p σ z.2) (z_X12_clearBank σ 170) := by
  have gr := gh_r hT.1
  have gb := gh_b hT.1
  unfold z_X12_clearBank
  refine tz_bd (tz_ob (G := tz_Gp p) (a := 170) (ci := 12) hT tc_170) (fun _ _ => ?_)
  refine tz_bk (tr_11 hT tc_170) ?_
  refine tz_bd (rbE hT) (fun t1 h1 => ?_)
  refine tz_be (tz_isS (G := tz_Gp p) (r := 173) hT tc_173 (tS_173 (p := p) 0 1 5 5 (by decide)) (i := t1) (x := 5) ⟨by omega, by omega⟩ (by decide) (by decide) ⟨by decide, by decide⟩) (fun s1 c1 hs1 => ?_)
  refine tz_bk (tr_12 hs1 tc_170) ?_
  refine tz_bd (rbE hs1) (fun t2 h2 => ?_)
  refine tz_be (tz_isS (G := tz_Gp p) (r := 174) hs1 tc_174 (tS_174 (p := p) 0 1 6 6 (by decide)) (i := t2) (x := 6) ⟨by omega, by omega⟩ (by decide) (by decide) ⟨by decide, by decide⟩) (fun s2 c2 hs2 => ?_)
  refine tz_bk (tr_13 hs2 tc_170) ?_
  refine tz_bd (rbE hs2) (fun t3 h3 => ?_)
  refine tz_be (wrC hs2 tc_175 (te_175 (p := p)) h3.1 (x := 5) ⟨by decide, by decide⟩) (fun s3 c3 hs3 => ?_)
  refine tz_bk (tr_14 hs3 tc_170) ?_
  refine tz_bd (rbE hs3) (fun t4 h4 => ?_)
  refine tz_be (wrC hs3 tc_176 (te_176 (p := p)) h4.1 (x := 0) ⟨by decide, by decide⟩) (fun s4 c4 hs4 => ?_)
  refine tz_bk (tr_15 hs4 tc_170) ?_
  refine tz_bd (rbE hs4) (fun t5 h5 => ?_)
  refine tz_be (wrC hs4 tc_177 (te_177 (p := p)) h5.1 (x := 0) ⟨by decide, by decide⟩) (fun s5 c5 hs5 => ?_)
  refine tz_bk (tr_16 hs5 tc_170) ?_
  refine tz_bd (rbE hs5) (fun t6 h6 => ?_)
  refine tz_be (wrC hs5 tc_178 (te_178 (p := p)) h6.1 (x := 0) ⟨by decide, by decide⟩) (fun s6 c6 hs6 => ?_)
  refine tz_bk (tr_17 hs6 tc_170) ?_
  refine tz_bd (rbE hs6) (fun t7 h7 => ?_)
  refine tz_be (wrC hs6 tc_179 (te_179 (p := p)) h7.1 (x := 0) ⟨by decide, by decide⟩) (fun s7 c7 hs7 => ?_)
  refine tz_bk (tr_18 hs7 tc_170) ?_
  refine tz_bd (rbE hs7) (fun t8 h8 => ?_)
  refine tz_be (wrC hs7 tc_180 (te_180 (p := p)) h8.1 (x := 0) ⟨by decide, by decide⟩) (fun s8 c8 hs8 => ?_)
  refine tz_bk (tr_19 hs8 tc_170) ?_
  refine tz_bd (rbE hs8) (fun t9 h9 => ?_)
  refine tz_be (wrC hs8 tc_181 (te_181 (p := p)) h9.1 (x := 0) ⟨by decide, by decide⟩) (fun s9 c9 hs9 => ?_)
  refine tz_bk (tr_20 hs9 tc_170) ?_
  refine tz_bd (rbE hs9) (fun ta ha => ?_)
  refine tz_be (wrC hs9 tc_182 (te_182 (p := p)) ha.1 (x := 0) ⟨by decide, by decide⟩) (fun sa ca hsa => ?_)
  refine tz_bk (tr_21 hsa tc_170) ?_
  refine tz_bd (rbE hsa) (fun tb hb' => ?_)
  refine tz_be (isRT (x := 0) hsa hb hb'.1 (Or.inl rfl)) (fun sb cb hsb => ?_)
  have f : ∀ k, fv sb k = fv σ k := fun k => by rw [fv_is cb, fv_is ca, fv_is c9, fv_is c8, fv_is c7, fv_is c6, fv_is c5, fv_is c4, fv_is c3, fv_is c2, fv_is c1]
  have q173 : cr p sb 173 = 5 := by
    rw [cr_is cb (by decide), cr_is ca (by decide), cr_is c9 (by decide), cr_is c8 (by decide), cr_is c7 (by decide), cr_is c6 (by decide), cr_is c5 (by decide), cr_is c4 (by decide), cr_is c3 (by decide), cr_is c2 (by decide), cr_isS c1 h1.1]
    decide
  have q174 : cr p sb 174 = 6 := by
    rw [cr_is cb (by decide), cr_is ca (by decide), cr_is c9 (by decide), cr_is c8 (by decide), cr_is c7 (by decide), cr_is c6 (by decide), cr_is c5 (by decide), cr_is c4 (by decide), cr_is c3 (by decide), cr_isS c2 h2.1]
    decide
  have q183 : cr p sb 183 = 0 := by
    rw [cr_isS cb hb'.1]
    decide
  refine lpG (fun (k : ez_H → Nat → Int32 → Option (Unit × ez_H)) (a : ez_H × Int32) => k a.1 170 a.2) (fun a => tp p a.1 ∧ (∀ k, fv a.1 k = fv σ k) ∧ cr p a.1 173 = 5 ∧ cr p a.1 174 = 6 ∧ cr p a.1 183 = 0 ∧ 0 ≤ a.2.toInt) (fun a => (2147483647 - a.2.toInt).toNat) ?_ (sb, 0) ⟨hsb, f, q173, q174, q183, i0z⟩ (tq_m0 _)
  rintro k ⟨s, x1⟩ ⟨hs, f, q173, q174, q183, hx⟩ hk
  have hs : tp p s := hs
  have f : ∀ k, fv s k = fv σ k := f
  have q173 : cr p s 173 = 5 := q173
  have q174 : cr p s 174 = 6 := q174
  have q183 : cr p s 183 = 0 := q183
  have hx : 0 ≤ x1.toInt := hx
  show tz_O _ (z_X12_clearBank_113 k s 170 x1)
  unfold z_X12_clearBank_113
  refine tz_if _ (fun _ => ?_) (fun c => ?_)
  · refine tz_bd (rbE hs) (fun t160 h160 => ?_)
    refine tz_let (fun t163 e163 => ?_)
    have e560 : (560 : Int32).toInt = 560 := by decide
    have h163 := mul_c e163 e560 (by decide) (by decide) h160.2.1 (by omega)
    refine tz_be (tw_12_45 hs tc_170 (tq_top t163)) (fun s2 c2 hs2 => ?_)
    have kr : ∀ r, cr p s2 r = cr p s r := fun r => rv_pf c2 _
    refine tz_some ⟨hs2, fun k hk => ?_, ?_, ?_, ?_, ?_⟩
    · show fv s2 k = _
      rw [fv_pf_ne c2 hk, f]
    · show fv s2 45 = _
      rw [fv_pf c2, h163, h160.1]
    · show cr p s2 173 = 5
      rw [kr, q173]
    · show cr p s2 174 = 6
      rw [kr, q174]
    · show cr p s2 183 = 0
      rw [kr, q183]
  · have c := nle_c c
    rw [i6e] at c
    refine tz_bk (tr_29 hs tc_170) ?_
    refine tz_bd (rbE hs) (fun t126 h126 => ?_)
    refine tz_let (fun t129 e129 => ?_)
    have h129 := mul_c e129 i6e (by decide) (by decide) h126.2.1 (by omega)
    refine tz_let (fun t131 e131 => ?_)
    have h131 := add_c e131 (by omega) (by omega) (by omega) (by omega)
    refine tz_be (wrE hs tc_191 (i := t131) (by omega) (by omega) (te_0 _) (tq_top 0)) (fun s2 c2 hs2 => ?_)
    refine tz_bk (tr_30 hs2 tc_170) ?_
    refine tz_bd (rbE hs2) (fun t141 h141 => ?_)
    refine tz_let (fun t144 e144 => ?_)
    have h144 := mul_c e144 i6e (by decide) (by decide) h141.2.1 (by omega)
    refine tz_let (fun t146 e146 => ?_)
    have h146 := add_c e146 (by omega) (by omega) (by omega) (by omega)
    refine tz_be (wrE hs2 tc_192 (i := t146) (by omega) (by omega) (te_0 _) (tq_top 0)) (fun s3 c3 hs3 => ?_)
    refine tz_let (fun t149 e149 => ?_)
    have h149 := tq_inc e149 hx (by omega)
    refine hk (s3, t149) ⟨hs3, fun k => ?_, ?_, ?_, ?_, ?_⟩ ?_
    · show fv s3 k = _
      rw [fv_is c3, fv_is c2, f]
    · show cr p s3 173 = _
      rw [cr_is c3 (by decide), cr_is c2 (by decide), q173]
    · show cr p s3 174 = _
      rw [cr_is c3 (by decide), cr_is c2 (by decide), q174]
    · show cr p s3 183 = _
      rw [cr_is c3 (by decide), cr_is c2 (by decide), q183]
    · show 0 ≤ t149.toInt
      omega
    · show (2147483647 - t149.toInt).toNat < (2147483647 - x1.toInt).toNat
      omega
/-- the times are as they were, and there is room for acts -/
def st (p q : tz_P) : Prop := q.1 0 = p.1 0 ∧ q.1 1 = p.1 1 ∧ (p.1 4 + p.1 5 ≤ 40 → q.1 4 + q.1 5 ≤ 40)
def PQ (p : tz_P) (z : Int32 × ez_H) : Prop := ∃ q, st p q ∧ tp q z.2
theorem planE (hT : tp p σ) : tz_O (PQ p) (z_X12_plan σ 170) := by
  have e0 : (0 : Int32).toInt = 0 := by decide
  unfold z_X12_plan
  refine tz_bd (tz_ob (G := tz_Gp p) (a := 170) (ci := 12) hT tc_170) (fun _ _ => ?_)
  refine tz_be (tw_12_4 hT tc_170 (tq_top 0)) (fun s1 c1 hs1 => ?_)
  refine tz_be (tw_12_5 hs1 tc_170 (tq_top (-1))) (fun s2 c2 hs2 => ?_)
  refine tz_bd (tg_12_2 hs2 tc_170) (fun t12 h12 => ?_)
  refine tz_be (tw_12_3 hs2 tc_170 h12) (fun s3 c3 hs3 => ?_)
  refine lpG (fun (k : ez_H → Nat → Int32 → Option (Int32 × ez_H)) (a : ez_H × Int32) => k a.1 170 a.2) (fun a => tp p a.1 ∧ 0 ≤ a.2.toInt) (fun a => (2147483647 - a.2.toInt).toNat) ?_ (s3, 0) ⟨hs3, i0z⟩ (tq_m0 _)
  rintro k ⟨s, x1⟩ ⟨hs, hx⟩ hk
  have hs : tp p s := hs
  have hx : 0 ≤ x1.toInt := hx
  have gb := gh_b hs.1
  show tz_O _ (z_X12_plan_20 k s 170 x1)
  unfold z_X12_plan_20
  refine tz_bd (tg_12_3 hs tc_170) (fun t22 h22 => ?_)
  refine tz_if _ (fun _ => ?_) (fun c => ?_)
  · refine tz_be (tw_12_2 hs tc_170 ⟨by decide, by decide⟩) (fun s4 c4 hs4 => ?_)
    refine tz_be (tw_12_7 hs4 tc_170 ⟨by decide, by decide⟩) (fun s5 c5 hs5 => ?_)
    refine tz_bd (tz_gi (G := tz_Gp p) (a := 170) (ci := 12) (k := 43) hs5 tc_170 (tf_12_43 (p := p))) (fun t59 h59 => ?_)
    have h59 : t59.toInt = p.1 2 := by
      have := h59.1
      have := h59.2
      omega
    refine tz_let (fun t62 e62 => ?_)
    have h62 := sub_c e62 (by decide) (by decide) (by omega) (by omega)
    rw [i1e] at h62
    refine tz_be (tz_up3 (v := 1 - p.1 2) hs5 tc_170 (by omega) (by omega)) (fun s6 c6 hs6 => ?_)
    generalize hp : up p 3 (1 - p.1 2) = p1 at hs6
    have hst : st p p1 := by rw [← hp]; exact ⟨rfl, rfl, fun q => q⟩
    have h2 : p1.1 2 = p.1 2 := by rw [← hp]; rfl
    have h3 : p1.1 3 = 1 - p.1 2 := by rw [← hp]; rfl
    have hb : ¬ p1.1 3 = p1.1 2 := by omega
    refine tz_b3 (clearE hs6 hb) (fun _ s7 hs7 => ?_)
    obtain ⟨hs7, f7, f45, q173, q174, q183⟩ := hs7
    have hs7 : tp p1 s7 := hs7
    have f7 : ∀ k, ¬ k = 45 → fv s7 k = fv s6 k := f7
    have f45 : fv s7 45 = 560 * p1.1 3 := f45
    have q173 : cr p1 s7 173 = 5 := q173
    have q174 : cr p1 s7 174 = 6 := q174
    have q183 : cr p1 s7 183 = 0 := q183
    have pm7 : pm s7 := by
      obtain ⟨y, -, hy, hy1, -⟩ := gf (tg_12_3 hs7 tc_170)
      unfold pm
      rw [f7 7 (by decide), fv_pf_ne c6 (by decide), fv_pf c5, e0]
      omega
    have L7 : PL p1 s7 := ⟨hs7, pm7, by omega, by omega, fun q => by rw [q183] at q; exact absurd q (by decide), fun _ => f45⟩
    refine tz_b3 (goE hs7 pm7) (fun _ s8 hs8 => ?_)
    have L8 : PL p1 s8 := PL_PW L7 (PW_PR hs8.1)
    have K95 : ∀ s, PL p1 s → tz_O (PQ p) (z_X12_plan_95 s 170) := by
      intro s hL
      unfold z_X12_plan_95
      refine tz_bd (isGoodE hL.1) (fun t96 _ => tz_if _ (fun _ => tz_some ⟨p1, hst, hL.1⟩) (fun _ => ?_))
      refine tz_bd (rbE hL.1) (fun t106 h106 => ?_)
      obtain ⟨s9, c9⟩ := tz_pfE (G := tz_Gp p1) (a := 170) (ci := 12) (k := 43) hL.1 tc_170 (tf_12_43 (p := p1)) (.inl t106)
      refine tz_bk c9 ?_
      have hs9 := sw_T hL h106.1 c9
      have st9 : st p (sw p1 s) := ⟨hst.1, hst.2.1, fun q => hst.2.2 q⟩
      refine tz_b2 (tz_X12_startAnew hs9 tc_170) (fun _ sa hsa => ?_)
      refine tz_bk (tr_14 hsa tc_170) ?_
      refine tz_bd (tg_12_43 hsa tc_170) (fun t121 h121 => ?_)
      refine tz_bd (tz_ia hsa tc_176 (te_176 (p := sw p1 s)) h121 (by decide) (by decide)) (fun t124 _ => ?_)
      exact tz_some ⟨sw p1 s, st9, hsa⟩
    refine lpG (fun (k : ez_H → Nat → Option (Int32 × ez_H)) (a : ez_H) => k a 170) (PL p1) M ?_ s8 L8 (M_lt _)
    intro k2 s hL hk2
    show tz_O _ (z_X12_plan_74 k2 s 170)
    unfold z_X12_plan_74
    refine tz_bd (isGoodE hL.1) (fun t75 h75 => tz_if _ (fun _ => K95 s hL) (fun cg => ?_))
    have h4 : fv s 4 = 0 := by
      by_cases q : fv s 4 = 0
      · exact q
      · exact absurd (h75.mpr q) cg
    refine tz_bd (gf (tg_12_8 hL.1 tc_170)) (fun t82 h82 => tz_if _ (fun _ => K95 s hL) (fun c8 => ?_))
    have c8 := ne_c c8
    refine tz_b3 (lineE hb hL h4 (by omega)) (fun _ s9 hs9 => ?_)
    exact hk2 s9 hs9.1 hs9.2
  · have c := nle_c c
    have := h22.2
    refine tz_bk (tr_1 hs tc_170) ?_
    refine tz_bk (tr_0 hs tc_170) ?_
    refine tz_bd (tz_ia (G := tz_Gp p) (r := 171) hs tc_171 (te_1 (p := p)) (lo := 0) (hi := 1599) (i := x1) ⟨by omega, by omega⟩ (by decide) (by decide)) (fun t38 _ => ?_)
    refine tz_be (tz_is (G := tz_Gp p) (r := 172) hs tc_172 (te_1 (p := p)) (lo := 0) (hi := 1599) (i := x1) ⟨by omega, by omega⟩ (by decide) (by decide) (tq_nar_byte t38)) (fun s4 c4 hs4 => ?_)
    refine tz_let (fun t40 e40 => ?_)
    have h40 := tq_inc e40 hx (by omega)
    exact hk (s4, t40) ⟨hs4, by show 0 ≤ t40.toInt; omega⟩ (by show (2147483647 - t40.toInt).toNat < (2147483647 - x1.toInt).toNat; omega)
end H9
