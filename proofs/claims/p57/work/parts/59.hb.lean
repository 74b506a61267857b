/-! The shortest way: how many doors it is, and that there is a door that leads nearer. -/
def DE (n : Int) (f t l : Nat → Int) (op : Int32) (u v : Int) : Prop := ∃ d : Nat, (d : Int) < n ∧ tb op (l d).toNat = true ∧ ((f d = u ∧ t d = v) ∨ (f d = v ∧ t d = u))
def RR (E : Int → Int → Prop) : Nat → Int → Int → Prop
  | 0, a, t => a = t
  | k + 1, a, t => RR E k a t ∨ ∃ u, RR E k a u ∧ E u t
def DD (E : Int → Int → Prop) (a t : Int) (k : Nat) : Prop := RR E k a t ∧ ∀ m, m < k → ¬ RR E m a t
section RRs
variable {E : Int → Int → Prop}
theorem RR_0 : ∀ k (a : Int), RR E k a a
  | 0, _ => rfl
  | k + 1, a => Or.inl (RR_0 k a)
theorem RR_cons {a x : Int} (h : E a x) : ∀ k t, RR E k x t → RR E (k + 1) a t
  | 0, t, h2 => by
    have h2 : x = t := h2
    subst h2
    exact Or.inr ⟨a, rfl, h⟩
  | k + 1, t, h2 => by
    rcases h2 with h2 | ⟨u, h2, h3⟩
    · exact Or.inl (RR_cons h k t h2)
    · exact Or.inr ⟨u, RR_cons h k u h2, h3⟩
theorem RR_first {a : Int} : ∀ k t, RR E (k + 1) a t → a = t ∨ ∃ x, E a x ∧ RR E k x t
  | 0, t, h => by
    rcases h with h | ⟨u, h2, h3⟩
    · exact Or.inl h
    · have h2 : a = u := h2
      subst h2
      exact Or.inr ⟨t, h3, rfl⟩
  | k + 1, t, h => by
    rcases h with h | ⟨u, h2, h3⟩
    · rcases RR_first k t h with h | ⟨x, h1, h2⟩
      · exact Or.inl h
      · exact Or.inr ⟨x, h1, Or.inl h2⟩
    · rcases RR_first k u h2 with h | ⟨x, h1, h2⟩
      · subst h
        exact Or.inr ⟨t, h3, RR_0 _ t⟩
      · exact Or.inr ⟨x, h1, Or.inr ⟨u, h2, h3⟩⟩
theorem DD_step {a t : Int} {k : Nat} (hn : ¬ a = t) (h : DD E a t k) : ∃ m x, k = m + 1 ∧ E a x ∧ DD E x t m := by
  obtain ⟨h1, h2⟩ := h
  cases k with
  | zero => exact absurd h1 hn
  | succ m =>
    rcases RR_first m t h1 with h | ⟨x, h3, h4⟩
    · exact absurd h hn
    · exact ⟨m, x, rfl, h3, h4, fun q hq hr => h2 (q + 1) (by omega) (RR_cons h3 q t hr)⟩
theorem DD_one {a t : Int} {k m : Nat} (h : DD E a t k) (h2 : DD E a t m) : k = m := by
  rcases Nat.lt_trichotomy k m with q | q | q
  · exact absurd h.1 (h2.2 k q)
  · exact q
  · exact absurd h2.1 (h.2 m q)
end RRs
section HB
variable {p : tz_P} {σ s s1 s2 : ez_H} {r : Nat} {i x op : Int32}
def dR (p : tz_P) (s : ez_H) (r : Nat) (d : Nat) : Int := rv s r (8 * (p.1 2).toNat + d)
def dN (p : tz_P) (s : ez_H) : Int := rv s 179 (p.1 2).toNat
def HE (p : tz_P) (s : ez_H) (op : Int32) : Int → Int → Prop := DE (dN p s) (dR p s 186) (dR p s 187) (dR p s 188) op
theorem rv_el {n e j : Nat} {lo hi : Int} (hT : tp p s) (hK : tz_C r = some (0, 1, n, e)) (hj : j < n) (he : tz_el p e j = (lo, hi)) : lo ≤ rv s r j ∧ rv s r j ≤ hi := by
  obtain ⟨l, h2, h3, h4⟩ := tz_row (G := tz_Gp p) (r := r) hT hK
  have h := h4 j hj
  have e1 : (tz_Gp p).2.2.1 e j = (lo, hi) := he
  rw [e1] at h
  have e2 : rv s r j = (ez_get 0 l j).toInt := by
    unfold rv
    rw [h2]
    rfl
  rw [e2]
  exact h
theorem dR_b (hT : tp p s) {d : Nat} (hd : d < 8) : (0 ≤ dR p s 186 d ∧ dR p s 186 d ≤ 5) ∧ (0 ≤ dR p s 187 d ∧ dR p s 187 d ≤ 5) ∧ (0 ≤ dR p s 188 d ∧ dR p s 188 d ≤ 5) := by
  have g := gh_b hT.1
  exact ⟨rv_el hT tc_186 (by omega) (te_186 _), rv_el hT tc_187 (by omega) (te_187 _), rv_el hT tc_188 (by omega) (te_188 _)⟩
theorem dN_b (hT : tp p s) : 0 ≤ dN p s ∧ dN p s ≤ 8 := by
  have g := gh_b hT.1
  exact rv_el hT tc_179 (by omega) (te_179 _)
theorem bkE (hT : tp p s) : tz_O (fun z : Int32 => z.toInt = p.1 2 ∧ 0 ≤ z.toInt ∧ z.toInt ≤ 1) (ez_gi s 12 170 43) := by
  have g := gh_b hT.1
  refine tz_imp (tz_gi (G := tz_Gp p) (a := 170) (ci := 12) (k := 43) hT tc_170 (tf_12_43 (p := p))) (fun z hz => ?_)
  have h1 := hz.1
  have h2 := hz.2
  exact ⟨by omega, by omega, by omega⟩
theorem dRE {a e : Nat} {lo hi : Int} (hT : tp p s) (hK : tz_C a = some (0, 1, 16, e)) (he : ∀ j, tz_el p e j = (lo, hi)) {d : Int32} (h0 : 0 ≤ d.toInt) (h1 : d.toInt < 8) (hi' : i.toInt = 8 * p.1 2 + d.toInt) : tz_O (fun z : Int32 => z.toInt = dR p s a d.toInt.toNat ∧ lo ≤ z.toInt ∧ z.toInt ≤ hi) (ez_ia s 1 a i) := by
  have g := gh_b hT.1
  refine tz_imp (ga (ia_el hT hK (i := i) (by omega) (by omega) (he _))) (fun z hz => ⟨?_, hz.2⟩)
  have h := hz.1
  rw [show i.toNatClampNeg = i.toInt.toNat from rfl, show i.toInt.toNat = 8 * (p.1 2).toNat + d.toInt.toNat by omega] at h
  exact h
theorem dNE (hT : tp p s) (h : i.toInt = p.1 2) : tz_O (fun z : Int32 => z.toInt = dN p s ∧ 0 ≤ z.toInt ∧ z.toInt ≤ 8) (ez_ia s 1 179 i) := by
  have g := gh_b hT.1
  refine tz_imp (ga (ia_el hT tc_179 (i := i) (by omega) (by omega) (te_179 _))) (fun z hz => ⟨?_, hz.2⟩)
  have h2 := hz.1
  rw [show i.toNatClampNeg = i.toInt.toNat from rfl, h] at h2
  exact h2
def DQ (p : tz_P) (s : ez_H) (op x1 x2 z : Int32) : Prop := (z.toInt = 100000 ∧ ∀ m, m ≤ 6 → ¬ RR (HE p s op) m x1.toInt x2.toInt) ∨ (0 ≤ z.toInt ∧ z.toInt ≤ 6 ∧ DD (HE p s op) x1.toInt x2.toInt z.toInt.toNat)
/-- what is reached by doors ahead of one -/
def QQ (p : tz_P) (s : ez_H) (op x4 : Int32) (d v : Nat) : Prop := tb x4 v = true ∨ ∃ d' : Nat, d' < d ∧ (d' : Int) < dN p s ∧ tb op (dR p s 188 d').toNat = true ∧ (tb x4 (dR p s 186 d').toNat = true ∨ tb x4 (dR p s 187 d').toNat = true) ∧ ((v : Int) = dR p s 186 d' ∨ (v : Int) = dR p s 187 d')
theorem QQ_s {x4 : Int32} {d v : Nat} (hd : (d : Int) < dN p s) : QQ p s op x4 (d + 1) v ↔ QQ p s op x4 d v ∨ (tb op (dR p s 188 d).toNat = true ∧ (tb x4 (dR p s 186 d).toNat = true ∨ tb x4 (dR p s 187 d).toNat = true) ∧ ((v : Int) = dR p s 186 d ∨ (v : Int) = dR p s 187 d)) := by
  constructor
  · rintro (h | ⟨d', h1, h2, h3, h4, h5⟩)
    · exact Or.inl (Or.inl h)
    · by_cases q : d' = d
      · subst q
        exact Or.inr ⟨h3, h4, h5⟩
      · exact Or.inl (Or.inr ⟨d', by omega, h2, h3, h4, h5⟩)
  · rintro ((h | ⟨d', h1, h2, h3, h4, h5⟩) | ⟨h3, h4, h5⟩)
    · exact Or.inl h
    · exact Or.inr ⟨d', by omega, h2, h3, h4, h5⟩
    · exact Or.inr ⟨d, by omega, hd, h3, h4, h5⟩
theorem QQ_RR (hT : tp p s) {x4 : Int32} {d k : Nat} {x1 : Int} (hd : dN p s ≤ d) (h4 : ∀ v : Nat, v < 32 → (tb x4 v = true ↔ RR (HE p s op) k x1 v)) (v : Nat) (hv : v < 32) : QQ p s op x4 d v ↔ RR (HE p s op) (k + 1) x1 v := by
  have hN := dN_b hT
  constructor
  · rintro (h | ⟨d', h1, h2, h3, h5, h6⟩)
    · exact Or.inl ((h4 v hv).mp h)
    · obtain ⟨b1, b2, -⟩ := dR_b hT (d := d') (by omega)
      have q1 : ((dR p s 186 d').toNat : Int) = dR p s 186 d' := by omega
      have q2 : ((dR p s 187 d').toNat : Int) = dR p s 187 d' := by omega
      rcases h5 with h5 | h5
      · have r := (h4 _ (by omega)).mp h5
        rw [q1] at r
        rcases h6 with h6 | h6
        · rw [h6]
          exact Or.inl r
        · exact Or.inr ⟨_, r, d', h2, h3, Or.inl ⟨rfl, h6.symm⟩⟩
      · have r := (h4 _ (by omega)).mp h5
        rw [q2] at r
        rcases h6 with h6 | h6
        · exact Or.inr ⟨_, r, d', h2, h3, Or.inr ⟨h6.symm, rfl⟩⟩
        · rw [h6]
          exact Or.inl r
  · rintro (h | ⟨u, h1, d', h2, h3, h5⟩)
    · exact Or.inl ((h4 v hv).mpr h)
    · obtain ⟨b1, b2, -⟩ := dR_b hT (d := d') (by omega)
      have q1 : ((dR p s 186 d').toNat : Int) = dR p s 186 d' := by omega
      have q2 : ((dR p s 187 d').toNat : Int) = dR p s 187 d' := by omega
      refine Or.inr ⟨d', by omega, h2, h3, ?_⟩
      rcases h5 with ⟨e1, e2⟩ | ⟨e1, e2⟩
      · refine ⟨Or.inl ((h4 _ (by omega)).mpr ?_), Or.inr e2.symm⟩
        rw [q1, e1]
        exact h1
      · refine ⟨Or.inr ((h4 _ (by omega)).mpr ?_), Or.inl e1.symm⟩
        rw [q2, e2]
        exact h1
theorem tb_two {f t a b z : Int32} (ea : a = (1 : Int32) <<< (f &&& 31)) (eb : b = (1 : Int32) <<< (t &&& 31)) (ez : z = a ||| b) (hf : tq_iv 0 5 f) (ht : tq_iv 0 5 t) (v : Nat) (hv : v < 32) : tb z v = true ↔ ((v : Int) = f.toInt ∨ (v : Int) = t.toInt) := by
  have f1 := hf.1
  have t1 := ht.1
  rw [ez, tb_or, tb_s ea hf (by decide) (by decide) v hv, tb_s eb ht (by decide) (by decide) v hv, Bool.or_eq_true]
  constructor
  · rintro (h | h)
    · have := Nat.eq_of_beq_eq_true h
      exact Or.inl (by omega)
    · have := Nat.eq_of_beq_eq_true h
      exact Or.inr (by omega)
  · rintro (h | h)
    · have : v = f.toInt.toNat := by omega
      rw [this]
      exact Or.inl (Nat.beq_refl _)
    · have : v = t.toInt.toNat := by omega
      rw [this]
      exact Or.inr (Nat.beq_refl _)
theorem doorsE {x1 x2 : Int32} (hT : tp p s) (hx1 : tq_iv 0 5 x1) (hx2 : tq_iv 0 5 x2) : tz_O (DQ p s op x1 x2) (z_X12_doorsTo s 170 x1 x2 op) := by
  have e6 : (6 : Int32).toInt = 6 := by decide
  have gb := gh_b hT.1
  have hN := dN_b hT
  have a1 := hx1.1
  have a2 := hx1.2
  have b1 := hx2.1
  have b2 := hx2.2
  unfold z_X12_doorsTo
  refine tz_bd (tz_ob (G := tz_Gp p) (a := 170) (ci := 12) hT tc_170) (fun _ _ => ?_)
  refine tz_let (fun t2 e2 => ?_)
  refine lpG (fun (k : Nat → Int32 → Int32 → Int32 → Int32 → Option Int32) (a : Int32 × Int32) => k 170 x2 op a.1 a.2) (fun a => 0 ≤ a.2.toInt ∧ (∀ v : Nat, v < 32 → (tb a.1 v = true ↔ RR (HE p s op) a.2.toInt.toNat x1.toInt v)) ∧ ∀ m : Nat, (m : Int) < a.2.toInt → ¬ RR (HE p s op) m x1.toInt x2.toInt) (fun a => (2147483647 - a.2.toInt).toNat) ?_ (t2, 0) ⟨i0z, fun v hv => ?_, fun m hm => ?_⟩ (tq_m0 _)
  rotate_left
  · show tb t2 v = true ↔ x1.toInt = (v : Int)
    rw [tb_s e2 hx1 (by decide) (by decide) v hv]
    constructor
    · intro h
      have := Nat.eq_of_beq_eq_true h
      omega
    · intro h
      rw [show v = x1.toInt.toNat by omega]
      exact Nat.beq_refl _
  · have hm : (m : Int) < (0 : Int32).toInt := hm
    rw [i0e] at hm
    omega
  rintro k8 ⟨x4, x5⟩ ⟨h5, h4, hmin⟩ hk8
  have h5 : 0 ≤ x5.toInt := h5
  have h4 : ∀ v : Nat, v < 32 → (tb x4 v = true ↔ RR (HE p s op) x5.toInt.toNat x1.toInt v) := h4
  have hmin : ∀ m : Nat, (m : Int) < x5.toInt → ¬ RR (HE p s op) m x1.toInt x2.toInt := hmin
  show tz_O _ (z_X12_doorsTo_8 s k8 170 x2 op x4 x5)
  unfold z_X12_doorsTo_8
  refine tz_if _ (fun c => ?_) (fun c => ?_)
  · have c := lt_c c
    rw [e6] at c
    exact tz_some (Or.inl ⟨by decide, fun m hm => hmin m (by omega)⟩)
  have c := nlt_c c
  rw [e6] at c
  have q2 : ((x2.toInt.toNat : Nat) : Int) = x2.toInt := by omega
  refine tz_bd (bitE (σ := s) (x := x4) (k := x2) hx2 (by decide) (by decide)) (fun t18 h18 => ?_)
  refine tz_if _ (fun c18 => ?_) (fun c18 => ?_)
  rotate_left
  · have hr : RR (HE p s op) x5.toInt.toNat x1.toInt x2.toInt := by
      have := (h4 x2.toInt.toNat (by omega)).mp (by
        cases w : tb x4 x2.toInt.toNat with
        | true => rfl
        | false => exact absurd (h18.2.mpr w) c18)
      rw [q2] at this
      exact this
    exact tz_some (Or.inr ⟨h5, c, hr, fun m hm => hmin m (by omega)⟩)
  have hno : ¬ RR (HE p s op) x5.toInt.toNat x1.toInt x2.toInt := by
    intro h
    rw [← q2] at h
    have := (h4 x2.toInt.toNat (by omega)).mpr h
    rw [h18.2.mp c18] at this
    cases this
  refine lpG (fun (k : Nat → Int32 → Int32 → Int32 → Int32 → Int32 → Int32 → Option Int32) (a : Int32 × Int32) => k 170 x2 op x4 x5 a.1 a.2) (fun a => 0 ≤ a.2.toInt ∧ ∀ v : Nat, v < 32 → (tb a.1 v = true ↔ QQ p s op x4 a.2.toInt.toNat v)) (fun a => (2147483647 - a.2.toInt).toNat) ?_ (x4, 0) ⟨i0z, fun v hv => ?_⟩ (tq_m0 _)
  rotate_left
  · show tb x4 v = true ↔ QQ p s op x4 0 v
    exact ⟨fun h => Or.inl h, fun h => by rcases h with h | ⟨d', h1, -⟩; exact h; omega⟩
  rintro k34 ⟨x6, x7⟩ ⟨h7, h6⟩ hk34
  have h7 : 0 ≤ x7.toInt := h7
  have h6 : ∀ v : Nat, v < 32 → (tb x6 v = true ↔ QQ p s op x4 x7.toInt.toNat v) := h6
  show tz_O _ (z_X12_doorsTo_34 s k8 k34 170 x2 op x4 x5 x6 x7)
  unfold z_X12_doorsTo_34
  refine tz_bk (tr_17 hT tc_170) ?_
  refine tz_bd (bkE hT) (fun t41 h41 => ?_)
  refine tz_bd (dNE hT h41.1) (fun t44 h44 => ?_)
  refine tz_if _ (fun c7 => ?_) (fun c7 => ?_)
  · have c7 := le_c c7
    refine tz_let (fun t120 e120 => ?_)
    have h120 := tq_inc e120 h5 (by omega)
    refine hk8 (x6, t120) ⟨by show 0 ≤ t120.toInt; omega, fun v hv => ?_, fun m hm => ?_⟩ (by show (2147483647 - t120.toInt).toNat < (2147483647 - x5.toInt).toNat; omega)
    · show tb x6 v = true ↔ RR (HE p s op) t120.toInt.toNat x1.toInt v
      rw [h6 v hv, show t120.toInt.toNat = x5.toInt.toNat + 1 by omega]
      exact QQ_RR hT (by omega) h4 v hv
    · have hm : (m : Int) < t120.toInt := hm
      by_cases q : m = x5.toInt.toNat
      · rw [q]
        exact hno
      · exact hmin m (by omega)
  · have c7 := nle_c c7
    have hd : ((x7.toInt.toNat : Nat) : Int) < dN p s := by omega
    obtain ⟨bf, bt, bl⟩ := dR_b hT (d := x7.toInt.toNat) (by omega)
    have K : ∀ y : Int32, (∀ v : Nat, v < 32 → (tb y v = true ↔ QQ p s op x4 (x7.toInt.toNat + 1) v)) → tz_O (DQ p s op x1 x2) (z_X12_doorsTo_110 s k8 k34 170 x2 op x4 x5 y x7) := by
      intro y hy
      unfold z_X12_doorsTo_110
      refine tz_let (fun t e => ?_)
      have ht := tq_inc e h7 (by omega)
      exact hk34 (y, t) ⟨by show 0 ≤ t.toInt; omega, by show ∀ v : Nat, v < 32 → (tb y v = true ↔ QQ p s op x4 t.toInt.toNat v); rw [show t.toInt.toNat = x7.toInt.toNat + 1 by omega]; exact hy⟩ (by show (2147483647 - t.toInt).toNat < (2147483647 - x7.toInt).toNat; omega)
    have hn : ¬ (tb op (dR p s 188 x7.toInt.toNat).toNat = true ∧ (tb x4 (dR p s 186 x7.toInt.toNat).toNat = true ∨ tb x4 (dR p s 187 x7.toInt.toNat).toNat = true)) → tz_O (DQ p s op x1 x2) (z_X12_doorsTo_110 s k8 k34 170 x2 op x4 x5 x6 x7) := by
      intro h
      refine K x6 (fun v hv => ?_)
      rw [h6 v hv, QQ_s hd]
      exact ⟨fun q => Or.inl q, fun q => by rcases q with q | q; exact q; exact absurd ⟨q.1, q.2.1⟩ h⟩
    refine tz_bd (bkE hT) (fun t51 h51 => ?_)
    refine tz_let (fun t54 e54 => ?_)
    have h54 := mul_c e54 i8e (by decide) (by decide) h51.2.1 (by omega)
    refine tz_let (fun t57 e57 => ?_)
    have h57 := add_c e57 (by omega) (by omega) (by omega) (by omega)
    refine tz_bk (tr_24 hT tc_170) ?_
    refine tz_bd (dRE hT tc_186 te_186 (d := x7) h7 (by omega) (by omega)) (fun t67 h67 => ?_)
    refine tz_let (fun t68 e68 => ?_)
    refine tz_bk (tr_25 hT tc_170) ?_
    refine tz_bd (dRE hT tc_187 te_187 (d := x7) h7 (by omega) (by omega)) (fun t76 h76 => ?_)
    refine tz_let (fun t77 e77 => tz_let (fun t78 e78 => ?_))
    refine tz_bk (tr_26 hT tc_170) ?_
    refine tz_bd (dRE hT tc_188 te_188 (d := x7) h7 (by omega) (by omega)) (fun t88 h88 => ?_)
    have hends := fun v hv => tb_two e68 e77 e78 h67.2 h76.2 v hv
    refine tz_bd (bitE (σ := s) (x := op) (k := t88) h88.2 (by decide) (by decide)) (fun t89 h89 => ?_)
    rw [h88.1] at h89
    refine tz_if _ (fun c89 => hn (fun q => by rw [h89.2.mp c89] at q; exact absurd q.1 (by decide))) (fun c89 => ?_)
    have hop : tb op (dR p s 188 x7.toInt.toNat).toNat = true := by
      cases w : tb op (dR p s 188 x7.toInt.toNat).toNat with
      | true => rfl
      | false => exact absurd (h89.2.mpr w) c89
    have ef : ((dR p s 186 x7.toInt.toNat).toNat : Int) = t67.toInt := by omega
    have et : ((dR p s 187 x7.toInt.toNat).toNat : Int) = t76.toInt := by omega
    refine tz_let (fun t99 e99 => ?_)
    refine tz_if _ (fun c99 => hn (fun q => ?_)) (fun c99 => ?_)
    · rw [tb_z] at c99
      rcases q.2 with w | w
      · have h := c99 (dR p s 186 x7.toInt.toNat).toNat (by omega)
        rw [e99, tb_and, w, (hends _ (by omega)).mpr (Or.inl ef)] at h
        cases h
      · have h := c99 (dR p s 187 x7.toInt.toNat).toNat (by omega)
        rw [e99, tb_and, w, (hends _ (by omega)).mpr (Or.inr et)] at h
        cases h
    · have hmeet : tb x4 (dR p s 186 x7.toInt.toNat).toNat = true ∨ tb x4 (dR p s 187 x7.toInt.toNat).toNat = true := by
        cases w1 : tb x4 (dR p s 186 x7.toInt.toNat).toNat with
        | true => exact Or.inl rfl
        | false =>
          cases w2 : tb x4 (dR p s 187 x7.toInt.toNat).toNat with
          | true => exact Or.inr rfl
          | false =>
            refine absurd (tb_z.mpr (fun i hi => ?_)) c99
            rw [e99, tb_and]
            cases w3 : tb t78 i with
            | false => rw [Bool.and_false]
            | true =>
              rcases (hends i hi).mp w3 with q | q
              · rw [show i = (dR p s 186 x7.toInt.toNat).toNat by omega, w1]
                rfl
              · rw [show i = (dR p s 187 x7.toInt.toNat).toNat by omega, w2]
                rfl
      refine tz_let (fun t107 e107 => K t107 (fun v hv => ?_))
      rw [e107, tb_or, Bool.or_eq_true, h6 v hv, hends v hv, QQ_s hd]
      constructor
      · rintro (h | h)
        · exact Or.inl h
        · exact Or.inr ⟨hop, hmeet, by omega⟩
      · rintro (h | ⟨-, -, h⟩)
        · exact Or.inl h
        · exact Or.inr (by omega)
def oS (f t a : Int) : Int := if f = a then t else if t = a then f else -1
theorem otherE {x1 x2 : Int32} (hT : tp p s) (h0 : 0 ≤ x1.toInt) (h1 : x1.toInt < 8) : tz_O (fun z : Int32 => z.toInt = oS (dR p s 186 x1.toInt.toNat) (dR p s 187 x1.toInt.toNat) x2.toInt) (z_X12_otherSide s 170 x1 x2) := by
  unfold z_X12_otherSide
  refine tz_bd (tz_ob (G := tz_Gp p) (a := 170) (ci := 12) hT tc_170) (fun _ _ => ?_)
  refine tz_bd (bkE hT) (fun t3 h3 => ?_)
  refine tz_let (fun t6 e6 => ?_)
  have h6 := mul_c e6 i8e (by decide) (by decide) h3.2.1 (by omega)
  refine tz_let (fun t8 e8 => ?_)
  have h8 := add_c e8 (by omega) (by omega) (by omega) (by omega)
  refine tz_bk (tr_24 hT tc_170) ?_
  refine tz_bd (dRE hT tc_186 te_186 (d := x1) h0 h1 (by omega)) (fun t15 h15 => ?_)
  unfold z_X12_otherSide_49
  refine tz_if _ (fun c => ?_) (fun c => ?_)
  · have c := eq_c c
    refine tz_bk (tr_25 hT tc_170) ?_
    refine tz_bd (dRE hT tc_187 te_187 (d := x1) h0 h1 (by omega)) (fun t25 h25 => tz_some ?_)
    show t25.toInt = _
    unfold oS
    rw [if_pos (by omega), h25.1]
  · have c := ne_c c
    refine tz_bk (tr_25 hT tc_170) ?_
    refine tz_bd (dRE hT tc_187 te_187 (d := x1) h0 h1 (by omega)) (fun t34 h34 => tz_if _ (fun c2 => ?_) (fun c2 => ?_))
    · have c2 := eq_c c2
      refine tz_bk (tr_24 hT tc_170) ?_
      refine tz_bd (dRE hT tc_186 te_186 (d := x1) h0 h1 (by omega)) (fun t44 h44 => tz_some ?_)
      show t44.toInt = _
      unfold oS
      rw [if_neg (by omega), if_pos (by omega), h44.1]
    · have c2 := ne_c c2
      refine tz_some ?_
      show (-1 : Int32).toInt = _
      unfold oS
      rw [if_neg (by omega), if_neg (by omega)]
      decide
/-- there is a door that leads nearer -/
theorem nearE (hT : tp p s) {a b : Int} {k : Nat} (ha : 0 ≤ a) (hn : ¬ a = b) (h : DD (HE p s op) a b k) : ∃ m D : Nat, k = m + 1 ∧ D < 8 ∧ (D : Int) < dN p s ∧ tb op (dR p s 188 D).toNat = true ∧ 0 ≤ oS (dR p s 186 D) (dR p s 187 D) a ∧ DD (HE p s op) (oS (dR p s 186 D) (dR p s 187 D) a) b m := by
  have hN := dN_b hT
  obtain ⟨m, x, e, ⟨D, h1, h2, h3⟩, h4⟩ := DD_step hn h
  obtain ⟨b1, b2, -⟩ := dR_b hT (d := D) (by omega)
  have key : oS (dR p s 186 D) (dR p s 187 D) a = x := by
    unfold oS
    rcases h3 with ⟨q1, q2⟩ | ⟨q1, q2⟩
    · rw [if_pos q1, q2]
    · by_cases w : dR p s 186 D = a
      · rw [if_pos w]
        omega
      · rw [if_neg w, if_pos q2, q1]
  refine ⟨m, D, e, by omega, h1, h2, ?_, ?_⟩
  · rw [key]
    rcases h3 with ⟨q1, q2⟩ | ⟨q1, q2⟩ <;> omega
  · rw [key]
    exact h4
theorem HE_eq (h : ∀ r i, (r = 179 ∨ r = 186 ∨ r = 187 ∨ r = 188) → rv s1 r i = rv s r i) : HE p s1 op = HE p s op := by
  unfold HE
  have e1 : dN p s1 = dN p s := h 179 _ (Or.inl rfl)
  have e2 : dR p s1 186 = dR p s 186 := funext fun d => h 186 _ (Or.inr (Or.inl rfl))
  have e3 : dR p s1 187 = dR p s 187 := funext fun d => h 187 _ (Or.inr (Or.inr (Or.inl rfl)))
  have e4 : dR p s1 188 = dR p s 188 := funext fun d => h 188 _ (Or.inr (Or.inr (Or.inr rfl)))
  rw [e1, e2, e3, e4]
theorem routeE {x1 x2 : Int32} (hT : tp p σ) : tz_O (fun z : Int32 × ez_H => tp p z.2) (z_X12_route σ 170 x1 x2) := by
  have gb := gh_b hT.1
  unfold z_X12_route
  refine tz_bd (tz_ob (G := tz_Gp p) (a := 170) (ci := 12) hT tc_170) (fun _ _ => ?_)
  refine tz_be (tw_12_57 hT tc_170 ⟨by decide, by decide⟩) (fun s1 c1 hs1 => ?_)
  have l0 : fv s1 57 = 0 := by rw [fv_pf c1, i0e]
  have K21 : tz_O (fun z : Int32 × ez_H => tp p z.2) (z_X12_route_21 s1) := by
    unfold z_X12_route_21
    exact tz_some hs1
  refine tz_bd (tz_X12_isPerson hs1 tc_170) (fun t7 h7 => tz_if _ (fun _ => K21) (fun c7 => ?_))
  have hx1 := h7.2 c7
  refine tz_bd (tz_X12_isRoom hs1 tc_170) (fun t15 h15 => tz_if _ (fun _ => K21) (fun c15 => ?_))
  have hx2 := h15.2 c15
  refine tz_bd (tz_X12_keysOf hs1 tc_170 hx1) (fun t26 _ => ?_)
  refine tz_bd (tz_X12_locksWith hs1 tc_170) (fun op _ => ?_)
  refine tz_bk (tr_53 hs1 tc_170) ?_
  refine tz_let (fun t40 e40 => ?_)
  refine tz_bd (in2E hs1 hx1 e40) (fun t41 h41 => ?_)
  refine tz_bd (doorsE (op := op) hs1 h41 hx2) (fun t49 h49 => ?_)
  refine tz_if _ (fun _ => tz_some hs1) (fun c49 => ?_)
  have c49 := ne_c c49
  have e100000 : (100000 : Int32).toInt = 100000 := by decide
  rw [e100000] at c49
  have h49 : 0 ≤ t49.toInt ∧ t49.toInt ≤ 6 ∧ DD (HE p s1 op) t41.toInt x2.toInt t49.toInt.toNat := by
    rcases h49 with h | h
    · exact absurd h.1 c49
    · exact h
  refine lpG (fun (k : ez_H → Nat → Int32 → Int32 → Int32 → Int32 → Option (Int32 × ez_H)) (a : ez_H × (Int32 × Int32)) => k a.1 170 x2 op a.2.1 a.2.2) (fun a => tp p a.1 ∧ tq_iv 0 5 a.2.1 ∧ 0 ≤ a.2.2.toInt ∧ fv a.1 57 + a.2.2.toInt ≤ 6 ∧ DD (HE p a.1 op) a.2.1.toInt x2.toInt a.2.2.toInt.toNat) (fun a => a.2.2.toInt.toNat) ?_ (s1, (t41, t49)) ⟨hs1, h41, h49.1, by show fv s1 57 + t49.toInt ≤ 6; omega, h49.2.2⟩ (by have := (tq_top t49).2; show t49.toInt.toNat < 4294967296; omega)
  rintro k64 ⟨s, x4, x5⟩ ⟨hs, h4, h5, hl, hD⟩ hk64
  have hs : tp p s := hs
  have h4 : tq_iv 0 5 x4 := h4
  have h5 : 0 ≤ x5.toInt := h5
  have hl : fv s 57 + x5.toInt ≤ 6 := hl
  have hD : DD (HE p s op) x4.toInt x2.toInt x5.toInt.toNat := hD
  have h40 := h4.1
  show tz_O _ (z_X12_route_64 k64 s 170 x2 op x4 x5)
  unfold z_X12_route_64
  refine tz_if _ (fun _ => ?_) (fun c => ?_)
  · exact tz_bd (tg_12_57 hs tc_170) (fun t171 _ => tz_some hs)
  have c := ne_c c
  obtain ⟨lz, -, hlz, hlz0, -⟩ := gf (tg_12_57 hs tc_170)
  have hN := dN_b hs
  obtain ⟨m, D, em, D8, Dn, Dop, Do, DDm⟩ := nearE hs h40 c hD
  refine lpG (fun (k : ez_H → Nat → Int32 → Int32 → Int32 → Int32 → Int32 → Option (Int32 × ez_H)) (a : Int32) => k s 170 x2 op x4 x5 a) (fun a => 0 ≤ a.toInt ∧ a.toInt ≤ D) (fun a => (2147483647 - a.toInt).toNat) ?_ 0 ⟨i0z, by rw [i0e]; omega⟩ (tq_m0 _)
  rintro k73 x6 ⟨d0, d1⟩ hk73
  show tz_O _ (z_X12_route_73 k64 k73 s 170 x2 op x4 x5 x6)
  unfold z_X12_route_73
  have K127 : ¬ x6.toInt = (D : Int) → tz_O (fun z : Int32 × ez_H => tp p z.2) (z_X12_route_127 k64 k73 s 170 x2 op x4 x5 x6) := by
    intro q
    unfold z_X12_route_127
    refine tz_let (fun t e => ?_)
    have ht := tq_inc e d0 (by omega)
    exact hk73 t ⟨by omega, by omega⟩ (by omega)
  have hxD : x6.toInt = (D : Int) → x6.toInt.toNat = D := fun q => by omega
  refine tz_bk (tr_26 hs tc_170) ?_
  refine tz_bd (bkE hs) (fun t81 h81 => ?_)
  refine tz_let (fun t84 e84 => ?_)
  have h84 := mul_c e84 i8e (by decide) (by decide) h81.2.1 (by omega)
  refine tz_let (fun t87 e87 => ?_)
  have h87 := add_c e87 (by omega) (by omega) (by omega) (by omega)
  refine tz_bd (dRE hs tc_188 te_188 (d := x6) d0 (by omega) (by omega)) (fun t88 h88 => ?_)
  refine tz_bd (bitE (σ := s) (x := op) (k := t88) h88.2 (by decide) (by decide)) (fun t89 h89 => ?_)
  rw [h88.1] at h89
  refine tz_if _ (fun c89 => K127 (fun q => ?_)) (fun c89 => ?_)
  · have := h89.2.mp c89
    rw [hxD q, Dop] at this
    cases this
  refine tz_bd (otherE (x2 := x4) hs d0 (by omega)) (fun t100 h100 => ?_)
  refine tz_if _ (fun c100 => K127 (fun q => ?_)) (fun c100 => ?_)
  · have c100 := lt_c c100
    rw [h100, hxD q, i0e] at c100
    omega
  have c100 := nlt_c c100
  rw [i0e] at c100
  refine tz_bd (otherE (x2 := x4) hs d0 (by omega)) (fun t112 h112 => ?_)
  obtain ⟨z112, -, i112⟩ := tz_X12_otherSide hs tc_170 (x1 := x6) (x2 := x4) ⟨d0, by omega⟩
  obtain ⟨bf, bt, -⟩ := dR_b hs (d := x6.toInt.toNat) (by omega)
  have b112 : tq_iv 0 5 t112 := by
    have : t112.toInt ≤ 5 := by
      rw [h112]
      unfold oS
      split
      · omega
      · split <;> omega
    exact ⟨by omega, this⟩
  refine tz_bd (doorsE (op := op) hs b112 hx2) (fun t117 h117 => ?_)
  refine tz_let (fun t123 e123 => ?_)
  have h123 := sub_c e123 (by omega) (by omega) (by decide) (by decide)
  rw [i1e] at h123
  refine tz_if _ (fun c117 => ?_) (fun c117 => K127 (fun q => ?_))
  rotate_left
  · have c117 := ne_c c117
    have e1 : t112.toInt = oS (dR p s 186 D) (dR p s 187 D) x4.toInt := by rw [h112, hxD q]
    rcases h117 with h | h
    · rw [e1] at h
      exact h.2 m (by omega) DDm.1
    · rw [e1] at h
      have := DD_one h.2.2 DDm
      omega
  have c117 := eq_c c117
  have hD2 : DD (HE p s op) t112.toInt x2.toInt m := by
    rcases h117 with h | h
    · omega
    · have := h.2.2
      rw [show t117.toInt.toNat = m by omega] at this
      exact this
  refine tz_bk (tr_56 hs tc_170) ?_
  refine tz_bd (gf (tg_12_57 hs tc_170)) (fun t138 h138 => ?_)
  refine tz_be (wrE hs tc_208 (i := t138) (by omega) (by omega) (te_0 _) (tq_top x6)) (fun s2 c2 hs2 => ?_)
  refine tz_bd (gf (tg_12_57 hs2 tc_170)) (fun t146 h146 => ?_)
  have q57 : fv s2 57 = fv s 57 := fv_is c2
  refine tz_let (fun t150 e150 => ?_)
  have h150 := tq_inc e150 (by omega) (by omega)
  refine tz_be (tw_12_57 hs2 tc_170 (x := t150) ⟨by omega, by omega⟩) (fun s3 c3 hs3 => ?_)
  have hrv : ∀ r i, (r = 179 ∨ r = 186 ∨ r = 187 ∨ r = 188) → rv s3 r i = rv s r i := by
    intro r i hr
    rw [rv_pf c3, rv_is_ne c2 (by omega)]
  refine tz_let (fun t154 e154 => ?_)
  have h154 := add_c e154 (by omega) (by omega) (by decide) (by decide)
  have em1 : (-1 : Int32).toInt = -1 := by decide
  rw [em1] at h154
  refine tz_bd (otherE (x2 := x4) hs3 d0 (by omega)) (fun t162 h162 => ?_)
  have e162 : t162.toInt = t112.toInt := by
    rw [h162, h112]
    unfold dR
    rw [hrv 186 _ (by omega), hrv 187 _ (by omega)]
  refine hk64 (s3, (t162, t154)) ⟨hs3, ?_, ?_, ?_, ?_⟩ ?_
  · exact ⟨by have := b112.1; show 0 ≤ t162.toInt; omega, by have := b112.2; show t162.toInt ≤ 5; omega⟩
  · show 0 ≤ t154.toInt
    omega
  · show fv s3 57 + t154.toInt ≤ 6
    rw [fv_pf c3]
    omega
  · show DD (HE p s3 op) t162.toInt x2.toInt t154.toInt.toNat
    rw [HE_eq hrv, e162, show t154.toInt.toNat = m by omega]
    exact hD2
  · show t154.toInt.toNat < x5.toInt.toNat
    omega
end HB
