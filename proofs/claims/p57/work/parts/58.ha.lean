/-! Walking, and all who hand on what they have. -/
section HA
variable {p : tz_P} {σ s s1 s2 : ez_H} {r : Nat} {i x : Int32}
theorem or_ge {x y z : Int32} (e : z = x ||| y) (hx : tq_iv 0 255 x) (hy : tq_iv 0 255 y) : tq_iv 0 255 z ∧ x.toInt ≤ z.toInt ∧ y.toInt ≤ z.toInt := by
  have hb := tq_or e hx hy 8 (by decide) (by decide) (by decide) (by decide) (by decide) (hi := 255)
  refine ⟨hb, ?_⟩
  obtain ⟨j, rfl, j1, j2, -⟩ := tq_of hx (by decide)
  obtain ⟨k, rfl, k1, k2, -⟩ := tq_of hy (by decide)
  rw [tq_orN] at e
  have h1 : j ≤ j ||| k := Nat.left_le_or
  have h2 : k ≤ j ||| k := Nat.right_le_or
  have h3 : j ||| k < 2 ^ 8 := Nat.or_lt_two_pow (by omega) (by omega)
  have h4 : (2 : Nat) ^ 8 = 256 := rfl
  rw [e, nI_toInt (by omega), nI_toInt (by omega), nI_toInt (by omega)]
  omega
theorem keysByE (hT : tp p s) : tz_O (tq_iv 0 255) (z_X12_keysBy s 170 x) := by
  unfold z_X12_keysBy
  refine tz_bd (tz_ob (G := tz_Gp p) (a := 170) (ci := 12) hT tc_170) (fun _ _ => ?_)
  refine lpG (fun (k : Nat → Int32 → Int32 → Int32 → Option Int32) (a : Int32 × Int32) => k 170 x a.1 a.2) (fun a => tq_iv 0 255 a.1 ∧ 0 ≤ a.2.toInt) (fun a => (2147483647 - a.2.toInt).toNat) ?_ (0, 0) ⟨⟨by decide, by decide⟩, i0z⟩ (tq_m0 _)
  rintro k ⟨x2, x3⟩ ⟨h2, h3⟩ hk
  have h2 : tq_iv 0 255 x2 := h2
  have h3 : 0 ≤ x3.toInt := h3
  show tz_O _ (z_X12_keysBy_4 s k 170 x x2 x3)
  unfold z_X12_keysBy_4
  refine tz_bd (tz_X12_many hT tc_170) (fun t6 h6 => ?_)
  refine tz_if _ (fun _ => tz_some h2) (fun c => ?_)
  have c := nle_c c
  have c6 := h6.2
  have K : ∀ y : Int32, tq_iv 0 255 y → tz_O (tq_iv 0 255) (z_X12_keysBy_27 s k 170 x y x3) := by
    intro y hy
    unfold z_X12_keysBy_27
    refine tz_let (fun t e => ?_)
    have ht := tq_inc e h3 (by omega)
    exact hk (y, t) ⟨hy, by show 0 ≤ t.toInt; omega⟩ (by show (2147483647 - t.toInt).toNat < (2147483647 - x3.toInt).toNat; omega)
  refine tz_bd (tz_X12_holderOf hT tc_170 (x1 := x3) ⟨h3, by omega⟩) (fun t14 _ => ?_)
  refine tz_if _ (fun _ => ?_) (fun _ => K x2 h2)
  refine tz_let (fun t24 e24 => tz_let (fun t25 e25 => ?_))
  have h24 : tq_iv 1 128 t24 := tq_shl1 e24 (a := 0) (b := 7) ⟨h3, by omega⟩ (by decide) (by decide) (by decide) (by decide)
  exact K t25 (or_ge e25 h2 (tq_w h24 (by decide) (by decide))).1
theorem keysOfE (hT : tp p s) : tz_O (tq_iv 0 255) (z_X12_keysOf s 170 x) := by
  unfold z_X12_keysOf
  refine tz_bd (tz_ob (G := tz_Gp p) (a := 170) (ci := 12) hT tc_170) (fun _ _ => ?_)
  exact tz_bd (keysByE hT) (fun t h => tz_some h)
theorem st_0 (p : tz_P) : st p p := ⟨rfl, rfl, id⟩
theorem kp_40 (p : tz_P) : (kp p).1 4 + (kp p).1 5 ≤ 40 := by
  show (40 : Int) + 0 ≤ 40
  decide
theorem inE (hT : tp p s) (hx : tq_iv 0 3 x) : tz_O (fun _ => True) (ez_let ((86 : Int32) + x) fun t => ez_ia s 1 205 t) := by
  refine tz_let (fun t e => ?_)
  have ht : tq_iv 86 89 t := tq_w (tq_add e tk_86 hx (by decide) (by decide)) (by decide) (by decide)
  exact tz_imp (tz_iaS (G := tz_Gp p) (r := 205) hT tc_205 (ts_205 (p := p) 86 89 0 5 (by decide)) ht (by decide) (by decide)) (fun _ _ => trivial)
/-- where somebody stands -/
theorem in2E {x t : Int32} (hT : tp p s) (hx : tq_iv 0 3 x) (e : t = (86 : Int32) + x) : tz_O (tq_iv 0 5) (ez_ia s 1 205 t) := by
  have ht : tq_iv 86 89 t := tq_w (tq_add e tk_86 hx (by decide) (by decide)) (by decide) (by decide)
  exact tz_iaS (G := tz_Gp p) (r := 205) hT tc_205 (ts_205 (p := p) 86 89 0 5 (by decide)) ht (by decide) (by decide)
theorem walkE {x1 x2 : Int32} (hT : tp p σ) : tz_O (PQ p) (z_X12_walk σ 170 x1 x2) := by
  unfold z_X12_walk
  refine tz_bd (tz_ob (G := tz_Gp p) (a := 170) (ci := 12) hT tc_170) (fun _ _ => ?_)
  have K16 : tz_O (PQ p) (z_X12_walk_16 σ) := by
    unfold z_X12_walk_16
    exact tz_some ⟨p, st_0 p, hT⟩
  have K101 : tz_O (PQ p) (z_X12_walk_101 σ) := by
    unfold z_X12_walk_101
    exact tz_some ⟨p, st_0 p, hT⟩
  refine tz_bd (tz_X12_isPerson hT tc_170) (fun t2 h2 => tz_if _ (fun _ => K16) (fun c2 => ?_))
  have hx1 := h2.2 c2
  refine tz_bd (tz_X12_isDoor hT tc_170) (fun t10 h10 => tz_if _ (fun _ => K16) (fun c10 => ?_))
  have hx2 := h10.2 c10
  refine tz_bk (tr_53 hT tc_170) ?_
  refine tz_let (fun t27 e27 => ?_)
  refine tz_bd (in2E hT hx1 e27) (fun t28 h28 => ?_)
  refine tz_bd (tz_X12_otherSide hT tc_170 (x2 := t28) hx2) (fun t29 h29 => ?_)
  refine tz_bk (tr_26 hT tc_170) ?_
  refine tz_bd (tg_12_43 hT tc_170) (fun t40 h40 => ?_)
  refine tz_let (fun t43 e43 => ?_)
  have h43 : tq_iv 0 8 t43 := tq_mul e43 tk_8 h40 (by decide) (by decide) (by decide)
  refine tz_let (fun t45 e45 => ?_)
  have h45 : tq_iv 0 15 t45 := tq_w (tq_add e45 h43 hx2 (by decide) (by decide)) (by decide) (by decide)
  refine tz_bd (tz_ia (G := tz_Gp p) (r := 188) hT tc_188 (te_188 (p := p)) h45 (by decide) (by decide)) (fun t46 h46 => ?_)
  have h46 : tq_iv 0 5 t46 := h46
  obtain ⟨m, em, hm⟩ := tz_X12_many hT tc_170
  have hm1 := hm.1
  have hm2 := hm.2
  have K88 : ∀ x5 : Int32, 0 ≤ x5.toInt → x5.toInt ≤ m.toInt → tz_O (PQ p) (z_X12_walk_88 σ 170 x1 t29 x5) := by
    intro x5 a b
    unfold z_X12_walk_88
    refine tz_if _ (fun _ => K101) (fun c0 => ?_)
    have c0 := nlt_c c0
    rw [i0e] at c0
    refine tz_bk em ?_
    refine tz_if _ (fun _ => K101) (fun c => ?_)
    have c := ne_c c
    refine tz_b2 (tz_X12_keepAct hT tc_170) (fun _ s2 hs2 => ?_)
    refine tz_b2 (tz_X12_use hs2 tc_170 (x1 := x5) ⟨a, by omega⟩) (fun _ s3 hs3 => ?_)
    refine tz_bk (tr_53 hs3 tc_170) ?_
    refine tz_let (fun t120 e120 => ?_)
    have ht : tq_iv 86 89 t120 := tq_w (tq_add e120 tk_86 hx1 (by decide) (by decide)) (by decide) (by decide)
    refine tz_bd (tz_isS (G := tz_Gp (kp p)) (r := 205) hs3 tc_205 (tS_205 (p := kp p) 86 89 0 5 (by decide)) ht (by decide) (by decide) (x := t29) ⟨c0, h29.2⟩) (fun s4 hs4 => ?_)
    exact tz_some ⟨kp p, ⟨rfl, rfl, fun _ => kp_40 p⟩, hs4⟩
  refine lpG (fun (k : ez_H → Nat → Int32 → Int32 → Int32 → Int32 → Option (Int32 × ez_H)) (a : Int32) => k σ 170 x1 t29 t46 a) (fun a => 0 ≤ a.toInt ∧ a.toInt ≤ m.toInt) (fun a => (2147483647 - a.toInt).toNat) ?_ 0 ⟨i0z, by rw [i0e]; exact hm1⟩ (tq_m0 _)
  rintro k a ⟨a0, a1⟩ hk
  show tz_O _ (z_X12_walk_52 k σ 170 x1 t29 t46 a)
  unfold z_X12_walk_52
  refine tz_bk em ?_
  refine tz_if _ (fun _ => K88 a a0 a1) (fun c => ?_)
  have c := nle_c c
  have K82 : tz_O (PQ p) (z_X12_walk_82 k σ 170 x1 t29 t46 a) := by
    unfold z_X12_walk_82
    refine tz_let (fun t e => ?_)
    have ht := tq_inc e a0 (by omega)
    exact hk t ⟨by omega, by omega⟩ (by omega)
  refine tz_bd (tz_X12_holderOf hT tc_170 (x1 := a) ⟨a0, by omega⟩) (fun t64 _ => tz_if _ (fun _ => ?_) (fun _ => K82))
  refine tz_bd (tz_X12_opensBy hT tc_170 (x1 := a) (x2 := t46) ⟨a0, by omega⟩ h46) (fun t76 _ => tz_if _ (fun _ => K82) (fun _ => K88 a a0 a1))
def S4 (s : ez_H) : Int := rv s 209 0 + rv s 209 1 + rv s 209 2 + rv s 209 3
theorem rv209 (hT : tp p s) (j : Nat) (hj : j < 4) : 0 ≤ rv s 209 j ∧ rv s 209 j ≤ 255 := by
  obtain ⟨l, h2, h3, h4⟩ := tz_row (G := tz_Gp p) (r := 209) hT tc_209
  have h := h4 j hj
  have e : (tz_Gp p).2.2.1 209 j = (0, 255) := te_209 (p := p) j
  rw [e] at h
  have e2 : rv s 209 j = (ez_get 0 l j).toInt := by
    unfold rv
    rw [h2]
    rfl
  rw [e2]
  exact h
theorem S4_b (hT : tp p s) : 0 ≤ S4 s ∧ S4 s ≤ 1020 := by
  have := rv209 hT 0 (by decide)
  have := rv209 hT 1 (by decide)
  have := rv209 hT 2 (by decide)
  have := rv209 hT 3 (by decide)
  unfold S4
  omega
theorem S4_up {f : Nat → Int} {a b : Nat} {u : Int} (ha : a < 4) (hb : b < 4) (hn : ¬ f a = f b) (h1 : f a ≤ u) (h2 : f b ≤ u) : f 0 + f 1 + f 2 + f 3 < upf (upf f a u) b u 0 + upf (upf f a u) b u 1 + upf (upf f a u) b u 2 + upf (upf f a u) b u 3 := by
  have ha : a = 0 ∨ a = 1 ∨ a = 2 ∨ a = 3 := by omega
  have hb : b = 0 ∨ b = 1 ∨ b = 2 ∨ b = 3 := by omega
  rcases ha with rfl | rfl | rfl | rfl <;> rcases hb with rfl | rfl | rfl | rfl <;> simp [upf] <;> first | exact absurd rfl hn | omega
theorem togetherE {x1 : Int32} (hT : tp p σ) : tz_O (fun z : Int32 × ez_H => tp p z.2) (z_X12_together σ 170 x1) := by
  have e4 : (4 : Int32).toInt = 4 := by decide
  have e16 : (16 : Int32).toInt = 16 := by decide
  unfold z_X12_together
  refine tz_bd (tz_ob (G := tz_Gp p) (a := 170) (ci := 12) hT tc_170) (fun _ _ => ?_)
  refine tz_bd (tz_X12_isPerson hT tc_170) (fun t2 h2 => tz_if _ (fun _ => tz_some hT) (fun c2 => ?_))
  have hx1 := h2.2 c2
  refine lpG (fun (k : ez_H → Nat → Int32 → Int32 → Option (Int32 × ez_H)) (a : ez_H × Int32) => k a.1 170 x1 a.2) (fun a => tp p a.1 ∧ 0 ≤ a.2.toInt) (fun a => (2147483647 - a.2.toInt).toNat) ?_ (σ, 0) ⟨hT, i0z⟩ (tq_m0 _)
  rintro k ⟨s, x2⟩ ⟨hs, hx⟩ hk
  have hs : tp p s := hs
  have hx : 0 ≤ x2.toInt := hx
  show tz_O _ (z_X12_together_12 k s 170 x1 x2)
  unfold z_X12_together_12
  refine tz_bk (tr_18 hs tc_170) ?_
  refine tz_bd (tg_12_43 hs tc_170) (fun t18 h18 => ?_)
  refine tz_bd (tz_ia (G := tz_Gp p) (r := 180) hs tc_180 (te_180 (p := p)) h18 (by decide) (by decide)) (fun t21 h21 => ?_)
  have h21 : tq_iv 0 4 t21 := h21
  refine tz_if _ (fun _ => ?_) (fun c => ?_)
  · refine lpG (fun (k : ez_H → Nat → Int32 → Int32 → Option (Int32 × ez_H)) (a : ez_H × Int32) => k a.1 170 x1 a.2) (fun a => tp p a.1) (fun a => 2 * (1020 - S4 a.1).toNat + (if a.2 = 0 then 0 else 1)) ?_ (s, 1) hs (by
      have := S4_b hs
      show 2 * (1020 - S4 s).toNat + (if (1 : Int32) = 0 then 0 else 1) < 4294967296
      rw [if_neg i1n]
      omega)
    rintro k44 ⟨s, x2⟩ hs hk44
    have hs : tp p s := hs
    have hb := S4_b hs
    show tz_O _ (z_X12_together_44 k44 s 170 x1 x2)
    unfold z_X12_together_44
    refine tz_if _ (fun _ => ?_) (fun c2 => ?_)
    · refine tz_bk (tr_53 hs tc_170) ?_
      refine tz_let (fun t205 e205 => ?_)
      refine tz_bd (in2E hs hx1 e205) (fun t206 h206 => ?_)
      refine tz_bk (tr_58 hs tc_170) ?_
      refine tz_bd (tz_ia (G := tz_Gp p) (r := 209) hs tc_209 (te_209 (p := p)) hx1 (by decide) (by decide)) (fun t212 _ => ?_)
      exact tz_bd (tz_X12_reachBy hs tc_170 (x2 := t212) h206) (fun t213 _ => tz_some hs)
    have hk44 : ∀ s' x', tp p s' → 2 * (1020 - S4 s').toNat + (if x' = (0 : Int32) then 0 else 1) < 2 * (1020 - S4 s).toNat + 1 → tz_O (fun z : Int32 × ez_H => tp p z.2) (k44 s' 170 x1 x') := by
      intro s' x' hs' hlt
      refine hk44 (s', x') hs' ?_
      show 2 * (1020 - S4 s').toNat + (if x' = (0 : Int32) then 0 else 1) < 2 * (1020 - S4 s).toNat + (if x2 = (0 : Int32) then 0 else 1)
      rw [if_neg c2]
      exact hlt
    refine lpG (fun (k : ez_H → Nat → Int32 → Int32 → Int32 → Option (Int32 × ez_H)) (a : ez_H × (Int32 × Int32)) => k a.1 170 x1 a.2.1 a.2.2) (fun a => tp p a.1 ∧ S4 s ≤ S4 a.1 ∧ (a.2.1 = 0 ∨ S4 s < S4 a.1) ∧ 0 ≤ a.2.2.toInt) (fun a => (2147483647 - a.2.2.toInt).toNat) ?_ (s, (0, 0)) ⟨hs, Int.le_refl _, Or.inl rfl, i0z⟩ (tq_m0 _)
    rintro k52 ⟨s', x2, x3⟩ ⟨hs', hle, hor, hx3⟩ hk52
    have hs' : tp p s' := hs'
    have hle : S4 s ≤ S4 s' := hle
    have hor : x2 = 0 ∨ S4 s < S4 s' := hor
    have hx3 : 0 ≤ x3.toInt := hx3
    have hb' := S4_b hs'
    show tz_O _ (z_X12_together_52 k44 k52 s' 170 x1 x2 x3)
    unfold z_X12_together_52
    refine tz_if _ (fun _ => ?_) (fun c3 => ?_)
    · refine hk44 s' x2 hs' ?_
      rcases hor with h | h
      · rw [if_pos h]
        omega
      · split <;> omega
    have c3 := nle_c c3
    rw [e16] at c3
    have i3 : tq_iv 0 15 x3 := ⟨hx3, by omega⟩
    refine tz_nz (by decide) ?_
    refine tz_let (fun t60 e60 => ?_)
    refine tz_nz (by decide) ?_
    refine tz_let (fun t65 e65 => ?_)
    have K188 : ∀ s2 x', tp p s2 → S4 s ≤ S4 s2 → (x' = 0 ∨ S4 s < S4 s2) → tz_O (fun z : Int32 × ez_H => tp p z.2) (z_X12_together_188 k44 k52 s2 170 x1 x' x3) := by
      intro s2 x' h1 h2 h3
      unfold z_X12_together_188
      refine tz_let (fun t e => ?_)
      have ht := tq_inc e hx3 (by omega)
      exact hk52 (s2, (x', t)) ⟨h1, h2, h3, by show 0 ≤ t.toInt; omega⟩ (by show (2147483647 - t.toInt).toNat < (2147483647 - x3.toInt).toNat; omega)
    have K0 := K188 s' x2 hs' hle hor
    refine tz_bd (tz_X12_isPerson hs' tc_170) (fun t71 h71 => tz_if _ (fun _ => K0) (fun c71 => ?_))
    have h60 := h71.2 c71
    refine tz_bd (tz_X12_isPerson hs' tc_170) (fun t80 h80 => tz_if _ (fun _ => K0) (fun c80 => ?_))
    have h65 := h80.2 c80
    have b60 := h60.1
    have b60' := h60.2
    have b65 := h65.1
    have b65' := h65.2
    refine tz_bk (tr_58 hs' tc_170) ?_
    refine tz_be (ia_el hs' tc_209 (i := t60) (by omega) (by omega) (te_209 _)) (fun t92 e92 h92 => ?_)
    refine tz_bk (tr_58 hs' tc_170) ?_
    refine tz_be (ia_el hs' tc_209 (i := t65) (by omega) (by omega) (te_209 _)) (fun t99 e99 h99 => ?_)
    refine tz_if _ (fun _ => K0) (fun cne => ?_)
    have cne := ne_c cne
    have v92 := rv_ia e92
    have v99 := rv_ia e99
    refine tz_bk (tr_53 hs' tc_170) ?_
    refine tz_let (fun t115 e115 => ?_)
    refine tz_bd (in2E hs' h60 e115) (fun t116 h116 => ?_)
    refine tz_bk (tr_58 hs' tc_170) ?_
    refine tz_bk e92 ?_
    refine tz_bd (tz_X12_reachBy hs' tc_170 (x2 := t92) h116) (fun t124 _ => ?_)
    refine tz_bk (tr_53 hs' tc_170) ?_
    refine tz_let (fun t136 e136 => ?_)
    refine tz_bd (in2E hs' h65 e136) (fun t137 h137 => ?_)
    refine tz_bk (tr_58 hs' tc_170) ?_
    refine tz_bk e99 ?_
    refine tz_bd (tz_X12_reachBy hs' tc_170 (x2 := t99) h137) (fun t145 _ => ?_)
    refine tz_let (fun t148 _ => tz_if _ (fun _ => K0) (fun _ => ?_))
    refine tz_bk (tr_58 hs' tc_170) ?_
    refine tz_bk e92 ?_
    refine tz_bk (tr_58 hs' tc_170) ?_
    refine tz_bk e99 ?_
    refine tz_let (fun t170 e170 => ?_)
    obtain ⟨b170, g1, g2⟩ := or_ge e170 h92 h99
    refine tz_be (wrE hs' tc_209 (i := t60) (by omega) (by omega) (te_209 _) b170) (fun s2 c2 hs2 => ?_)
    refine tz_bk (tr_58 hs2 tc_170) ?_
    refine tz_bk (tr_58 hs2 tc_170) ?_
    refine tz_be (ia_el hs2 tc_209 (i := t60) (by omega) (by omega) (te_209 _)) (fun t184 e184 h184 => ?_)
    have v184 : t184.toInt = t170.toInt := by
      rw [rv_ia e184, rv_is c2, if_pos rfl]
    refine tz_be (wrE hs2 tc_209 (i := t65) (by omega) (by omega) (te_209 _) h184) (fun s3 c3' hs3 => ?_)
    have key : S4 s' < S4 s3 := by
      have q : ∀ j, rv s3 209 j = upf (upf (rv s' 209) t60.toInt.toNat t170.toInt) t65.toInt.toNat t170.toInt j := by
        intro j
        rw [rv_isU c3', v184]
        unfold upf
        rw [rv_isU c2]
        rfl
      unfold S4
      rw [q 0, q 1, q 2, q 3]
      have w92 : t92.toInt = rv s' 209 t60.toInt.toNat := v92
      have w99 : t99.toInt = rv s' 209 t65.toInt.toNat := v99
      exact S4_up (by omega) (by omega) (by omega) (by omega) (by omega)
    exact K188 s3 1 hs3 (by omega) (Or.inr (by omega))
  · have c := nle_c c
    have c21 := h21.2
    refine tz_bk (tr_58 hs tc_170) ?_
    refine tz_bd (keysOfE hs) (fun t32 h32 => ?_)
    refine tz_bd (wrE hs tc_209 (i := x2) (by omega) (by omega) (te_209 _) h32) (fun s2 hs2 => ?_)
    refine tz_let (fun t36 e36 => ?_)
    have ht := tq_inc e36 hx (by omega)
    exact hk (s2, t36) ⟨hs2, by show 0 ≤ t36.toInt; omega⟩ (by show (2147483647 - t36.toInt).toNat < (2147483647 - x2.toInt).toNat; omega)
end HA
