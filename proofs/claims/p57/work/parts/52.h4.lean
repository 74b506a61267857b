/-! The reader of a text: keys, locks, rooms, doors, people, rights. -/
theorem wrE {p : tz_P} {σ : ez_H} {r n e : Nat} {i x : Int32} {lo hi : Int} (hT : tp p σ) (hK : tz_C r = some (0, 1, n, e)) (h0 : 0 ≤ i.toInt) (h1 : i.toInt < (n : Int)) (he : tz_el p e i.toInt.toNat = (lo, hi)) (hx : tq_iv lo hi x) : tz_O (tp p) (ez_is σ 1 r i x) := by
  refine tz_isG (G := tz_Gp p) (r := r) hT hK h0 h1 ?_
  have e2 : (tz_Gp p).2.2.1 e i.toInt.toNat = (lo, hi) := he
  rw [e2]
  exact hx
def twr (r : Nat) : Bool := Nat.beq r 173 || (Nat.beq r 174 || (Nat.beq r 183 || (Nat.beq r 193 || (Nat.beq r 194 || Nat.ble 200 r))))
def tw (σ s : ez_H) : Prop := (∀ k, 43 ≤ k → k ≤ 48 → fv s k = fv σ k) ∧ ∀ r i, twr r = true → rv s r i = rv σ r i
/-- what a line's reader leaves -/
def PW (p : tz_P) (σ s : ez_H) : Prop := tp p s ∧ tm σ s ∧ tw σ s
/-- a number of the bank that is read into -/
def cr (p : tz_P) (σ : ez_H) (r : Nat) : Int := rv σ r (p.1 3).toNat
section H4
variable {p : tz_P} {σ s s1 : ez_H} {r : Nat} {i x : Int32} {y : Int64}
theorem twr_tnr (h : twr r = true) : tnr r = true := by
  unfold twr at h
  unfold tnr
  simp only [Bool.or_eq_true] at h ⊢
  rcases h with h | h | h | h | h | h <;> simp [h]
theorem tw_tn (h : tn σ s) : tw σ s := ⟨h.1, fun r i q => h.2 r i (twr_tnr q)⟩
theorem tw_tr (h : tw σ s) (h2 : tw s s1) : tw σ s1 := ⟨fun k a b => (h2.1 k a b).trans (h.1 k a b), fun r i q => (h2.2 r i q).trans (h.2 r i q)⟩
theorem PW_PR (h : PR p σ s) : PW p σ s := ⟨h.1, h.2.1, tw_tn h.2.2⟩
theorem PW_tr (h : PW p σ s) (h2 : PW p s s1) : PW p σ s1 := ⟨h2.1, tm_tr h.2.1 h2.2.1, tw_tr h.2.2 h2.2.2⟩
theorem PW_R (h : PW p σ s) (h2 : PR p s s1) : PW p σ s1 := PW_tr h (PW_PR h2)
theorem PW_0 (hT : tp p σ) : PW p σ σ := PW_PR (PR_0 hT)
theorem PW_pm (h : PW p σ s) (hm : pm σ) : pm s := (h.2.1 hm).1
theorem PW_is {t : Nat} (h : PW p σ s) (c : ez_is s t r i x = some s1) (hT : tp p s1) (hr : twr r = false) : PW p σ s1 := PW_tr h ⟨hT, tm_is tm_0 c, ⟨fun _ _ _ => fv_is c, fun r2 i q => rv_is_ne c (fun e => by rw [e, hr] at q; cases q) i⟩⟩
theorem PW_lst (h : PW p σ s) (c : ez_lst s r i y = some s1) (hT : tp p s1) : PW p σ s1 := PW_tr h ⟨hT, tm_lst tm_0 c, ⟨fun _ _ _ => fv_lst c, fun r2 i _ => rv_lst c i⟩⟩
theorem cr_PR (h : PR p σ s) (hr : tnr r = true) : cr p s r = cr p σ r := h.2.2.2 r _ hr
theorem cr_is {t r2 : Nat} (c : ez_is s t r2 i x = some s1) (h : ¬ r = r2) : cr p s1 r = cr p s r := rv_is_ne c h _
theorem cr_lst {r2 : Nat} (c : ez_lst s r2 i y = some s1) : cr p s1 r = cr p s r := rv_lst c _
theorem rbE (hT : tp p σ) : tz_O (fun z : Int32 => z.toInt = p.1 3 ∧ 0 ≤ z.toInt ∧ z.toInt ≤ 1) (ez_gi σ 12 170 44) := by
  have g := gh_r hT.1
  refine tz_imp (tz_gi (G := tz_Gp p) (a := 170) (ci := 12) (k := 44) hT tc_170 (tf_12_44 (p := p))) (fun z hz => ?_)
  have h1 := hz.1
  have h2 := hz.2
  exact ⟨by omega, by omega, by omega⟩
theorem rv_cr (h : i.toInt = p.1 3) : rv σ r i.toNatClampNeg = cr p σ r := by
  unfold cr
  rw [show i.toNatClampNeg = i.toInt.toNat from rfl, h]
/-- how many there are -/
theorem rdC {lo hi : Int} (hT : tp p σ) (hK : tz_C r = some (0, 1, 2, r)) (hE : ∀ j, tz_el p r j = (lo, hi)) (h : i.toInt = p.1 3) : tz_O (fun z : Int32 => z.toInt = cr p σ r ∧ lo ≤ z.toInt ∧ z.toInt ≤ hi) (ez_ia σ 1 r i) := by
  have g := gh_r hT.1
  refine tz_imp (ga (ia_el hT hK (i := i) (by omega) (by omega) (hE _))) (fun z hz => ?_)
  exact ⟨hz.1.trans (rv_cr h), hz.2⟩
theorem wrC {lo hi : Int} (hT : tp p σ) (hK : tz_C r = some (0, 1, 2, r)) (hE : ∀ j, tz_el p r j = (lo, hi)) (h : i.toInt = p.1 3) (hx : tq_iv lo hi x) : tz_O (tp p) (ez_is σ 1 r i x) := by
  have g := gh_r hT.1
  exact wrE hT hK (by omega) (by omega) (hE _) hx
theorem rd173 (hT : tp p σ) (h : i.toInt = p.1 3) : tz_O (fun z : Int32 => z.toInt = cr p σ 173 ∧ 0 ≤ z.toInt ∧ z.toInt ≤ 5) (ez_ia σ 1 173 i) := by
  have g := gh_r hT.1
  have h2 := tz_iaS (G := tz_Gp p) (r := 173) hT tc_173 (ts_173 (p := p) 0 1 0 5 (by decide)) (i := i) ⟨by omega, by omega⟩ (by decide) (by decide)
  refine tz_imp (ga h2) (fun z hz => ⟨hz.1.trans (rv_cr h), hz.2⟩)
theorem rd174 (hT : tp p σ) (h : i.toInt = p.1 3) : tz_O (fun z : Int32 => z.toInt = cr p σ 174 ∧ 0 ≤ z.toInt ∧ z.toInt ≤ 6) (ez_ia σ 1 174 i) := by
  have g := gh_r hT.1
  have h2 := tz_iaS (G := tz_Gp p) (r := 174) hT tc_174 (ts_174 (p := p) 0 1 0 6 (by decide)) (i := i) ⟨by omega, by omega⟩ (by decide) (by decide)
  refine tz_imp (ga h2) (fun z hz => ⟨hz.1.trans (rv_cr h), hz.2⟩)
theorem mul_c {c t z : Int32} {m : Int} (e : z = c * t) (hc : c.toInt = m) (h0 : 0 ≤ m) (hm : m ≤ 1000) (h : 0 ≤ t.toInt) (h1 : t.toInt ≤ 1000) : z.toInt = m * t.toInt := by
  have h2 : 0 ≤ m * t.toInt := Int.mul_nonneg h0 h
  have h3 : m * t.toInt ≤ 1000 * 1000 := Int.le_trans (Int.mul_le_mul_of_nonneg_right hm h) (Int.mul_le_mul_of_nonneg_left h1 (by decide))
  rw [e, Int32.toInt_mul, hc]
  exact tq_bm (by omega) (by omega)
theorem add_c {a b z : Int32} (e : z = a + b) (h : -2000000 ≤ a.toInt) (h1 : a.toInt ≤ 2000000) (h2 : -2000000 ≤ b.toInt) (h3 : b.toInt ≤ 2000000) : z.toInt = a.toInt + b.toInt := by
  rw [e]
  exact tq_addT (a := -2000000) (b := 2000000) (c := -2000000) (d := 2000000) ⟨h, h1⟩ ⟨h2, h3⟩ (by decide) (by decide)
theorem sub_c {a b z : Int32} (e : z = a - b) (h : -2000000 ≤ a.toInt) (h1 : a.toInt ≤ 2000000) (h2 : -2000000 ≤ b.toInt) (h3 : b.toInt ≤ 2000000) : z.toInt = a.toInt - b.toInt := by
  rw [e]
  exact tq_subT (a := -2000000) (b := 2000000) (c := -2000000) (d := 2000000) ⟨h, h1⟩ ⟨h2, h3⟩ (by decide) (by decide)
theorem i1e : (1 : Int32).toInt = 1 := by decide
theorem i0e : (0 : Int32).toInt = 0 := by decide
theorem i5e : (5 : Int32).toInt = 5 := by decide
theorem i6e : (6 : Int32).toInt = 6 := by decide
theorem i8e : (8 : Int32).toInt = 8 := by decide
theorem i4e : (4 : Int32).toInt = 4 := by decide
/-- one more of them, at the end -/
theorem incE {r lo hi : Nat} {Q : Unit × ez_H → Prop} (hT : tp p s) (hK : tz_C r = some (0, 1, 2, r)) (hE : ∀ j, tz_el p r j = ((lo : Int), (hi : Int))) (hc : cr p s r < hi) (hl : hi ≤ 1000) (hq : ∀ t s2 y, t.toInt = p.1 3 → ez_is s 1 r t y = some s2 → tp p s2 → Q ((), s2)) : tz_O Q (ez_bd (ez_gi s 12 170 44) fun t => ez_bd (ez_ia s 1 r t) fun v => ez_let (v + (1 : Int32)) fun w => ez_bd (ez_is s 1 r t w) fun σ => some ((), σ)) := by
  refine tz_bd (rbE hT) (fun t ht => ?_)
  refine tz_bd (rdC hT hK hE ht.1) (fun v hv => ?_)
  refine tz_let (fun w e => ?_)
  have hw := tq_inc e (by have := hv.2.1; omega) (by have := hv.1; omega)
  refine tz_be (wrC hT hK hE ht.1 (x := w) ⟨by have := hv.2.1; omega, by have := hv.1; omega⟩) (fun s2 c hs2 => ?_)
  exact tz_some (hq t s2 w ht.1 c hs2)
theorem readKeyE (hT : tp p σ) (hm : pm σ) (hc : cr p σ 176 < 8) : tz_O (fun z : Unit × ez_H => PW p σ z.2) (z_X12_readKey σ 170) := by
  have gr := gh_r hT.1
  have hc0 : 0 ≤ cr p σ 176 := by
    obtain ⟨t, -, h1, -⟩ := rbE hT
    obtain ⟨v, -, h2, h3, -⟩ := rdC hT tc_176 (te_176 (p := p)) h1
    omega
  unfold z_X12_readKey
  refine tz_bd (tz_ob (G := tz_Gp p) (a := 170) (ci := 12) hT tc_170) (fun _ _ => ?_)
  refine tz_bd (rbE hT) (fun t3 h3 => ?_)
  refine tz_let (fun t6 e6 => ?_)
  have h6 := mul_c e6 i8e (by decide) (by decide) h3.2.1 (by omega)
  refine tz_bk (tr_14 hT tc_170) ?_
  refine tz_bd (rbE hT) (fun t12 h12 => ?_)
  refine tz_bd (rdC hT tc_176 (te_176 (p := p)) h12.1) (fun t15 h15 => ?_)
  refine tz_let (fun t16 e16 => ?_)
  have h16 := add_c e16 (by omega) (by omega) (by omega) (by omega)
  have b16 : 0 ≤ t16.toInt ∧ t16.toInt ≤ 15 := by omega
  refine tz_bk (tr_33 hT tc_170) ?_
  refine tz_bd (keyE hT) (fun t25 h25 => ?_)
  refine tz_b3 (freshE (x1 := t25) hT hm) (fun t28 s hs => ?_)
  have hs : PR p σ s := hs
  refine tz_be (tz_lst (G := tz_Gp p) (r := 195) hs.1 tc_195 (i := t16) (y := t28) b16 (by decide) (by decide)) (fun s2 c2 hs2 => ?_)
  refine tz_bk (tr_28 hs2 tc_170) ?_
  refine tz_be (wrE hs2 tc_190 (i := t16) (by omega) (by omega) (te_190 _) (x := -1) ⟨by decide, by decide⟩) (fun s3 c3 hs3 => ?_)
  have w3 : PW p σ s3 := PW_is (PW_lst (PW_PR hs) c2 hs2) c3 hs3 (by decide)
  have k3 : cr p s3 176 = cr p σ 176 := by rw [cr_is c3 (by decide), cr_lst c2, cr_PR hs (by decide)]
  refine lpG (fun (k : ez_H → Nat → Int32 → Int32 → Option (Unit × ez_H)) (a : ez_H × Int32) => k a.1 170 t16 a.2) (fun a => PW p σ a.1 ∧ cr p a.1 176 = cr p σ 176 ∧ 0 ≤ a.2.toInt) (fun a => (2147483647 - a.2.toInt).toNat) ?_ (s3, 0) ⟨w3, k3, i0z⟩ (tq_m0 _)
  rintro k ⟨s, x2⟩ ⟨hw, hk1, hx2⟩ hk
  have hw : PW p σ s := hw
  have hk1 : cr p s 176 = cr p σ 176 := hk1
  have hx2 : 0 ≤ x2.toInt := hx2
  have hs := hw.1
  have K180 : ∀ s, PW p σ s → cr p s 176 = cr p σ 176 → tz_O (fun z : Unit × ez_H => PW p σ z.2) (z_X12_readKey_180 s 170) := by
    intro s hw hk1
    unfold z_X12_readKey_180
    refine tz_bk (tr_14 hw.1 tc_170) ?_
    exact incE (lo := 0) (hi := 8) hw.1 tc_176 (te_176 (p := p)) (by omega) (by decide) (fun t s2 y _ c hs2 => PW_is hw c hs2 (by decide))
  show tz_O _ (z_X12_readKey_41 k s 170 t16 x2)
  unfold z_X12_readKey_41
  refine tz_bk (tr_11 hs tc_170) ?_
  refine tz_bd (rbE hs) (fun t47 h47 => ?_)
  refine tz_bd (rd173 hs h47.1) (fun t50 h50 => ?_)
  refine tz_if _ (fun _ => K180 s hw hk1) (fun c => ?_)
  have c := nle_c c
  have b2 : x2.toInt ≤ 4 := by omega
  refine tz_bd (isGoodE hs) (fun t55 _ => ?_)
  refine tz_if _ (fun _ => K180 s hw hk1) (fun _ => ?_)
  have K153 : ∀ x4 y : Int32, tz_O (fun z : Unit × ez_H => PW p σ z.2) (z_X12_readKey_153 k s 170 t16 x2 x4 y) := by
    intro x4 y
    unfold z_X12_readKey_153
    refine tz_bk (tr_22 hs tc_170) ?_
    refine tz_let (fun t161 e161 => ?_)
    have h161 := mul_c e161 i5e (by decide) (by decide) b16.1 (by omega)
    refine tz_let (fun t163 e163 => ?_)
    have h163 := add_c e163 (by omega) (by omega) (by omega) (by omega)
    refine tz_b3 (numE (x1 := x4) (x2 := y) (x3 := 0) hs (PW_pm hw hm)) (fun t170 s4 hn => ?_)
    have hn1 : PR p s s4 := hn.1
    refine tz_be (wrE hn1.1 tc_184 (i := t163) (by omega) (by omega) (te_0 _) (tq_top t170)) (fun s5 c5 hs5 => ?_)
    refine tz_let (fun t174 e174 => ?_)
    have h174 := tq_inc e174 hx2 (by omega)
    exact hk (s5, t174) ⟨PW_is (PW_R hw hn1) c5 hs5 (by decide), by show cr p s5 176 = _; rw [cr_is c5 (by decide), cr_PR hn1 (by decide), hk1], by show 0 ≤ t174.toInt; omega⟩ (by show (2147483647 - t174.toInt).toNat < (2147483647 - x2.toInt).toNat; omega)
  have K107 : ∀ x3 y : Int32, tz_O (fun z : Unit × ez_H => PW p σ z.2) (z_X12_readKey_107 k s 170 t16 x2 x3 y) := by
    intro x3 y
    unfold z_X12_readKey_107
    refine tz_if _ (fun _ => ?_) (fun _ => ?_)
    · refine tz_bk (tr_12 hs tc_170) ?_
      refine tz_bd (rbE hs) (fun t118 h118 => ?_)
      refine tz_bd (rd174 hs h118.1) (fun t121 _ => tz_let (fun t123 _ => K153 _ _))
    · refine tz_bk (tr_13 hs tc_170) ?_
      refine tz_bd (rbE hs) (fun t133 h133 => ?_)
      refine tz_bd (rdC hs tc_175 (te_175 (p := p)) h133.1) (fun t136 _ => tz_let (fun t137 _ => ?_))
      refine tz_bk (tr_12 hs tc_170) ?_
      refine tz_bd (rbE hs) (fun t144 h144 => ?_)
      refine tz_bd (rd174 hs h144.1) (fun t147 h147 => tz_let (fun t149 e149 => ?_))
      refine tz_bd (tz_X12_held hs) (fun t150 _ => K153 _ _)
  have K81 : ∀ y : Int32, tz_O (fun z : Unit × ez_H => PW p σ z.2) (z_X12_readKey_81 k s 170 t16 x2 y) := by
    intro y
    unfold z_X12_readKey_81
    refine tz_if _ (fun _ => K107 _ _) (fun _ => ?_)
    refine tz_bk (tr_13 hs tc_170) ?_
    refine tz_bd (rbE hs) (fun t96 h96 => ?_)
    refine tz_bd (rdC hs tc_175 (te_175 (p := p)) h96.1) (fun t99 _ => tz_let (fun t100 _ => ?_))
    refine tz_bd (tz_X12_held hs) (fun t104 _ => K107 _ _)
  refine tz_if _ (fun _ => K81 _) (fun c0 => ?_)
  have c0 := ne_c c0
  refine tz_bk (tr_22 hs tc_170) ?_
  refine tz_let (fun t75 e75 => ?_)
  have h75 := mul_c e75 i5e (by decide) (by decide) b16.1 (by omega)
  refine tz_let (fun t77 e77 => ?_)
  have h77 := add_c e77 (by omega) (by omega) (by omega) (by omega)
  refine tz_let (fun t79 e79 => ?_)
  have h79 := sub_c e79 (by omega) (by omega) (by decide) (by decide)
  rw [i1e] at h79
  rw [i0e] at c0
  refine tz_bd (ia_el hs tc_184 (i := t79) (by omega) (by omega) (te_0 _)) (fun t80 _ => K81 _)
theorem readLockE (hT : tp p σ) (hm : pm σ) (hc : cr p σ 177 < 6) : tz_O (fun z : Unit × ez_H => PW p σ z.2) (z_X12_readLock σ 170) := by
  have gr := gh_r hT.1
  have hc0 : 0 ≤ cr p σ 177 := by
    obtain ⟨t, -, h1, -⟩ := rbE hT
    obtain ⟨v, -, h2, h3, -⟩ := rdC hT tc_177 (te_177 (p := p)) h1
    omega
  unfold z_X12_readLock
  refine tz_bd (tz_ob (G := tz_Gp p) (a := 170) (ci := 12) hT tc_170) (fun _ _ => ?_)
  refine tz_bd (rbE hT) (fun t3 h3 => ?_)
  refine tz_let (fun t6 e6 => ?_)
  have h6 := mul_c e6 i6e (by decide) (by decide) h3.2.1 (by omega)
  refine tz_bk (tr_15 hT tc_170) ?_
  refine tz_bd (rbE hT) (fun t12 h12 => ?_)
  refine tz_bd (rdC hT tc_177 (te_177 (p := p)) h12.1) (fun t15 h15 => ?_)
  refine tz_let (fun t16 e16 => ?_)
  have h16 := add_c e16 (by omega) (by omega) (by omega) (by omega)
  have b16 : 0 ≤ t16.toInt ∧ t16.toInt ≤ 11 := by omega
  refine tz_bk (tr_34 hT tc_170) ?_
  refine tz_bd (lockE hT) (fun t25 h25 => ?_)
  refine tz_b3 (freshE (x1 := t25) hT hm) (fun t28 s hs => ?_)
  have hs : PR p σ s := hs
  refine tz_be (tz_lst (G := tz_Gp p) (r := 196) hs.1 tc_196 (i := t16) (y := t28) b16 (by decide) (by decide)) (fun s3 c2 hs2 => ?_)
  have w3 : PW p σ s3 := PW_lst (PW_PR hs) c2 hs2
  have k3 : cr p s3 177 = cr p σ 177 := by rw [cr_lst c2, cr_PR hs (by decide)]
  refine lpG (fun (k : ez_H → Nat → Int32 → Int32 → Option (Unit × ez_H)) (a : ez_H × Int32) => k a.1 170 t16 a.2) (fun a => PW p σ a.1 ∧ cr p a.1 177 = cr p σ 177 ∧ 0 ≤ a.2.toInt) (fun a => (2147483647 - a.2.toInt).toNat) ?_ (s3, 0) ⟨w3, k3, i0z⟩ (tq_m0 _)
  rintro k ⟨s, x2⟩ ⟨hw, hk1, hx2⟩ hk
  have hw : PW p σ s := hw
  have hk1 : cr p s 177 = cr p σ 177 := hk1
  have hx2 : 0 ≤ x2.toInt := hx2
  have hs := hw.1
  have K136 : ∀ s, PW p σ s → cr p s 177 = cr p σ 177 → tz_O (fun z : Unit × ez_H => PW p σ z.2) (z_X12_readLock_136 s 170) := by
    intro s hw hk1
    unfold z_X12_readLock_136
    refine tz_bk (tr_15 hw.1 tc_170) ?_
    exact incE (lo := 0) (hi := 6) hw.1 tc_177 (te_177 (p := p)) (by omega) (by decide) (fun t s2 y _ c hs2 => PW_is hw c hs2 (by decide))
  show tz_O _ (z_X12_readLock_34 k s 170 t16 x2)
  unfold z_X12_readLock_34
  refine tz_bk (tr_11 hs tc_170) ?_
  refine tz_bd (rbE hs) (fun t40 h40 => ?_)
  refine tz_bd (rd173 hs h40.1) (fun t43 h43 => ?_)
  refine tz_if _ (fun _ => K136 s hw hk1) (fun c => ?_)
  have c := nle_c c
  have b2 : x2.toInt ≤ 4 := by omega
  refine tz_bd (isGoodE hs) (fun t48 _ => ?_)
  refine tz_if _ (fun _ => K136 s hw hk1) (fun _ => ?_)
  refine tz_bk (tr_12 hs tc_170) ?_
  refine tz_bd (rbE hs) (fun t62 h62 => ?_)
  refine tz_bd (rd174 hs h62.1) (fun t65 _ => tz_let (fun t67 _ => ?_))
  refine tz_b3 (numE (x1 := 0) (x2 := t67) (x3 := 0) hs (PW_pm hw hm)) (fun t69 s4 hn => ?_)
  have hn1 : PR p s s4 := hn.1
  refine tz_let (fun t72 _ => ?_)
  refine lpG (fun (k2 : ez_H → Nat → Int32 → Int32 → Int32 → Option (Unit × ez_H)) (a : ez_H × Int32) => k2 a.1 170 t16 x2 a.2) (fun a => PW p σ a.1 ∧ cr p a.1 177 = cr p σ 177) (fun a => M a.1) ?_ (s4, t72) ⟨PW_R hw hn1, by show cr p s4 177 = _; rw [cr_PR hn1 (by decide), hk1]⟩ (M_lt _)
  rintro k2 ⟨s5, x3⟩ ⟨hw5, hk5⟩ hk2
  have hw5 : PW p σ s5 := hw5
  have hk5 : cr p s5 177 = cr p σ 177 := hk5
  have K119 : tz_O (fun z : Unit × ez_H => PW p σ z.2) (z_X12_readLock_119 k s5 170 t16 x2 x3) := by
    unfold z_X12_readLock_119
    refine tz_bk (tr_23 hw5.1 tc_170) ?_
    refine tz_let (fun t125 e125 => ?_)
    have h125 := mul_c e125 i5e (by decide) (by decide) b16.1 (by omega)
    refine tz_let (fun t127 e127 => ?_)
    have h127 := add_c e127 (by omega) (by omega) (by omega) (by omega)
    refine tz_be (wrE hw5.1 tc_185 (i := t127) (by omega) (by omega) (te_0 _) (tq_top x3)) (fun s6 c6 hs6 => ?_)
    refine tz_let (fun t130 e130 => ?_)
    have h130 := tq_inc e130 hx2 (by omega)
    exact hk (s6, t130) ⟨PW_is hw5 c6 hs6 (by decide), by show cr p s6 177 = _; rw [cr_is c6 (by decide), hk5], by show 0 ≤ t130.toInt; omega⟩ (by show (2147483647 - t130.toInt).toNat < (2147483647 - x2.toInt).toNat; omega)
  show tz_O _ (z_X12_readLock_74 k k2 s5 170 t16 x2 x3)
  unfold z_X12_readLock_74
  refine tz_bd (isGoodE hw5.1) (fun t75 _ => ?_)
  refine tz_if _ (fun _ => K119) (fun _ => ?_)
  refine tz_bd (isSignE hw5.1) (fun t84 h84 => ?_)
  refine tz_if _ (fun _ => K119) (fun c84 => ?_)
  have h5 := (h84 c84).1
  refine tz_b3 (goE hw5.1 (PW_pm hw5 hm)) (fun _ s6 hs6 => ?_)
  obtain ⟨hs6, hM6⟩ := hs6
  have hs6 : PR p s5 s6 := hs6
  refine tz_bk (tr_12 hs6.1 tc_170) ?_
  refine tz_bd (rbE hs6.1) (fun t103 h103 => ?_)
  refine tz_bd (rd174 hs6.1 h103.1) (fun t106 _ => tz_let (fun t108 _ => ?_))
  have hp6 := PW_pm (PW_R hw5 hs6) hm
  refine tz_b3 (numE (x1 := 0) (x2 := t108) (x3 := x3) hs6.1 hp6) (fun t110 s7 hn7 => ?_)
  have hn7 : PR p s6 s7 := hn7.1
  refine tz_let (fun _ _ => tz_let (fun t114 _ => ?_))
  have hM := hM6 (by omega)
  have hM2 := PR_M hn7 hp6
  have hM : M s6 < M s5 := hM
  exact hk2 (s7, t114) ⟨PW_R (PW_R hw5 hs6) hn7, by show cr p s7 177 = _; rw [cr_PR hn7 (by decide), cr_PR hs6 (by decide), hk5]⟩ (by show M s7 < M s5; omega)
theorem readRoomE (hT : tp p σ) (hm : pm σ) (hc : cr p σ 178 < 6) : tz_O (fun z : Unit × ez_H => PW p σ z.2) (z_X12_readRoom σ 170) := by
  have gr := gh_r hT.1
  unfold z_X12_readRoom
  refine tz_bd (tz_ob (G := tz_Gp p) (a := 170) (ci := 12) hT tc_170) (fun _ _ => ?_)
  refine tz_bk (tr_35 hT tc_170) ?_
  refine tz_bd (rbE hT) (fun t7 h7 => ?_)
  refine tz_let (fun t10 e10 => ?_)
  have h10 := mul_c e10 i6e (by decide) (by decide) h7.2.1 (by omega)
  refine tz_bk (tr_16 hT tc_170) ?_
  refine tz_bd (rbE hT) (fun t16 h16 => ?_)
  refine tz_bd (rdC hT tc_178 (te_178 (p := p)) h16.1) (fun t19 h19 => ?_)
  refine tz_let (fun t20 e20 => ?_)
  have h20 := add_c e20 (by omega) (by omega) (by omega) (by omega)
  refine tz_bd (roomE hT) (fun t23 _ => ?_)
  refine tz_b3 (freshE (x1 := t23) hT hm) (fun t26 s hs => ?_)
  have hs : PR p σ s := hs
  refine tz_be (tz_lst (G := tz_Gp p) (r := 197) hs.1 tc_197 (i := t20) (y := t26) (lo := 0) (hi := 11) ⟨by omega, by omega⟩ (by decide) (by decide)) (fun s3 c2 hs2 => ?_)
  have w3 : PW p σ s3 := PW_lst (PW_PR hs) c2 hs2
  have k3 : cr p s3 178 = cr p σ 178 := by rw [cr_lst c2, cr_PR hs (by decide)]
  refine tz_bk (tr_16 hs2 tc_170) ?_
  exact incE (lo := 0) (hi := 6) hs2 tc_178 (te_178 (p := p)) (by omega) (by decide) (fun t s2 y _ c hs2 => PW_is w3 c hs2 (by decide))
theorem readDoorE (hT : tp p σ) (hm : pm σ) (hc : cr p σ 179 < 8) : tz_O (fun z : Unit × ez_H => PW p σ z.2) (z_X12_readDoor σ 170) := by
  have gr := gh_r hT.1
  unfold z_X12_readDoor
  refine tz_bd (tz_ob (G := tz_Gp p) (a := 170) (ci := 12) hT tc_170) (fun _ _ => ?_)
  refine tz_bd (rbE hT) (fun t3 h3 => ?_)
  refine tz_let (fun t6 e6 => ?_)
  have h6 := mul_c e6 i8e (by decide) (by decide) h3.2.1 (by omega)
  refine tz_bk (tr_17 hT tc_170) ?_
  refine tz_bd (rbE hT) (fun t12 h12 => ?_)
  refine tz_bd (rdC hT tc_179 (te_179 (p := p)) h12.1) (fun t15 h15 => ?_)
  refine tz_let (fun t16 e16 => ?_)
  have h16 := add_c e16 (by omega) (by omega) (by omega) (by omega)
  have b16 : 0 ≤ t16.toInt ∧ t16.toInt ≤ 15 := by omega
  refine tz_bk (tr_36 hT tc_170) ?_
  refine tz_bk (tr_36 hT tc_170) ?_
  refine tz_bd (rbE hT) (fun t32 h32 => ?_)
  refine tz_let (fun t35 e35 => ?_)
  have h35 := mul_c e35 i8e (by decide) (by decide) h32.2.1 (by omega)
  refine tz_bk (tr_17 hT tc_170) ?_
  refine tz_bd (rbE hT) (fun t41 h41 => ?_)
  refine tz_bd (rdC hT tc_179 (te_179 (p := p)) h41.1) (fun t44 h44 => ?_)
  refine tz_bd (hereE hT tc_198 (by decide) (x2 := t35) (x3 := t44) (by omega) (by omega)) (fun t45 _ => ?_)
  refine tz_b3 (freshE (x1 := t45) hT hm) (fun t48 s hs => ?_)
  have hs : PR p σ s := hs
  refine tz_be (tz_lst (G := tz_Gp p) (r := 198) hs.1 tc_198 (i := t16) (y := t48) b16 (by decide) (by decide)) (fun s2 c2 hs2 => ?_)
  have w2 : PW p σ s2 := PW_lst (PW_PR hs) c2 hs2
  have k2 : cr p s2 179 = cr p σ 179 := by rw [cr_lst c2, cr_PR hs (by decide)]
  refine tz_bd (isWordN hs2) (fun t57 _ => ?_)
  refine tz_b3 (mustE (x1 := t57) hs2 (PW_pm w2 hm)) (fun _ s3 hs3 => ?_)
  have hs3 : PR p s2 s3 := hs3.1
  have w3 := PW_R w2 hs3
  have k3 : cr p s3 179 = cr p σ 179 := by rw [cr_PR hs3 (by decide), k2]
  refine tz_bk (tr_24 hs3.1 tc_170) ?_
  refine tz_bd (roomE hs3.1) (fun t70 h70 => ?_)
  refine tz_b3 (knownE (x1 := t70) (x2 := 0) hs3.1 (PW_pm w3 hm)) (fun t74 s4 hs4 => ?_)
  obtain ⟨hs4, n74, m74, -⟩ := hs4
  have hs4 : PR p s3 s4 := hs4
  have n74 : 0 ≤ t74.toInt := n74
  have m74 : t74.toInt = 0 ∨ t74.toInt ≤ t70.toInt := m74
  refine tz_be (wrE hs4.1 tc_186 (i := t16) (by omega) (by omega) (te_186 _) (x := t74) ⟨by omega, by omega⟩) (fun s5 c5 hs5 => ?_)
  have w5 : PW p σ s5 := PW_is (PW_R w3 hs4) c5 hs5 (by decide)
  have k5 : cr p s5 179 = cr p σ 179 := by rw [cr_is c5 (by decide), cr_PR hs4 (by decide), k3]
  refine tz_bd (isWordN hs5) (fun t83 _ => ?_)
  refine tz_b3 (mustE (x1 := t83) hs5 (PW_pm w5 hm)) (fun _ s6 hs6 => ?_)
  have hs6 : PR p s5 s6 := hs6.1
  have w6 := PW_R w5 hs6
  have k6 : cr p s6 179 = cr p σ 179 := by rw [cr_PR hs6 (by decide), k5]
  refine tz_bk (tr_25 hs6.1 tc_170) ?_
  refine tz_bd (roomE hs6.1) (fun t96 h96 => ?_)
  refine tz_bk (tr_24 hs6.1 tc_170) ?_
  refine tz_bd (ia_el hs6.1 tc_186 (i := t16) (by omega) (by omega) (te_186 _)) (fun t105 _ => tz_let (fun t106 _ => ?_))
  refine tz_b3 (knownE (x1 := t96) (x2 := t106) hs6.1 (PW_pm w6 hm)) (fun t107 s7 hs7 => ?_)
  obtain ⟨hs7, n107, m107, -⟩ := hs7
  have hs7 : PR p s6 s7 := hs7
  have n107 : 0 ≤ t107.toInt := n107
  have m107 : t107.toInt = 0 ∨ t107.toInt ≤ t96.toInt := m107
  refine tz_be (wrE hs7.1 tc_187 (i := t16) (by omega) (by omega) (te_187 _) (x := t107) ⟨by omega, by omega⟩) (fun s8 c8 hs8 => ?_)
  have w8 : PW p σ s8 := PW_is (PW_R w6 hs7) c8 hs8 (by decide)
  have k8 : cr p s8 179 = cr p σ 179 := by rw [cr_is c8 (by decide), cr_PR hs7 (by decide), k6]
  refine tz_bd (isWordN hs8) (fun t116 _ => ?_)
  refine tz_b3 (mustE (x1 := t116) hs8 (PW_pm w8 hm)) (fun _ s9 hs9 => ?_)
  have hs9 : PR p s8 s9 := hs9.1
  have w9 := PW_R w8 hs9
  have k9 : cr p s9 179 = cr p σ 179 := by rw [cr_PR hs9 (by decide), k8]
  refine tz_bk (tr_26 hs9.1 tc_170) ?_
  refine tz_bd (lockE hs9.1) (fun t129 h129 => ?_)
  refine tz_b3 (knownE (x1 := t129) (x2 := 0) hs9.1 (PW_pm w9 hm)) (fun t133 sa hsa => ?_)
  obtain ⟨hsa, n133, m133, -⟩ := hsa
  have hsa : PR p s9 sa := hsa
  have n133 : 0 ≤ t133.toInt := n133
  have m133 : t133.toInt = 0 ∨ t133.toInt ≤ t129.toInt := m133
  refine tz_be (wrE hsa.1 tc_188 (i := t16) (by omega) (by omega) (te_188 _) (x := t133) ⟨by omega, by omega⟩) (fun sb cb hsb => ?_)
  have wb : PW p σ sb := PW_is (PW_R w9 hsa) cb hsb (by decide)
  have kb : cr p sb 179 = cr p σ 179 := by rw [cr_is cb (by decide), cr_PR hsa (by decide), k9]
  refine tz_bk (tr_17 hsb tc_170) ?_
  exact incE (lo := 0) (hi := 8) hsb tc_179 (te_179 (p := p)) (by omega) (by decide) (fun t s2 y _ c hs2 => PW_is wb c hs2 (by decide))
theorem readPersonE (hT : tp p σ) (hm : pm σ) (hc : cr p σ 180 < 4) : tz_O (fun z : Unit × ez_H => PW p σ z.2) (z_X12_readPerson σ 170) := by
  have gr := gh_r hT.1
  have hc0 : 0 ≤ cr p σ 180 := by
    obtain ⟨t, -, h1, -⟩ := rbE hT
    obtain ⟨v, -, h2, h3, -⟩ := rdC hT tc_180 (te_180 (p := p)) h1
    omega
  unfold z_X12_readPerson
  refine tz_bd (tz_ob (G := tz_Gp p) (a := 170) (ci := 12) hT tc_170) (fun _ _ => ?_)
  refine tz_bd (rbE hT) (fun t2 h2 => ?_)
  refine tz_let (fun t5 e5 => ?_)
  have h5 := mul_c e5 i4e (by decide) (by decide) h2.2.1 (by omega)
  refine tz_bk (tr_18 hT tc_170) ?_
  refine tz_bd (rbE hT) (fun t11 h11 => ?_)
  refine tz_bd (rdC hT tc_180 (te_180 (p := p)) h11.1) (fun t14 h14 => ?_)
  refine tz_let (fun t15 e15 => ?_)
  have h15 := add_c e15 (by omega) (by omega) (by omega) (by omega)
  have b15 : 0 ≤ t15.toInt ∧ t15.toInt ≤ 7 := by omega
  refine tz_bk (tr_37 hT tc_170) ?_
  refine tz_bk (tr_37 hT tc_170) ?_
  refine tz_bd (rbE hT) (fun t30 h30 => ?_)
  refine tz_let (fun t33 e33 => ?_)
  have h33 := mul_c e33 i4e (by decide) (by decide) h30.2.1 (by omega)
  refine tz_bk (tr_18 hT tc_170) ?_
  refine tz_bd (rbE hT) (fun t39 h39 => ?_)
  refine tz_bd (rdC hT tc_180 (te_180 (p := p)) h39.1) (fun t42 h42 => ?_)
  refine tz_bd (hereE hT tc_199 (by decide) (x2 := t33) (x3 := t42) (by omega) (by omega)) (fun t43 _ => ?_)
  refine tz_b3 (freshE (x1 := t43) hT hm) (fun t46 s hs => ?_)
  have hs : PR p σ s := hs
  refine tz_be (tz_lst (G := tz_Gp p) (r := 199) hs.1 tc_199 (i := t15) (y := t46) b15 (by decide) (by decide)) (fun s2 c2 hs2 => ?_)
  have w2 : PW p σ s2 := PW_lst (PW_PR hs) c2 hs2
  have k2 : cr p s2 180 = cr p σ 180 := by rw [cr_lst c2, cr_PR hs (by decide)]
  refine tz_bd (isWordN hs2) (fun t55 _ => ?_)
  refine tz_b3 (mustE (x1 := t55) hs2 (PW_pm w2 hm)) (fun _ s3 hs3 => ?_)
  have hs3 : PR p s2 s3 := hs3.1
  have w3 := PW_R w2 hs3
  have k3 : cr p s3 180 = cr p σ 180 := by rw [cr_PR hs3 (by decide), k2]
  refine tz_bk (tr_27 hs3.1 tc_170) ?_
  refine tz_bd (roomE hs3.1) (fun t68 h68 => ?_)
  refine tz_b3 (knownE (x1 := t68) (x2 := 0) hs3.1 (PW_pm w3 hm)) (fun t72 s4 hs4 => ?_)
  obtain ⟨hs4, n72, m72, -⟩ := hs4
  have hs4 : PR p s3 s4 := hs4
  have n72 : 0 ≤ t72.toInt := n72
  have m72 : t72.toInt = 0 ∨ t72.toInt ≤ t68.toInt := m72
  refine tz_be (wrE hs4.1 tc_189 (i := t15) (by omega) (by omega) (te_189 _) (x := t72) ⟨by omega, by omega⟩) (fun s5 c5 hs5 => ?_)
  have w5 : PW p σ s5 := PW_is (PW_R w3 hs4) c5 hs5 (by decide)
  have k5 : cr p s5 180 = cr p σ 180 := by rw [cr_is c5 (by decide), cr_PR hs4 (by decide), k3]
  have K163 : ∀ s, PW p σ s → cr p s 180 = cr p σ 180 → tz_O (fun z : Unit × ez_H => PW p σ z.2) (z_X12_readPerson_163 s 170) := by
    intro s hw hk1
    unfold z_X12_readPerson_163
    refine tz_bk (tr_18 hw.1 tc_170) ?_
    exact incE (lo := 0) (hi := 4) hw.1 tc_180 (te_180 (p := p)) (by omega) (by decide) (fun t s2 y _ c hs2 => PW_is hw c hs2 (by decide))
  refine tz_bd (isGoodE hs5) (fun t77 _ => ?_)
  refine tz_if _ (fun _ => K163 s5 w5 k5) (fun _ => ?_)
  refine tz_bd (isWordN hs5) (fun t87 h87 => ?_)
  refine tz_if _ (fun _ => K163 s5 w5 k5) (fun _ => ?_)
  refine tz_b3 (goE hs5 (PW_pm w5 hm)) (fun _ s6 hs6 => ?_)
  have hs6 : PR p s5 s6 := hs6.1
  refine lpG (fun (k : ez_H → Nat → Int32 → Option (Unit × ez_H)) (a : ez_H × Int32) => k a.1 170 a.2) (fun a => PW p σ a.1 ∧ cr p a.1 180 = cr p σ 180) (fun a => M a.1) ?_ (s6, 1) ⟨PW_R w5 hs6, by show cr p s6 180 = _; rw [cr_PR hs6 (by decide), k5]⟩ (M_lt _)
  rintro k ⟨s, x2⟩ ⟨hw, hk1⟩ hk
  have hw : PW p σ s := hw
  have hk1 : cr p s 180 = cr p σ 180 := hk1
  have hs := hw.1
  show tz_O _ (z_X12_readPerson_99 k s 170 x2)
  unfold z_X12_readPerson_99
  refine tz_bd (isGoodE hs) (fun t100 h100 => ?_)
  refine tz_if _ (fun _ => K163 s hw hk1) (fun cg => ?_)
  have h4 : fv s 4 = 0 := by
    by_cases q : fv s 4 = 0
    · exact q
    · exact absurd (h100.mpr q) cg
  refine tz_if _ (fun _ => K163 s hw hk1) (fun _ => ?_)
  refine tz_bd (keyE hs) (fun t112 h112 => ?_)
  refine tz_bd (tz_X12_heldSet hs tc_170) (fun t116 _ => ?_)
  refine tz_b3 (knownE (x1 := t112) (x2 := t116) hs (PW_pm hw hm)) (fun t119 s7 hs7 => ?_)
  obtain ⟨hs7, n119, m119, M119⟩ := hs7
  have hs7 : PR p s s7 := hs7
  have n119 : 0 ≤ t119.toInt := n119
  have m119 : t119.toInt = 0 ∨ t119.toInt ≤ t112.toInt := m119
  have M119 : M s7 < M s := M119 h4
  refine tz_bk (tr_28 hs7.1 tc_170) ?_
  refine tz_bd (rbE hs7.1) (fun t130 h130 => ?_)
  refine tz_let (fun t133 e133 => ?_)
  have h133 := mul_c e133 i8e (by decide) (by decide) h130.2.1 (by omega)
  refine tz_let (fun t135 e135 => ?_)
  have h135 := add_c e135 (by omega) (by omega) (by omega) (by omega)
  refine tz_bk (tr_18 hs7.1 tc_170) ?_
  refine tz_bd (rbE hs7.1) (fun t141 h141 => ?_)
  refine tz_bd (rdC hs7.1 tc_180 (te_180 (p := p)) h141.1) (fun t144 h144 => ?_)
  have k7 : cr p s7 180 = cr p σ 180 := by rw [cr_PR hs7 (by decide), hk1]
  refine tz_be (wrE hs7.1 tc_190 (i := t135) (by omega) (by omega) (te_190 _) (x := t144) ⟨by omega, by omega⟩) (fun s8 c8 hs8 => ?_)
  have hM8 : M s8 = M s7 := by
    unfold M
    rw [fv_is c8, fv_is c8, fv_is c8]
  have w8 : PW p σ s8 := PW_is (PW_R hw hs7) c8 hs8 (by decide)
  have k8 : cr p s8 180 = cr p σ 180 := by rw [cr_is c8 (by decide), k7]
  refine tz_bd (tg_12_8 hs8 tc_170) (fun t147 _ => ?_)
  exact tz_if _ (fun _ => hk (s8, _) ⟨w8, k8⟩ (by show M s8 < M s; omega)) (fun _ => hk (s8, _) ⟨w8, k8⟩ (by show M s8 < M s; omega))
theorem readRightE {h1 : Nat} (hT : tp p σ) (hm : pm σ) (hh : tz_C h1 = some (0, 1, 12, 0)) (h1r : twr h1 = false) : tz_O (fun z : Unit × ez_H => PW p σ z.2) (z_X12_readRight σ 170 h1) := by
  have gr := gh_r hT.1
  unfold z_X12_readRight
  refine tz_bd (tz_ob (G := tz_Gp p) (a := 170) (ci := 12) hT tc_170) (fun _ _ => ?_)
  refine tz_bd (keyE hT) (fun t2 h2 => ?_)
  refine tz_b3 (knownE (x1 := t2) (x2 := 0) hT hm) (fun t6 s hs => ?_)
  have hs : PR p σ s := hs.1
  have hpm := PR_pm hs hm
  refine lpG (fun (k : ez_H → Nat → Nat → Int32 → Int32 → Int32 → Option (Unit × ez_H)) (a : Int32 × Int32) => k s 170 h1 t6 a.1 a.2) (fun a => 0 ≤ a.2.toInt) (fun a => (2147483647 - a.2.toInt).toNat) ?_ (0, 0) (by decide) (tq_m0 _)
  rintro k ⟨x3, x4⟩ hx4 hk
  have hx4 : 0 ≤ x4.toInt := hx4
  show tz_O _ (z_X12_readRight_15 k s 170 h1 t6 x3 x4)
  unfold z_X12_readRight_15
  refine tz_bk (tr_15 hs.1 tc_170) ?_
  refine tz_bd (rbE hs.1) (fun t22 h22 => ?_)
  refine tz_bd (rdC hs.1 tc_177 (te_177 (p := p)) h22.1) (fun t25 h25 => ?_)
  refine tz_if _ (fun _ => ?_) (fun c => ?_)
  · refine tz_bd (lockE hs.1) (fun t82 h82 => ?_)
    refine tz_b3 (knownE (x1 := t82) (x2 := x3) hs.1 hpm) (fun t86 s2 hs2 => ?_)
    obtain ⟨hs2, n86, m86, -⟩ := hs2
    have hs2 : PR p s s2 := hs2
    have n86 : 0 ≤ t86.toInt := n86
    have m86 : t86.toInt = 0 ∨ t86.toInt ≤ t82.toInt := m86
    have w2 : PW p σ s2 := PW_PR (PR_tr hs hs2)
    refine tz_bd (isGoodE hs2.1) (fun t92 _ => ?_)
    refine tz_if _ (fun _ => ?_) (fun _ => ?_)
    · unfold z_X12_readRight_116
      exact tz_some w2
    · refine tz_bd (rbE hs2.1) (fun t102 h102 => ?_)
      refine tz_let (fun t105 e105 => ?_)
      have h105 := mul_c e105 i6e (by decide) (by decide) h102.2.1 (by omega)
      refine tz_let (fun t108 e108 => ?_)
      have h108 := add_c e108 (by omega) (by omega) (by omega) (by omega)
      refine tz_bd (ia_el hs2.1 hh (i := t108) (by omega) (by omega) (te_0 _)) (fun t110 _ => tz_let (fun t113 _ => tz_let (fun t114 _ => ?_)))
      refine tz_be (wrE hs2.1 hh (i := t108) (by omega) (by omega) (te_0 _) (tq_top t114)) (fun s3 c3 hs3 => ?_)
      unfold z_X12_readRight_116
      exact tz_some (PW_is w2 c3 hs3 h1r)
  · have c := nle_c c
    have K74 : ∀ y : Int32, tz_O (fun z : Unit × ez_H => PW p σ z.2) (z_X12_readRight_74 k s 170 h1 t6 y x4) := by
      intro y
      unfold z_X12_readRight_74
      refine tz_let (fun t74 e74 => ?_)
      have h74 := tq_inc e74 hx4 (by omega)
      exact hk (y, t74) (by show 0 ≤ t74.toInt; omega) (by show (2147483647 - t74.toInt).toNat < (2147483647 - x4.toInt).toNat; omega)
    refine tz_bk (tr_29 hs.1 tc_170) ?_
    refine tz_bd (rbE hs.1) (fun t36 h36 => ?_)
    refine tz_let (fun t39 e39 => ?_)
    have h39 := mul_c e39 i6e (by decide) (by decide) h36.2.1 (by omega)
    refine tz_let (fun t42 e42 => ?_)
    have h42 := add_c e42 (by omega) (by omega) (by omega) (by omega)
    refine tz_bd (ia_el hs.1 tc_191 (i := t42) (by omega) (by omega) (te_0 _)) (fun t43 _ => ?_)
    refine tz_bk (tr_30 hs.1 tc_170) ?_
    refine tz_bd (rbE hs.1) (fun t51 h51 => ?_)
    refine tz_let (fun t54 e54 => ?_)
    have h54 := mul_c e54 i6e (by decide) (by decide) h51.2.1 (by omega)
    refine tz_let (fun t57 e57 => ?_)
    have h57 := add_c e57 (by omega) (by omega) (by omega) (by omega)
    refine tz_bd (ia_el hs.1 tc_192 (i := t57) (by omega) (by omega) (te_0 _)) (fun t58 _ => tz_let (fun t59 _ => ?_))
    refine tz_bd (tz_X12_bit hs.1) (fun t61 _ => ?_)
    exact tz_if _ (fun _ => K74 _) (fun _ => tz_let (fun t71 _ => tz_let (fun t72 _ => K74 _)))
end H4
