/-! Numbers between bounds. -/
def tq_iv (lo hi : Int) (x : Int32) : Prop := lo ≤ x.toInt ∧ x.toInt ≤ hi
theorem tq_top (x : Int32) : tq_iv (-2147483648) 2147483647 x := ⟨by have := Int32.le_toInt x; omega, by have := Int32.toInt_lt x; omega⟩
theorem tq_vin {x : Int32} {lo hi : Int} {n : Nat} (h : tq_iv lo hi x) (h0 : 0 ≤ lo) (h1 : hi < (n : Int)) : vp_in x n := vp_in_iff.mpr ⟨by have := h.1; omega, by have := h.2; omega⟩
theorem tq_w {x : Int32} {a b lo hi : Int} (h : tq_iv a b x) (h1 : lo ≤ a) (h2 : b ≤ hi) : tq_iv lo hi x := ⟨by have := h.1; omega, by have := h.2; omega⟩
theorem tq_cut {x : Int32} {a b c d lo hi : Int} (h : tq_iv a b x) (h' : tq_iv c d x) (h1 : lo ≤ a ∨ lo ≤ c) (h2 : b ≤ hi ∨ d ≤ hi) : tq_iv lo hi x := ⟨by have := h.1; have := h'.1; omega, by have := h.2; have := h'.2; omega⟩
theorem tq_ltL {x y : Int32} {a b c d : Int} (q : x < y) (_ : tq_iv a b x) (iy : tq_iv c d y) : tq_iv (-2147483648) (d - 1) x := ⟨(tq_top x).1, by have := Int32.lt_iff_toInt_lt.mp q; have := iy.2; omega⟩
theorem tq_ltR {x y : Int32} {a b c d : Int} (q : x < y) (ix : tq_iv a b x) (_ : tq_iv c d y) : tq_iv (a + 1) 2147483647 y := ⟨by have := Int32.lt_iff_toInt_lt.mp q; have := ix.1; omega, (tq_top y).2⟩
theorem tq_leL {x y : Int32} {a b c d : Int} (q : x ≤ y) (_ : tq_iv a b x) (iy : tq_iv c d y) : tq_iv (-2147483648) d x := ⟨(tq_top x).1, by have := Int32.le_iff_toInt_le.mp q; have := iy.2; omega⟩
theorem tq_leR {x y : Int32} {a b c d : Int} (q : x ≤ y) (ix : tq_iv a b x) (_ : tq_iv c d y) : tq_iv a 2147483647 y := ⟨by have := Int32.le_iff_toInt_le.mp q; have := ix.1; omega, (tq_top y).2⟩
theorem tq_nlt {x y : Int32} (q : ¬ x < y) : y ≤ x := by rw [Int32.le_iff_toInt_le]; rw [Int32.lt_iff_toInt_lt] at q; omega
theorem tq_nle {x y : Int32} (q : ¬ x ≤ y) : y < x := by rw [Int32.lt_iff_toInt_lt]; rw [Int32.le_iff_toInt_le] at q; omega
theorem tq_eqL {x y : Int32} {c d : Int} (q : x = y) (iy : tq_iv c d y) : tq_iv c d x := q ▸ iy
theorem tq_neLo {x y : Int32} {a b : Int} (q : ¬ x = y) (ix : tq_iv a b x) (iy : tq_iv a a y) : tq_iv (a + 1) b x := by
  have h := ix.1
  have h1 := iy.1
  have h2 := iy.2
  have h3 : ¬ x.toInt = y.toInt := fun e => q (Int32.toInt_inj.mp e)
  exact ⟨by omega, ix.2⟩
theorem tq_neHi {x y : Int32} {a b : Int} (q : ¬ x = y) (ix : tq_iv a b x) (iy : tq_iv b b y) : tq_iv a (b - 1) x := by
  have h := ix.2
  have h1 := iy.1
  have h2 := iy.2
  have h3 : ¬ x.toInt = y.toInt := fun e => q (Int32.toInt_inj.mp e)
  exact ⟨ix.1, by omega⟩
theorem tq_bm {z : Int} (h1 : -2147483648 ≤ z) (h2 : z ≤ 2147483647) : z.bmod (2 ^ 32) = z := Int.bmod_eq_of_le (by omega) (by omega)
theorem tq_addT {x y : Int32} {a b c d : Int} (ix : tq_iv a b x) (iy : tq_iv c d y) (h1 : -2147483648 ≤ a + c) (h2 : b + d ≤ 2147483647) : (x + y).toInt = x.toInt + y.toInt := by
  obtain ⟨p1, p2⟩ := ix
  obtain ⟨q1, q2⟩ := iy
  rw [Int32.toInt_add]; exact tq_bm (by omega) (by omega)
theorem tq_subT {x y : Int32} {a b c d : Int} (ix : tq_iv a b x) (iy : tq_iv c d y) (h1 : -2147483648 ≤ a - d) (h2 : b - c ≤ 2147483647) : (x - y).toInt = x.toInt - y.toInt := by
  obtain ⟨p1, p2⟩ := ix
  obtain ⟨q1, q2⟩ := iy
  rw [Int32.toInt_sub]; exact tq_bm (by omega) (by omega)
theorem tq_add {x y z : Int32} {a b c d : Int} (e : z = x + y) (ix : tq_iv a b x) (iy : tq_iv c d y) (h1 : -2147483648 ≤ a + c) (h2 : b + d ≤ 2147483647) : tq_iv (a + c) (b + d) z := by
  subst e
  have := tq_addT ix iy h1 h2
  obtain ⟨p1, p2⟩ := ix
  obtain ⟨q1, q2⟩ := iy
  exact ⟨by omega, by omega⟩
theorem tq_sub {x y z : Int32} {a b c d : Int} (e : z = x - y) (ix : tq_iv a b x) (iy : tq_iv c d y) (h1 : -2147483648 ≤ a - d) (h2 : b - c ≤ 2147483647) : tq_iv (a - d) (b - c) z := by
  subst e
  have := tq_subT ix iy h1 h2
  obtain ⟨p1, p2⟩ := ix
  obtain ⟨q1, q2⟩ := iy
  exact ⟨by omega, by omega⟩
/-- a counter goes on: the measure falls -/
theorem tq_up {x z d : Int32} {a b c1 c2 : Int} {n : Nat} (e : z = x + d) (ix : tq_iv a b x) (id : tq_iv c1 c2 d) (h1 : 1 ≤ c1) (h2 : b + c2 ≤ 2147483647) (hn : (2147483647 - x.toInt).toNat < n + 1) : (2147483647 - z.toInt).toNat < n := by
  subst e
  have q1 := ix.2
  have q2 := id.1
  have q3 := id.2
  have := tq_addT (a := -2147483648) (b := b) (c := 1) (d := c2) ⟨(tq_top x).1, q1⟩ ⟨by omega, q3⟩ (by decide) h2
  omega
theorem tq_down {x z d : Int32} {a b c1 c2 : Int} {n : Nat} (e : z = x + d) (ix : tq_iv a b x) (id : tq_iv c1 c2 d) (h1 : c2 ≤ -1) (h2 : -2147483648 ≤ a + c1) (hn : (x.toInt + 2147483648).toNat < n + 1) : (z.toInt + 2147483648).toNat < n := by
  subst e
  have q1 := ix.1
  have q2 := id.1
  have q3 := id.2
  have := tq_addT (a := a) (b := 2147483647) (c := c1) (d := -1) ⟨q1, (tq_top x).2⟩ ⟨q2, by omega⟩ h2 (by decide)
  omega
theorem tq_nz {x : Int32} {a b : Int} (h : tq_iv a b x) (h0 : 0 < a) : ¬ x = 0 := fun e => by
  have := h.1
  rw [e] at this
  have h1 : (0 : Int32).toInt = 0 := by decide
  omega
theorem tq_max {x y z : Int32} {a b c d : Int} (e : z = if x < y then y else x) (ix : tq_iv a b x) (iy : tq_iv c d y) : tq_iv (max a c) (max b d) z := by
  subst e
  obtain ⟨p1, p2⟩ := ix
  obtain ⟨q1, q2⟩ := iy
  by_cases h : x < y
  · rw [if_pos h]; rw [Int32.lt_iff_toInt_lt] at h; exact ⟨by omega, by omega⟩
  · rw [if_neg h]; rw [Int32.lt_iff_toInt_lt] at h; exact ⟨by omega, by omega⟩
theorem tq_min {x y z : Int32} {a b c d : Int} (e : z = if y < x then y else x) (ix : tq_iv a b x) (iy : tq_iv c d y) : tq_iv (min a c) (min b d) z := by
  subst e
  obtain ⟨p1, p2⟩ := ix
  obtain ⟨q1, q2⟩ := iy
  by_cases h : y < x
  · rw [if_pos h]; rw [Int32.lt_iff_toInt_lt] at h; exact ⟨by omega, by omega⟩
  · rw [if_neg h]; rw [Int32.lt_iff_toInt_lt] at h; exact ⟨by omega, by omega⟩
theorem tq_of {x : Int32} {a b : Int} (h : tq_iv a b x) (h0 : 0 ≤ a) : ∃ j : Nat, x = nI j ∧ (j : Int) ≤ b ∧ j < 2 ^ 31 ∧ a ≤ (j : Int) := by
  have h1 := h.1
  have h2 := h.2
  obtain ⟨j, hj, rfl⟩ := nI_of (x := x) (fun q => by rw [Int32.lt_iff_toInt_lt] at q; have : (0 : Int32).toInt = 0 := (by decide); omega)
  rw [nI_toInt hj] at h1 h2
  exact ⟨j, rfl, h2, hj, h1⟩
theorem tq_32 (y : Int32) : ∃ k : Nat, k < 2 ^ 32 ∧ y = nI k := ⟨y.toBitVec.toNat, y.toBitVec.isLt, by apply Int32.toBitVec_inj.mp; simp [nI, Int32.toBitVec_ofNat']⟩
theorem tq_nnI {a b : Int} {j : Nat} (h1 : a ≤ (j : Int)) (h2 : (j : Int) ≤ b) (hj : j < 2 ^ 31) : tq_iv a b (nI j) := by
  unfold tq_iv
  rw [nI_toInt hj]
  exact ⟨h1, h2⟩
theorem tq_andN (a b : Nat) : nI a &&& nI b = nI (a &&& b) := by
  apply Int32.toBitVec_inj.mp
  simp [nI, Int32.toBitVec_and, Int32.toBitVec_ofNat', BitVec.ofNat_and]
theorem tq_orN (a b : Nat) : nI a ||| nI b = nI (a ||| b) := by
  apply Int32.toBitVec_inj.mp
  simp [nI, Int32.toBitVec_or, Int32.toBitVec_ofNat', BitVec.ofNat_or]
theorem tq_and1 {x y z : Int32} {a b : Int} (e : z = x &&& y) (ix : tq_iv a b x) (h0 : 0 ≤ a) : tq_iv 0 b z := by
  subst e
  obtain ⟨j, rfl, h1, h2, -⟩ := tq_of ix h0
  obtain ⟨k, -, rfl⟩ := tq_32 y
  rw [tq_andN]
  have h3 : j &&& k ≤ j := Nat.and_le_left
  exact tq_nnI (by omega) (by omega) (by omega)
theorem tq_and2 {x y z : Int32} {a b : Int} (e : z = x &&& y) (iy : tq_iv a b y) (h0 : 0 ≤ a) : tq_iv 0 b z := by
  subst e
  obtain ⟨j, rfl, h1, h2, -⟩ := tq_of iy h0
  obtain ⟨k, -, rfl⟩ := tq_32 x
  rw [tq_andN]
  have h3 : k &&& j ≤ j := Nat.and_le_right
  exact tq_nnI (by omega) (by omega) (by omega)
theorem tq_or {x y z : Int32} {a b c d hi : Int} (e : z = x ||| y) (ix : tq_iv a b x) (iy : tq_iv c d y) (n : Nat) (h0 : 0 ≤ a) (h1 : 0 ≤ c) (h2 : b < 2 ^ n) (h3 : d < 2 ^ n) (h4 : n ≤ 16) (h5 : (2 : Int) ^ n - 1 = hi := by decide) : tq_iv 0 hi z := by
  subst e
  obtain ⟨j, rfl, j1, j2, -⟩ := tq_of ix h0
  obtain ⟨k, rfl, k1, k2, -⟩ := tq_of iy h1
  rw [tq_orN]
  have p1 : j < 2 ^ n := by exact_mod_cast (show (j : Int) < ((2 ^ n : Nat) : Int) by push_cast; omega)
  have p2 : k < 2 ^ n := by exact_mod_cast (show (k : Int) < ((2 ^ n : Nat) : Int) by push_cast; omega)
  have p3 : j ||| k < 2 ^ n := Nat.or_lt_two_pow p1 p2
  have p4 : (2 : Nat) ^ n ≤ 2 ^ 16 := Nat.pow_le_pow_right (by decide) h4
  have p5 : (((2 : Nat) ^ n : Nat) : Int) = (2 : Int) ^ n := by push_cast; rfl
  refine tq_nnI (by omega) ?_ (by omega)
  rw [← h5, ← p5]
  omega
theorem tq_rem {x y z : Int32} {a b c : Int} (e : z = x - x / y * y) (ix : tq_iv a b x) (iy : tq_iv c c y) (h0 : 0 ≤ a) (h1 : 0 < c) : tq_iv 0 (c - 1) z := by
  subst e
  obtain ⟨j, rfl, j1, j2, -⟩ := tq_of ix h0
  obtain ⟨k, rfl, k1, k2, k3⟩ := tq_of iy (by omega)
  have hk : (k : Int) = c := by omega
  rw [pk_rem j2 (by omega) k2]
  have h3 : j % k < k := Nat.mod_lt _ (by omega)
  exact tq_nnI (by omega) (by omega) (by omega)
theorem tq_shl1 {y z : Int32} {a b lo hi : Int} (e : z = 1 <<< (y &&& 31)) (iy : tq_iv a b y) (h0 : 0 ≤ a) (h1 : b ≤ 16) (h2 : lo ≤ 2 ^ a.toNat) (h3 : (2 : Int) ^ b.toNat ≤ hi) : tq_iv lo hi z := by
  subst e
  obtain ⟨k, rfl, k1, k2, k3⟩ := tq_of iy h0
  have hs : ∀ q : Fin 17, ((1 : Int32) <<< (nI q.val &&& 31)).toInt = 2 ^ q.val := by decide
  have := hs ⟨k, by omega⟩
  have p1 : (2 : Int) ^ a.toNat ≤ 2 ^ k := by exact_mod_cast Nat.pow_le_pow_right (n := 2) (by decide) (show a.toNat ≤ k by omega)
  have p2 : (2 : Int) ^ k ≤ 2 ^ b.toNat := by exact_mod_cast Nat.pow_le_pow_right (n := 2) (by decide) (show k ≤ b.toNat by omega)
  unfold tq_iv
  rw [this]
  exact ⟨Int.le_trans h2 p1, Int.le_trans p2 h3⟩
theorem tq_z0 {x : Int32} (h : tq_iv 0 0 x) : x = 0 := Int32.toInt_inj.mp (by have := h.1; have := h.2; have h1 : (0 : Int32).toInt = 0 := (by decide); omega)
theorem tq_nb {x : Int32} {a b : Int} (h : tq_iv a b x) (h0 : 0 ≤ a) (h1 : b ≤ 1) : narrow .boolean (.int x) = .int x := by
  obtain ⟨k, rfl, k1, k2, k3⟩ := tq_of h h0
  have hk : k = 0 ∨ k = 1 := by omega
  rcases hk with rfl | rfl <;> decide
theorem tq_nc {x : Int32} {a b : Int} (h : tq_iv a b x) (h0 : 0 ≤ a) (h1 : b ≤ 65535) : narrow .char (.int x) = .int x := by
  obtain ⟨k, rfl, k1, k2, k3⟩ := tq_of h h0
  exact (pk_charN (by omega)).1
theorem tq_xlt {x y : Int32} {a b c d : Int} (q : x < y) (ix : tq_iv a b x) (iy : tq_iv c d y) (h : d ≤ a) : False := by
  have := Int32.lt_iff_toInt_lt.mp q
  have := ix.1
  have := iy.2
  omega
theorem tq_xle {x y : Int32} {a b c d : Int} (q : x ≤ y) (ix : tq_iv a b x) (iy : tq_iv c d y) (h : d < a) : False := by
  have := Int32.le_iff_toInt_le.mp q
  have := ix.1
  have := iy.2
  omega
theorem tq_xeq {x y : Int32} {a b c d : Int} (q : x = y) (ix : tq_iv a b x) (iy : tq_iv c d y) (h : d < a ∨ b < c) : False := by
  subst q
  have := ix.1
  have := ix.2
  have := iy.1
  have := iy.2
  omega
theorem tq_xne {x y : Int32} {a b c d : Int} (q : ¬ x = y) (ix : tq_iv a b x) (iy : tq_iv c d y) (h : a = b ∧ c = d ∧ a = c) : False := by
  refine q (Int32.toInt_inj.mp ?_)
  have := ix.1
  have := ix.2
  have := iy.1
  have := iy.2
  omega
