/-! Sets of bits. -/
def tb (x : Int32) (i : Nat) : Bool := x.toBitVec.getLsbD i
theorem tb_or (x y : Int32) (i : Nat) : tb (x ||| y) i = (tb x i || tb y i) := by
  unfold tb
  rw [Int32.toBitVec_or, BitVec.getLsbD_or]
theorem tb_and (x y : Int32) (i : Nat) : tb (x &&& y) i = (tb x i && tb y i) := by
  unfold tb
  rw [Int32.toBitVec_and, BitVec.getLsbD_and]
theorem tb_0 (i : Nat) : tb 0 i = false := by
  unfold tb
  show (0#32).getLsbD i = false
  exact BitVec.getLsbD_zero
theorem tb_ext {x y : Int32} (h : ∀ i, i < 32 → tb x i = tb y i) : x = y := Int32.toBitVec_inj.mp (BitVec.eq_of_getLsbD_eq h)
theorem tb_z {x : Int32} : x = 0 ↔ ∀ i, i < 32 → tb x i = false := by
  constructor
  · intro h i _
    rw [h]
    exact tb_0 i
  · intro h
    exact tb_ext (fun i hi => by rw [h i hi, tb_0])
theorem tb_1 (j : Nat) (hj : j < 32) (i : Nat) (hi : i < 32) : tb ((1 : Int32) <<< (nI j &&& 31)) i = Nat.beq i j := by
  have h : ∀ j i : Fin 32, tb ((1 : Int32) <<< (nI j.val &&& 31)) i.val = Nat.beq i.val j.val := by decide +kernel
  exact h ⟨j, hj⟩ ⟨i, hi⟩
theorem tb_s {x y : Int32} {a b : Int} (e : y = (1 : Int32) <<< (x &&& 31)) (h : tq_iv a b x) (h0 : 0 ≤ a) (h1 : b ≤ 31) (i : Nat) (hi : i < 32) : tb y i = Nat.beq i x.toInt.toNat := by
  obtain ⟨j, rfl, j1, j2, j3⟩ := tq_of h h0
  rw [e, tb_1 j (by omega) i hi, nI_toInt (by omega)]
  rfl
theorem tb_8 (x : Int32) : x.toInt / 8 % 2 = 1 ↔ tb x 3 = true := by
  have h2 : tb x 3 = decide (x.toBitVec.toNat / 8 % 2 = 1) := by
    unfold tb BitVec.getLsbD
    rw [Nat.testBit_eq_decide_div_mod_eq]
  rw [h2, decide_eq_true_eq, ← Int32.toInt_toBitVec, BitVec.toInt_eq_toNat_cond]
  have := x.toBitVec.isLt
  split <;> omega
theorem tb_shr {x : Int32} {j : Nat} (hj : j < 32) : tb (x >>> (nI j &&& 31)) 0 = tb x j := by
  have h : ∀ j : Fin 32, ((nI j.val &&& 31).toBitVec.smod 32).toNat = j.val := by decide +kernel
  have h1 := h ⟨j, hj⟩
  unfold tb
  rw [Int32.toBitVec_shiftRight]
  unfold BitVec.sshiftRight'
  rw [h1, BitVec.getLsbD_sshiftRight]
  simp [hj]
theorem tb_one {x : Int32} : x &&& 1 = 1 ↔ tb x 0 = true := by
  constructor
  · intro h
    have := tb_and x 1 0
    rw [h] at this
    have e : tb 1 0 = true := by decide
    rw [e, Bool.and_true] at this
    exact this.symm
  · intro h
    refine tb_ext (fun i hi => ?_)
    have e : ∀ i : Fin 32, tb 1 i.val = Nat.beq i.val 0 := by decide +kernel
    have e : tb 1 i = Nat.beq i 0 := e ⟨i, hi⟩
    rw [tb_and, e]
    by_cases q : i = 0
    · subst q
      rw [h]
      rfl
    · have : Nat.beq i 0 = false := by
        cases w : Nat.beq i 0 with
        | false => rfl
        | true => exact absurd (Nat.eq_of_beq_eq_true w) q
      rw [this, Bool.and_false]
/-- is a number in a set -/
theorem bitE {σ : ez_H} {x k : Int32} {a b : Int} (hk : tq_iv a b k) (h0 : 0 ≤ a) (h1 : b ≤ 31) : tz_O (fun z => tq_iv 0 1 z ∧ (z = 0 ↔ tb x k.toInt.toNat = false)) (z_X12_bit σ x k) := by
  obtain ⟨j, rfl, j1, j2, j3⟩ := tq_of hk h0
  have hj : (nI j).toInt.toNat = j := by rw [nI_toInt (by omega)]; rfl
  rw [hj]
  unfold z_X12_bit
  refine tz_let (fun t e => tz_let (fun u e2 => ?_))
  have hs : u = 1 ↔ tb x j = true := by
    rw [e2, e, tb_one, tb_shr (by omega)]
  refine tz_if _ (fun c => ?_) (fun c => ?_)
  · unfold z_X12_bit_14
    refine tz_nr (tq_nr_boolean ⟨by decide, by decide⟩) ?_
    refine tz_some ⟨⟨by decide, by decide⟩, fun h => absurd h (by decide), fun h => ?_⟩
    rw [hs.mp c] at h
    cases h
  · unfold z_X12_bit_14
    refine tz_nr (tq_nr_boolean ⟨by decide, by decide⟩) ?_
    refine tz_some ⟨⟨by decide, by decide⟩, fun _ => ?_, fun _ => rfl⟩
    cases h : tb x j with
    | false => rfl
    | true => exact absurd (hs.mpr h) c
/-! What is known of the bank in use. -/
section EL
variable {p : tz_P} {i : Nat}
theorem el_183 (h : (i : Int) = p.1 2) : tz_el p 183 i = (p.1 8, p.1 8) := by
  show tz_bn p i (p.1 8, p.1 8) _ = _
  unfold tz_bn
  rw [if_pos h]
theorem el_193 (h : (i : Int) = p.1 2) : tz_el p 193 i = (p.1 6, p.1 6) := by
  show tz_bn p i (p.1 6, p.1 6) _ = _
  unfold tz_bn
  rw [if_pos h]
theorem el_194 (h : (i : Int) = p.1 2) : tz_el p 194 i = (p.1 7, p.1 7) := by
  show tz_bn p i (p.1 7, p.1 7) _ = _
  unfold tz_bn
  rw [if_pos h]
theorem el_200 (h : 560 * p.1 2 ≤ (i : Int)) (h2 : (i : Int) < 560 * p.1 2 + 560) : tz_el p 200 i = (p.2 i, p.2 i) := by
  show (if 560 * p.1 2 ≤ (i : Int) ∧ (i : Int) < 560 * p.1 2 + 560 then (p.2 i, p.2 i) else _) = _
  rw [if_pos ⟨h, h2⟩]
theorem el_183n (h : ¬ (i : Int) = p.1 2) : tz_el p 183 i = (-2147483648, 2147483647) := by
  show tz_bn p i _ (-2147483648, 2147483647) = _
  unfold tz_bn
  rw [if_neg h]
theorem el_193n (h : ¬ (i : Int) = p.1 2) : tz_el p 193 i = (-2147483648, 2147483647) := by
  show tz_bn p i _ (-2147483648, 2147483647) = _
  unfold tz_bn
  rw [if_neg h]
theorem el_194n (h : ¬ (i : Int) = p.1 2) : tz_el p 194 i = (-2147483648, 2147483647) := by
  show tz_bn p i _ (-2147483648, 2147483647) = _
  unfold tz_bn
  rw [if_neg h]
theorem el_200n (h : ¬ (560 * p.1 2 ≤ (i : Int) ∧ (i : Int) < 560 * p.1 2 + 560)) : tz_el p 200 i = (-2147483648, 2147483647) := by
  show (if 560 * p.1 2 ≤ (i : Int) ∧ (i : Int) < 560 * p.1 2 + 560 then _ else (-2147483648, 2147483647)) = _
  rw [if_neg h]
end EL
/-- an element of a row at a place where it is known to lie between two numbers -/
theorem ia_el {p : tz_P} {σ : ez_H} {r n e : Nat} {i : Int32} {lo hi : Int} (hT : tp p σ) (hK : tz_C r = some (0, 1, n, e)) (h0 : 0 ≤ i.toInt) (h1 : i.toInt < (n : Int)) (he : tz_el p e i.toInt.toNat = (lo, hi)) : tz_O (tq_iv lo hi) (ez_ia σ 1 r i) := by
  have h := tz_iaG (G := tz_Gp p) hT hK h0 h1
  have e2 : (tz_Gp p).2.2.1 e i.toInt.toNat = (lo, hi) := he
  rw [e2] at h
  exact h
theorem isLetE {σ : ez_H} {x : Int32} : tz_O (fun z => (z = 0 ↔ ¬ (97 ≤ x.toInt ∧ x.toInt ≤ 122))) (z_X12_isLetter σ x) := by
  have e97 : (97 : Int32).toInt = 97 := by decide
  have e122 : (122 : Int32).toInt = 122 := by decide
  unfold z_X12_isLetter
  refine tz_if _ (fun c => ?_) (fun c => ?_)
  · have c := lt_c c
    unfold z_X12_isLetter_16 z_X12_isLetter_17
    refine tz_nr (tq_nr_boolean ⟨by decide, by decide⟩) (tz_some ⟨fun _ => by omega, fun _ => rfl⟩)
  · have c := nlt_c c
    refine tz_if _ (fun c2 => ?_) (fun c2 => ?_)
    · have c2 := lt_c c2
      unfold z_X12_isLetter_16 z_X12_isLetter_17
      refine tz_nr (tq_nr_boolean ⟨by decide, by decide⟩) (tz_some ⟨fun _ => by omega, fun _ => rfl⟩)
    · have c2 := nlt_c c2
      unfold z_X12_isLetter_17
      refine tz_nr (tq_nr_boolean ⟨by decide, by decide⟩) (tz_some ⟨fun h => absurd h (by decide), fun h => absurd (by omega) h⟩)
