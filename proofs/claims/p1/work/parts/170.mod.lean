/-! The reference on a fresh object: its counts. -/
def ev_d (a b : Nat) : Nat := (a - b) + (b - a)
theorem ev_abs {σ : ez_H} {a b : Nat} (ha : a < 6) (hb : b < 6) : z_X12_absolute σ (nI a - nI b) = some (nI (ev_d a b)) := by
  have h : ∀ a : Nat, a < 6 → ∀ b : Nat, b < 6 → z_X12_absolute [] (nI a - nI b) = some (nI (ev_d a b)) := by decide +kernel
  exact h a ha b hb
theorem md_deepN {σ : ez_H} (h : ev_MF σ) : z_X12_deep σ 170 = some (nI 6) := md_deep h
theorem md_wideN {σ : ez_H} (h : ev_MF σ) : z_X12_wide σ 170 = some (nI 5) := md_wide h
theorem md_bit {σ : ez_H} (h : ev_MF σ) : z_X12_bittings σ 170 = some (nI 7776) := by
  have h1 : z_X12_power [] 6 5 = some (nI 7776) := by decide +kernel
  have h2 : z_X12_power σ 6 5 = some (nI 7776) := h1
  unfold z_X12_bittings
  rw [ez_bdo (ev_m0 h), md_deep h, ez_bd_some, md_wide h, ez_bd_some, h2, ez_bd_some]
theorem md_opened {σ : ez_H} (h : ev_MF σ) (b : Int32) : z_X12_openedBy σ 170 b = some 0 := by
  unfold z_X12_openedBy
  rw [ez_bdo (ev_m0 h), ez_fixN]
  unfold z_X12_openedBy_4
  rw [md_bolts h, ez_bd_some, if_pos (Int32.le_refl 0)]
theorem md_lbs {σ : ez_H} (h : ev_MF σ) (K : Nat → Int32 → Int32 → Int32 → Int32 → Option Int32) {v e c f : Nat} (hv : v < 7776) (he : e < 6) (hf : f < 6) (hc : c < 5) : z_X12_isLegalBy_13 σ K 170 (nI f) (nI v) (nI e) (nI c) = if ev_d (v / 6 % 6) e ≤ f then K 170 (nI f) (nI (v / 6)) (nI (v / 6 % 6)) (nI (c + 1)) else some 0 := by
  unfold z_X12_isLegalBy_13
  have h6 : ¬ nI 6 = 0 := by decide +kernel
  rw [md_wideN h, ez_bd_some, if_neg (nI_ge hc (by decide))]
  simp only [md_deepN h, ez_bd_some, ez_nzn h6, ez_let_eq]
  rw [pk_div (by omega) (by decide) (by decide), pk_rem (by omega) (by decide) (by decide), ev_abs (Nat.mod_lt _ (by decide)) he, ez_bd_some, nI_1]
  have hd : ev_d (v / 6 % 6) e < 12 := by unfold ev_d; omega
  by_cases q : ev_d (v / 6 % 6) e ≤ f
  · rw [if_pos (nI_le q (by omega)), if_pos q]
  · rw [if_neg (nI_ge (by omega) (by omega)), if_neg q]
/-- whether neighbouring cuts of a number are at most so far apart -/
def ev_lg (k f : Nat) : Bool := Nat.ble (ev_d (k / 6 % 6) (k % 6)) f && (Nat.ble (ev_d (k / 6 / 6 % 6) (k / 6 % 6)) f && (Nat.ble (ev_d (k / 6 / 6 / 6 % 6) (k / 6 / 6 % 6)) f && Nat.ble (ev_d (k / 6 / 6 / 6 / 6 % 6) (k / 6 / 6 / 6 % 6)) f))
theorem ez_fix1 {T : Type} (bot : T) (F : T → T) (n : Nat) : ez_fix bot F (n + 1) = F (ez_fix bot F n) := rfl
theorem md_legalBy {σ : ez_H} (h : ev_MF σ) {k f : Nat} (hk : k < 7776) (hf : f < 6) : z_X12_isLegalBy σ 170 (nI k) (nI f) = some (if ev_lg k f = true then 1 else 0) := by
  unfold z_X12_isLegalBy
  have h6 : ¬ nI 6 = 0 := by decide +kernel
  rw [ez_bdo (ev_m0 h), md_deepN h, ez_bd_some, ez_nzn h6, ez_let_eq, pk_rem (by omega) (by decide) (by decide)]
  have e1 : (1 : Int32) = nI 1 := by decide +kernel
  rw [e1, show ez_N = 16379 + 1 + 1 + 1 + 1 + 1 from rfl, ez_fix1, md_lbs h _ hk (Nat.mod_lt _ (by decide)) hf (by decide)]
  have q1 : (Nat.ble (ev_d (k / 6 % 6) (k % 6)) f = true) = (ev_d (k / 6 % 6) (k % 6) ≤ f) := Nat.ble_eq
  have q2 : (Nat.ble (ev_d (k / 6 / 6 % 6) (k / 6 % 6)) f = true) = (ev_d (k / 6 / 6 % 6) (k / 6 % 6) ≤ f) := Nat.ble_eq
  have q3 : (Nat.ble (ev_d (k / 6 / 6 / 6 % 6) (k / 6 / 6 % 6)) f = true) = (ev_d (k / 6 / 6 / 6 % 6) (k / 6 / 6 % 6) ≤ f) := Nat.ble_eq
  have q4 : (Nat.ble (ev_d (k / 6 / 6 / 6 / 6 % 6) (k / 6 / 6 / 6 % 6)) f = true) = (ev_d (k / 6 / 6 / 6 / 6 % 6) (k / 6 / 6 / 6 % 6) ≤ f) := Nat.ble_eq
  unfold ev_lg
  simp only [Bool.and_eq_true, q1, q2, q3, q4]
  by_cases c1 : ev_d (k / 6 % 6) (k % 6) ≤ f
  · rw [if_pos c1, ez_fix1, md_lbs h _ (by omega) (Nat.mod_lt _ (by decide)) hf (by decide)]
    by_cases c2 : ev_d (k / 6 / 6 % 6) (k / 6 % 6) ≤ f
    · rw [if_pos c2, ez_fix1, md_lbs h _ (by omega) (Nat.mod_lt _ (by decide)) hf (by decide)]
      by_cases c3 : ev_d (k / 6 / 6 / 6 % 6) (k / 6 / 6 % 6) ≤ f
      · rw [if_pos c3, ez_fix1, md_lbs h _ (by omega) (Nat.mod_lt _ (by decide)) hf (by decide)]
        by_cases c4 : ev_d (k / 6 / 6 / 6 / 6 % 6) (k / 6 / 6 / 6 % 6) ≤ f
        · rw [if_pos c4, ez_fix1, if_pos ⟨c1, c2, c3, c4⟩]
          unfold z_X12_isLegalBy_13
          rw [md_wideN h, ez_bd_some, if_pos (Int32.le_refl _)]
          exact congrArg some e1
        · rw [if_neg c4, if_neg (fun q => c4 q.2.2.2)]
      · rw [if_neg c3, if_neg (fun q => c3 q.2.2.1)]
    · rw [if_neg c2, if_neg (fun q => c2 q.2.1)]
  · rw [if_neg c1, if_neg (fun q => c1 q.1)]
theorem ev_lg5 (k : Nat) : ev_lg k 5 = true := by
  have key : ∀ a b : Nat, Nat.ble (ev_d (a % 6) (b % 6)) 5 = true := fun a b => by
    rw [Nat.ble_eq]
    unfold ev_d
    omega
  unfold ev_lg
  rw [key, key, key, key]
  rfl
theorem md_legal {σ : ez_H} (h : ev_MF σ) {k : Nat} (hk : k < 7776) : z_X12_isLegal σ 170 (nI k) = some 1 := by
  unfold z_X12_isLegal
  rw [ez_bdo (ev_m0 h), md_bit h, ez_bd_some, ez_let_eq, show nI 7776 - 1 = nI 7775 from nI_pred 7775]
  have e0 : z_X12_isIn σ (nI k) 0 (nI 7775) = some 1 := md_inY (nI_pos (by omega)) (nI_nlt (by omega) (by decide))
  rw [e0, ez_bd_some, if_neg (by decide)]
  have e1 : z_X12_isLegalBy σ 170 (nI k) 5 = some 1 := by
    have := md_legalBy h hk (f := 5) (by decide)
    rw [ev_lg5, if_pos rfl] at this
    exact this
  simp only [ev_md h, ez_bd_some]
  rw [e1, ez_bd_some, if_neg (by decide)]
  unfold z_X12_isLegal_36
  rw [ez_nr1]
theorem md_illegal {σ : ez_H} (h : ev_MF σ) {b : Int32} (hb : b < 0 ∨ nI 7775 < b) : z_X12_isLegal σ 170 b = some 0 := by
  unfold z_X12_isLegal
  rw [ez_bdo (ev_m0 h), md_bit h, ez_bd_some, ez_let_eq, show nI 7776 - 1 = nI 7775 from nI_pred 7775, md_inN hb, ez_bd_some, if_pos rfl]
  unfold z_X12_isLegal_35 z_X12_isLegal_36
  rw [ez_nr0]
theorem ev_split (b : Int32) : (b < 0 ∨ nI 7775 < b) ∨ ∃ k, k < 7776 ∧ b = nI k := by
  rcases pk_ix b (n := 7776) (by decide) with q | q | ⟨j, hj, e⟩
  · exact Or.inl (Or.inl q)
  · refine Or.inl (Or.inr ?_)
    rw [Int32.lt_iff_toInt_lt, nI_toInt (by decide)]
    rw [Int32.le_iff_toInt_le, nI_toInt (by decide)] at q
    omega
  · exact Or.inr ⟨j, hj, e⟩
