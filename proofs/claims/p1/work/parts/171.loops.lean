theorem ev_pos {n m : Nat} (h : m < n) : ∃ j, n = j + 1 := ⟨n - 1, by omega⟩
/-- how many of the numbers from k on, m of them, are such -/
def ev_ct (f : Nat) : Nat → Nat → Nat
  | _, 0 => 0
  | k, m + 1 => (if ev_lg k f = true then 1 else 0) + ev_ct f (k + 1) m
def ev_ca (f : Nat) : Nat → Nat → Nat → Nat
  | 0, _, a => a
  | m + 1, k, a => ez_nf (k + 1) (fun k1 => ez_nf (bif ev_lg k f then a + 1 else a) (fun a1 => ev_ca f m k1 a1))
theorem ev_ca_eq (f : Nat) : ∀ m k a, ev_ca f m k a = a + ev_ct f k m
  | 0, _, _ => rfl
  | m + 1, k, a => by
    rw [ev_ca, ez_nf_eq, ez_nf_eq, ev_ca_eq f m, ev_ct]
    cases ev_lg k f with
    | true => rw [cond_true, if_pos rfl]; omega
    | false => rw [cond_false, if_neg (by decide)]; omega
theorem md_ml {σ : ez_H} (h : ev_MF σ) {f : Nat} (hf : f < 6) : ∀ m n k c, k + m = 7776 → m < n → ez_fix (fun _ _ _ _ => none) (z_X12_manyLegal_4 σ) n 170 (nI f) (nI c) (nI k) = some (nI (c + ev_ct f k m)) := by
  intro m
  induction m with
  | zero =>
    intro n k c hk hn
    obtain ⟨j, rfl⟩ := ev_pos hn
    rw [ez_fix1]
    unfold z_X12_manyLegal_4
    rw [md_bit h, ez_bd_some, if_pos (nI_le (by omega) (by omega))]
    rfl
  | succ m ih =>
    intro n k c hk hn
    obtain ⟨j, rfl⟩ := ev_pos hn
    rw [ez_fix1]
    generalize hK : ez_fix (fun _ _ _ _ => none) (z_X12_manyLegal_4 σ) j = K
    unfold z_X12_manyLegal_4 z_X12_manyLegal_24
    rw [md_bit h, ez_bd_some, if_neg (nI_ge (by omega) (by decide)), md_legalBy h (by omega) hf, ez_bd_some, ev_ct]
    by_cases q : ev_lg k f = true
    · rw [if_pos q, if_neg (by decide), ez_let_eq, ez_let_eq, nI_1, nI_1, ← hK, ih j (k + 1) (c + 1) (by omega) (by omega), if_pos q, Nat.add_assoc]
    · rw [if_neg q, if_pos rfl, ez_let_eq, nI_1, ← hK, ih j (k + 1) c (by omega) (by omega), if_neg q, Nat.zero_add]
theorem md_many7 {σ : ez_H} (h : ev_MF σ) {f : Nat} (hf : f < 6) : z_X12_manyLegal σ 170 (nI f) = some (nI (ev_ca f 7776 0 0)) := by
  unfold z_X12_manyLegal
  have e := md_ml h hf 7776 ez_N 0 0 (by decide) (by decide)
  rw [nI_0] at e
  rw [ez_bdo (ev_m0 h), e, ev_ca_eq]
theorem md_fit {σ : ez_H} (h : ev_MF σ) {k : Nat} (hk : k < 7776) (t : Int32) : z_X12_doesFit σ 170 (nI k) t = some 1 := by
  unfold z_X12_doesFit
  rw [ez_bdo (ev_m0 h), md_legal h hk, ez_bd_some, if_neg (by decide), ez_fixN]
  unfold z_X12_doesFit_12
  simp only [ev_md h, ez_bd_some]
  rw [if_pos (Int32.le_refl 0)]
theorem md_op {σ : ez_H} (h : ev_MF σ) : ∀ m n k c, k + m = 7776 → m < n → ez_fix (fun _ _ _ _ => none) (z_X12_openers_4 σ) n 170 0 (nI c) (nI k) = some (nI (c + m)) := by
  intro m
  induction m with
  | zero =>
    intro n k c hk hn
    obtain ⟨j, rfl⟩ := ev_pos hn
    rw [ez_fix1]
    unfold z_X12_openers_4
    rw [md_bit h, ez_bd_some, if_pos (nI_le (by omega) (by omega))]
    rfl
  | succ m ih =>
    intro n k c hk hn
    obtain ⟨j, rfl⟩ := ev_pos hn
    rw [ez_fix1]
    generalize hK : ez_fix (fun _ _ _ _ => none) (z_X12_openers_4 σ) j = K
    unfold z_X12_openers_4 z_X12_openers_34
    rw [md_bit h, ez_bd_some, if_neg (nI_ge (by omega) (by decide)), md_legal h (by omega), ez_bd_some, if_neg (by decide), md_opened h, ez_bd_some, ez_let_eq, if_pos (by decide), ez_let_eq, ez_let_eq, nI_1, nI_1, ← hK, ih j (k + 1) (c + 1) (by omega) (by omega), show c + 1 + m = c + (m + 1) by omega]
theorem md_openers {σ : ez_H} (h : ev_MF σ) : z_X12_openers σ 170 0 = some (nI 7776) := by
  unfold z_X12_openers
  have e := md_op h 7776 ez_N 0 0 (by decide) (by decide)
  rw [nI_0] at e
  rw [ez_bdo (ev_m0 h), e]
theorem md_bl {σ : ez_H} (h : ev_MF σ) : ∀ m n k c, k + m = 7776 → m < n → ez_fix (fun _ _ _ => none) (z_X12_blanks_4 σ) n 170 (nI c) (nI k) = some (nI (c + m)) := by
  intro m
  induction m with
  | zero =>
    intro n k c hk hn
    obtain ⟨j, rfl⟩ := ev_pos hn
    rw [ez_fix1]
    unfold z_X12_blanks_4
    rw [md_bit h, ez_bd_some, if_pos (nI_le (by omega) (by omega))]
    rfl
  | succ m ih =>
    intro n k c hk hn
    obtain ⟨j, rfl⟩ := ev_pos hn
    rw [ez_fix1]
    generalize hK : ez_fix (fun _ _ _ => none) (z_X12_blanks_4 σ) j = K
    unfold z_X12_blanks_4 z_X12_blanks_31
    rw [md_bit h, ez_bd_some, if_neg (nI_ge (by omega) (by decide)), md_legal h (by omega), ez_bd_some, if_neg (by decide), md_opened h, ez_bd_some, if_pos rfl, ez_let_eq, ez_let_eq, nI_1, nI_1, ← hK, ih j (k + 1) (c + 1) (by omega) (by omega), show c + 1 + m = c + (m + 1) by omega]
theorem md_blanks {σ : ez_H} (h : ev_MF σ) : z_X12_blanks σ 170 = some (nI 7776) := by
  unfold z_X12_blanks
  have e := md_bl h 7776 ez_N 0 0 (by decide) (by decide)
  rw [nI_0] at e
  rw [ez_bdo (ev_m0 h), e]
theorem md_fi {σ : ez_H} (h : ev_MF σ) (t : Int32) : ∀ m n k c, k + m = 7776 → m < n → ez_fix (fun _ _ _ _ => none) (z_X12_fits_4 σ) n 170 t (nI c) (nI k) = some (nI (c + m)) := by
  intro m
  induction m with
  | zero =>
    intro n k c hk hn
    obtain ⟨j, rfl⟩ := ev_pos hn
    rw [ez_fix1]
    unfold z_X12_fits_4
    rw [md_bit h, ez_bd_some, if_pos (nI_le (by omega) (by omega))]
    rfl
  | succ m ih =>
    intro n k c hk hn
    obtain ⟨j, rfl⟩ := ev_pos hn
    rw [ez_fix1]
    generalize hK : ez_fix (fun _ _ _ _ => none) (z_X12_fits_4 σ) j = K
    unfold z_X12_fits_4 z_X12_fits_24
    rw [md_bit h, ez_bd_some, if_neg (nI_ge (by omega) (by decide)), md_fit h (by omega), ez_bd_some, if_neg (by decide), ez_let_eq, ez_let_eq, nI_1, nI_1, ← hK, ih j (k + 1) (c + 1) (by omega) (by omega), show c + 1 + m = c + (m + 1) by omega]
theorem md_fits {σ : ez_H} (h : ev_MF σ) (t : Int32) : z_X12_fits σ 170 t = some (nI 7776) := by
  unfold z_X12_fits
  have e := md_fi h t 7776 ez_N 0 0 (by decide) (by decide)
  rw [nI_0] at e
  rw [ez_bdo (ev_m0 h), e]
theorem md_areLocks {σ : ez_H} (h : ev_MF σ) (x : Int32) : z_X12_areLocks σ 170 x = some (if x = 0 then 1 else 0) := by
  unfold z_X12_areLocks z_X12_areLocks_20
  rw [ez_bdo (ev_m0 h), md_bolts h, ez_bd_some]
  simp only [ez_let_eq, ez_nr0, ez_nr1]
  have e : x &&& ((1 : Int32) <<< ((0 : Int32) &&& 31) - 1 ^^^ -1) = x := by
    rw [show ((1 : Int32) <<< ((0 : Int32) &&& 31) - 1 ^^^ -1) = -1 from by decide +kernel]
    exact Int32.and_neg_one
  rw [e]
  by_cases q : x = 0
  · rw [if_pos q, if_pos q]
  · rw [if_neg q, if_neg q]
theorem md_cutFor {σ : ez_H} (h : ev_MF σ) (x y : Int32) : z_X12_cutFor σ 170 x y = some (if x = 0 ∧ y = 0 then 0 else -1) := by
  unfold z_X12_cutFor
  rw [ez_bdo (ev_m0 h), md_areLocks h, ez_bd_some]
  by_cases q : x = 0
  · rw [if_pos q, if_neg (by decide), md_areLocks h, ez_bd_some]
    by_cases q2 : y = 0
    · rw [if_pos q2, if_neg (by decide), if_pos ⟨q, q2⟩, ez_fixN]
      generalize ez_fix (fun _ _ _ _ => none) (z_X12_cutFor_20 σ) 16383 = K
      unfold z_X12_cutFor_20 z_X12_cutFor_45
      have e0 : z_X12_isLegal σ 170 0 = some 1 := nI_0 ▸ md_legal h (k := 0) (by decide)
      rw [md_bit h, ez_bd_some, if_neg (by decide +kernel), e0, ez_bd_some, if_neg (by decide), md_opened h, ez_bd_some, ez_bd_some, if_neg (by decide), ez_let_eq, q, q2, if_pos (by decide), ez_let_eq, if_pos (by decide)]
    · rw [if_neg q2, if_pos rfl, if_neg (fun e => q2 e.2)]
      rfl
  · rw [if_neg q, if_pos rfl, if_neg (fun e => q e.1)]
    rfl
theorem md_ms {σ : ez_H} (h : ev_MF σ) (w : Int32) : ∀ m n k, k + m = 7776 → m < n → ez_fix (fun _ _ _ _ _ => none) (z_X12_master_18 σ) n 170 w 0 0 (nI k) = some 0 := by
  intro m
  have hb : z_X12_bitsOf σ 0 = some 0 := by
    unfold z_X12_bitsOf
    rw [ez_fixN]
    unfold z_X12_bitsOf_4
    rw [if_pos rfl]
  induction m with
  | zero =>
    intro n k hk hn
    obtain ⟨j, rfl⟩ := ev_pos hn
    rw [ez_fix1]
    unfold z_X12_master_18 z_X12_master_93
    rw [md_bit h, ez_bd_some, if_pos (nI_le (by omega) (by omega)), md_opened h, ez_bd_some]
    split
    · rfl
    · split <;> rfl
  | succ m ih =>
    intro n k hk hn
    obtain ⟨j, rfl⟩ := ev_pos hn
    rw [ez_fix1]
    generalize hK : ez_fix (fun _ _ _ _ _ => none) (z_X12_master_18 σ) j = K
    unfold z_X12_master_18 z_X12_master_65
    rw [md_bit h, ez_bd_some, if_neg (nI_ge (by omega) (by decide)), md_legal h (by omega), ez_bd_some, if_neg (by decide), md_opened h, ez_bd_some, hb, ez_bd_some, if_neg (by decide), ez_let_eq, nI_1]
    rw [← hK]
    exact ih j (k + 1) (by omega) (by omega)
theorem md_master {σ : ez_H} (h : ev_MF σ) {w : Int32} (h1 : ¬ w < 0) (h2 : ¬ (2 : Int32) < w) : z_X12_master σ 170 w = some 0 := by
  unfold z_X12_master
  have hb : z_X12_bitsOf σ 0 = some 0 := by
    unfold z_X12_bitsOf
    rw [ez_fixN]
    unfold z_X12_bitsOf_4
    rw [if_pos rfl]
  rw [ez_bdo (ev_m0 h), md_inY h1 h2, ez_bd_some, if_neg (by decide), ez_fixN]
  generalize hK : ez_fix (fun _ _ _ _ _ => none) (z_X12_master_18 σ) 16383 = K
  unfold z_X12_master_18 z_X12_master_65
  have e0 : z_X12_isLegal σ 170 0 = some 1 := nI_0 ▸ md_legal h (k := 0) (by decide)
  rw [md_bit h, ez_bd_some, if_neg (by decide +kernel), e0, ez_bd_some, if_neg (by decide), md_opened h, ez_bd_some, hb, ez_bd_some, if_pos (by decide), ez_bd_some, hb, ez_bd_some, ez_let_eq, show (0 : Int32) + 1 = nI 1 from by decide +kernel]
  rw [← hK]
  exact md_ms h w 7775 16383 1 (by decide) (by decide)
theorem md_bt {σ : ez_H} (h : ev_MF σ) {x : Int32} (hx : ¬ x < 0) : ∀ m n k q, k + m = 7776 → m < n → q < 2 ^ 31 → ez_fix (fun _ _ _ _ => none) (z_X12_bitting_4 σ) n 170 x (nI q) (nI k) = if q < m then some (nI (k + q)) else some (-1) := by
  intro m
  induction m with
  | zero =>
    intro n k q hk hn hq
    obtain ⟨j, rfl⟩ := ev_pos hn
    rw [ez_fix1]
    unfold z_X12_bitting_4 z_X12_bitting_42
    rw [md_bit h, ez_bd_some, if_pos (nI_le (by omega) (by omega)), if_neg (by omega)]
  | succ m ih =>
    intro n k q hk hn hq
    obtain ⟨j, rfl⟩ := ev_pos hn
    rw [ez_fix1]
    generalize hK : ez_fix (fun _ _ _ _ => none) (z_X12_bitting_4 σ) j = K
    unfold z_X12_bitting_4 z_X12_bitting_36
    rw [md_bit h, ez_bd_some, if_neg (nI_ge (by omega) (by decide)), if_neg hx, md_legal h (by omega), ez_bd_some, if_neg (by decide)]
    cases q with
    | zero => rw [nI_0, if_pos rfl, if_pos (by omega)]; rfl
    | succ q =>
      rw [if_neg (nI_ne0 (by omega) (by omega)), ez_let_eq, ez_let_eq, pk_m1, nI_1, ← hK, ih j (k + 1) q (by omega) (by omega) (by omega)]
      by_cases e : q < m
      · rw [if_pos e, if_pos (by omega), show k + 1 + q = k + (q + 1) by omega]
      · rw [if_neg e, if_neg (by omega)]
theorem md_bitting {σ : ez_H} (h : ev_MF σ) (i : Int32) : z_X12_bitting σ 170 i = some (if i < 0 ∨ nI 7775 < i then -1 else i) := by
  unfold z_X12_bitting
  rw [ez_bdo (ev_m0 h)]
  rcases Classical.em (i < 0) with q | q
  · rw [if_pos (Or.inl q), ez_fixN]
    unfold z_X12_bitting_4 z_X12_bitting_42
    rw [md_bit h, ez_bd_some, if_neg (by decide +kernel), if_pos q]
  · obtain ⟨j, hj, rfl⟩ := nI_of q
    have e := md_bt h q 7776 ez_N 0 j (by decide) (by decide) hj
    rw [nI_0] at e
    rw [e]
    by_cases c : j < 7776
    · rw [if_pos c, if_neg, Nat.zero_add]
      intro c2
      rcases c2 with c2 | c2
      · exact q c2
      · exact nI_nlt (show j ≤ 7775 by omega) (by decide) c2
    · rw [if_neg c, if_pos (Or.inr (nI_lt (by omega) hj))]
theorem md_rk {σ : ez_H} (h : ev_MF σ) {q : Nat} (hq : q < 7776) : ∀ m n k c, k + m = q → m < n → ez_fix (fun _ _ _ _ => none) (z_X12_rank_14 σ) n 170 (nI q) (nI c) (nI k) = some (nI (c + m)) := by
  intro m
  induction m with
  | zero =>
    intro n k c hk hn
    obtain ⟨j, rfl⟩ := ev_pos hn
    rw [ez_fix1]
    unfold z_X12_rank_14
    rw [if_pos (nI_le (by omega) (by omega))]
    rfl
  | succ m ih =>
    intro n k c hk hn
    obtain ⟨j, rfl⟩ := ev_pos hn
    rw [ez_fix1]
    generalize hK : ez_fix (fun _ _ _ _ => none) (z_X12_rank_14 σ) j = K
    unfold z_X12_rank_14 z_X12_rank_30
    rw [if_neg (nI_ge (by omega) (by omega)), md_legal h (by omega), ez_bd_some, if_neg (by decide), ez_let_eq, ez_let_eq, nI_1, nI_1, ← hK, ih j (k + 1) (c + 1) (by omega) (by omega), show c + 1 + m = c + (m + 1) by omega]
theorem md_rank {σ : ez_H} (h : ev_MF σ) {q : Nat} (hq : q < 7776) : z_X12_rank σ 170 (nI q) = some (nI q) := by
  unfold z_X12_rank
  have e := md_rk h hq q ez_N 0 0 (by omega) (by show q < 16384; omega)
  rw [nI_0] at e
  rw [ez_bdo (ev_m0 h), md_legal h hq, ez_bd_some, if_neg (by decide), e, Nat.zero_add]
theorem md_rankN {σ : ez_H} (h : ev_MF σ) {b : Int32} (hb : b < 0 ∨ nI 7775 < b) : z_X12_rank σ 170 b = some (-1) := by
  unfold z_X12_rank
  rw [ez_bdo (ev_m0 h), md_illegal h hb, ez_bd_some, if_pos rfl]
theorem md_pow {σ : ez_H} {j : Nat} (hj : j < 5) : z_X12_power σ (nI 6) (nI 5 - 1 - nI j) = some (nI (6 ^ (4 - j))) := by
  have h : ∀ j : Nat, j < 5 → z_X12_power [] (nI 6) (nI 5 - 1 - nI j) = some (nI (6 ^ (4 - j))) := by decide +kernel
  exact h j hj
theorem ev_pw {j : Nat} (hj : j < 5) : 0 < 6 ^ (4 - j) ∧ 6 ^ (4 - j) < 1297 := by
  have h : ∀ j : Nat, j < 5 → 0 < 6 ^ (4 - j) ∧ 6 ^ (4 - j) < 1297 := by decide
  exact h j hj
theorem md_cutIn {σ : ez_H} (h : ev_MF σ) {j b : Nat} (hj : j < 5) (hb : b < 7776) : z_X12_cutIn σ 170 (nI b) (nI j) = some (nI (b / 6 ^ (4 - j) % 6)) := by
  obtain ⟨p1, p2⟩ := ev_pw hj
  unfold z_X12_cutIn
  have h6 : ¬ nI 6 = 0 := by decide +kernel
  have e : b / 6 ^ (4 - j) ≤ b := Nat.div_le_self _ _
  simp only [ez_bdo (ev_m0 h), md_deepN h, md_wideN h, ez_bd_some, ez_let_eq, md_pow hj, ez_nzn h6, ez_nzn (nI_ne0 p1 (by omega))]
  rw [pk_div (by omega) p1 (by omega), pk_rem (by omega) (by decide) (by decide)]
theorem md_su {σ : ez_H} (h : ev_MF σ) {j : Nat} (hj : j < 5) (t : Int32) : ∀ m n b, b + m = 6 ^ (4 - j) → m < n → ez_fix (fun _ _ _ _ _ => none) (z_X12_sure_15 σ) n 170 (nI j) t 0 (nI b) = some (-2) := by
  obtain ⟨p1, p2⟩ := ev_pw hj
  intro m
  induction m with
  | zero =>
    intro n b hk hn
    obtain ⟨i, rfl⟩ := ev_pos hn
    rw [ez_fix1]
    unfold z_X12_sure_15
    have e : b / 6 ^ (4 - j) % 6 = 1 := by
      rw [show b = 6 ^ (4 - j) by omega, Nat.div_self p1]
    rw [md_bit h, ez_bd_some, if_neg (nI_ge (by omega) (by decide)), md_fit h (by omega), ez_bd_some, if_neg (by decide), if_neg (by decide), md_cutIn h hj (by omega), ez_bd_some, e, if_neg (by decide +kernel)]
  | succ m ih =>
    intro n b hk hn
    obtain ⟨i, rfl⟩ := ev_pos hn
    rw [ez_fix1]
    generalize hK : ez_fix (fun _ _ _ _ _ => none) (z_X12_sure_15 σ) i = K
    unfold z_X12_sure_15 z_X12_sure_55 z_X12_sure_63
    have e : b / 6 ^ (4 - j) % 6 = 0 := by
      rw [Nat.div_eq_of_lt (by omega)]
    rw [md_bit h, ez_bd_some, if_neg (nI_ge (by omega) (by decide)), md_fit h (by omega), ez_bd_some, if_neg (by decide), if_neg (by decide), md_cutIn h hj (by omega), ez_bd_some, e, nI_0, if_pos rfl, ez_bd_some, ez_let_eq, nI_1]
    rw [← hK]
    exact ih i (b + 1) (by omega) (by omega)
theorem md_sure {σ : ez_H} (h : ev_MF σ) {j : Nat} (hj : j < 5) (t : Int32) : z_X12_sure σ 170 (nI j) t = some (-2) := by
  obtain ⟨p1, p2⟩ := ev_pw hj
  have ei : z_X12_isChamber σ 170 (nI j) = some 1 := by
    unfold z_X12_isChamber
    rw [ez_bdo (ev_m0 h), md_wideN h, ez_bd_some, ez_let_eq, show nI 5 - 1 = nI 4 from nI_pred 4, md_inY (nI_pos (by omega)) (nI_nlt (by omega) (by decide)), ez_bd_some, ez_nr1]
  unfold z_X12_sure
  rw [ez_bdo (ev_m0 h), ei, ez_bd_some, if_neg (by decide), ez_fixN]
  generalize hK : ez_fix (fun _ _ _ _ _ => none) (z_X12_sure_15 σ) 16383 = K
  unfold z_X12_sure_15 z_X12_sure_55 z_X12_sure_63
  have e0 : z_X12_doesFit σ 170 0 t = some 1 := nI_0 ▸ md_fit h (k := 0) (by decide) t
  have e1 : z_X12_cutIn σ 170 0 (nI j) = some 0 := by
    have e := md_cutIn h hj (b := 0) (by decide)
    rw [nI_0, Nat.zero_div, Nat.zero_mod, nI_0] at e
    exact e
  rw [md_bit h, ez_bd_some, if_neg (by decide +kernel), e0, ez_bd_some, if_neg (by decide), if_pos (by decide), e1, ez_bd_some, ez_let_eq, show (0 : Int32) + 1 = nI 1 from by decide +kernel]
  rw [← hK]
  exact md_su h hj t (6 ^ (4 - j) - 1) 16383 1 (by omega) (by omega)
theorem md_sureN {σ : ez_H} (h : ev_MF σ) {c : Int32} (hc : c < 0 ∨ nI 4 < c) (t : Int32) : z_X12_sure σ 170 c t = some (-1) := by
  have ei : z_X12_isChamber σ 170 c = some 0 := by
    unfold z_X12_isChamber
    rw [ez_bdo (ev_m0 h), md_wideN h, ez_bd_some, ez_let_eq, show nI 5 - 1 = nI 4 from nI_pred 4, md_inN hc, ez_bd_some, ez_nr0]
  unfold z_X12_sure
  rw [ez_bdo (ev_m0 h), ei, ez_bd_some, if_pos rfl]
theorem md_ask {σ : ez_H} (h : ev_MF σ) (w t : Int32) : z_X12_ask σ 170 w t = some (-1) := by
  unfold z_X12_ask z_X12_ask_24
  rw [ez_bdo (ev_m0 h), md_bolts h]
  by_cases q : w < 0 ∨ (1 : Int32) < w
  · rw [md_inN q, ez_bd_some, if_pos rfl]
  · rw [md_inY (fun e => q (Or.inl e)) (fun e => q (Or.inr e)), ez_bd_some, if_neg (by decide), ez_bd_some, if_pos rfl]
