/-! The book: the class's run worked out once, and the reference beside it. -/
def bk_C : List Nat := [0, 7, 14, 21, 28, 35, 37, 42, 51, 56, 65, 70, 74, 81, 84, 91, 111, 116, 121, 126, 148, 155, 168, 175, 185, 190, 205, 210, 217, 222, 231, 236, 245, 250, 252, 259, 266, 273, 280, 287, 291, 296, 301, 306, 326, 333, 336, 343, 365, 370, 385, 390, 400, 407, 420, 427, 434, 441, 444, 451]
def bk_q (o : Option Int32) (r : Int32) : Bool := match o with
  | some x => ez_qI x r
  | none => false
theorem bk_q_eq {o : Option Int32} {r : Int32} (h : bk_q o r = true) : o = some r := by
  unfold bk_q at h
  split at h
  · rw [ez_qI_eq _ _ h]
  · cases h
/-- only the row of the book is written -/
def bk_I (σ : ez_H) : Prop := ∀ j, j ≠ 169 → ez_at σ j = ez_at ev_s0 j
theorem bk_MF {σ : ez_H} (h : bk_I σ) : ev_MF σ := fun j hj => h j (by omega)
theorem bk_at {σ σ1 : ez_H} {t a : Nat} {i x : Int32} (h : ez_is σ t a i x = some σ1) {j : Nat} (hj : j ≠ a) : ez_at σ1 j = ez_at σ j := by
  obtain ⟨n, l, -, -, e⟩ := ez_is_sp h
  rw [e, ez_at_eq, ez_at_eq, List.getElem?_set_ne (fun q => hj q.symm)]
theorem bk_I1 {σ σ1 : ez_H} {i x : Int32} (h : ez_is σ 1 169 i x = some σ1) (h0 : bk_I σ) : bk_I σ1 := fun j hj => (bk_at h hj).trans (h0 j hj)
theorem bk_ob {σ : ez_H} (h : bk_I σ) {ci a : Nat} (ha : a ≠ 169) : ez_ob σ ci a = ez_ob ev_s0 ci a := by unfold ez_ob; rw [h a ha]
theorem bk_o0 {σ : ez_H} (h : bk_I σ) : ∃ fs, ez_ob σ 11 0 = some fs := by rw [bk_ob h (by decide)]; exact ev_o0
theorem bk_o26 {σ : ez_H} (h : bk_I σ) : ∃ fs, ez_ob σ 6 26 = some fs := by rw [bk_ob h (by decide)]; exact ev_o26
theorem bk_g4 {σ : ez_H} (h : bk_I σ) : ez_gr σ 11 0 4 = some 26 := by
  unfold ez_gr; rw [bk_ob h (by decide)]; exact (by decide +kernel : ez_gr ev_s0 11 0 4 = some 26)
theorem bk_g15 {σ : ez_H} (h : bk_I σ) : ez_gr σ 11 0 15 = some 169 := by
  unfold ez_gr; rw [bk_ob h (by decide)]; exact (by decide +kernel : ez_gr ev_s0 11 0 15 = some 169)
theorem bk_i0 {σ : ez_H} (h : bk_I σ) : ez_gi σ 6 26 0 = some (nI 5) := by
  unfold ez_gi; rw [bk_ob h (by decide)]; exact (by decide +kernel : ez_gi ev_s0 6 26 0 = some (nI 5))
theorem bk_i1 {σ : ez_H} (h : bk_I σ) : ez_gi σ 6 26 1 = some (nI 6) := by
  unfold ez_gi; rw [bk_ob h (by decide)]; exact (by decide +kernel : ez_gi ev_s0 6 26 1 = some (nI 6))
/-- the class's loop, worked out: the numbers still to come are l -/
noncomputable def bk_run : Nat → Nat → Nat → ez_H → List Nat → Bool
  | 0, _, _, _, l => (match l with | [] => true | _ :: _ => false)
  | _ + 1, _, _, _, [] => true
  | t + 1, b, w, σ, c :: l =>
    ez_fi (nI (ev_bn b)) fun x => ez_fi (nI (ev_bn (b + 1))) fun y => ez_fi (nI w) fun v =>
    bif Nat.beq b c then
      bk_q (z_X11_differsFromAll σ 0 x v) 1 && (match ez_is σ 1 169 v x with
        | some σ1 => bk_q (z_X6_after σ1 26 x) y && (bk_q (ez_ia σ1 1 169 v) x && ez_nf (b + 1) fun b1 => ez_nf (w + 1) fun w1 => bk_run t b1 w1 σ1 l)
        | none => false)
    else bk_q (z_X11_differsFromAll σ 0 x v) 0 && (bk_q (z_X6_after σ 26 x) y && ez_nf (b + 1) fun b1 => bk_run t b1 w σ (c :: l))
set_option maxRecDepth 100000 in
theorem bk_ran : bk_run 452 0 0 ev_s0 bk_C = true := by decide +kernel
theorem bk_cls : ∀ t b w σ l, bk_run t b w σ l = true → bk_I σ → b + t ≤ 452 → w + l.length ≤ 60 → ∀ n, w ≤ n → n < w + l.length → ∀ m, t < m →
    ∃ σ1, ez_fix (fun _ _ _ _ _ _ => none) z_X11_book_25 m σ 0 (nI n) (nI w) (nI (ev_bn b)) (nI b) = some (nI (l.getD (n - w) 0), σ1) ∧ bk_I σ1 := by
  intro t
  induction t with
  | zero =>
    intro b w σ l h hI hb hl n hn1 hn2 m hm
    cases l with
    | nil => simp at hn2; omega
    | cons c l => simp [bk_run] at h
  | succ t ih =>
    intro b w σ l h hI hb hl n hn1 hn2 m hm
    cases l with
    | nil => simp at hn2; omega
    | cons c l =>
      obtain ⟨j, rfl⟩ := ev_pos hm
      have hlen : (c :: l).length = l.length + 1 := rfl
      rw [hlen] at hl hn2
      obtain ⟨-, -, hp, hq⟩ := ev_cka (i := b) (by omega)
      obtain ⟨-, -, hp1, hq1⟩ := ev_cka (i := b + 1) (by omega)
      rw [bk_run, ez_fi_eq, ez_fi_eq, ez_fi_eq] at h
      rw [ez_fix1]
      generalize hK : ez_fix (fun _ _ _ _ _ _ => none) z_X11_book_25 j = K
      unfold z_X11_book_25 z_X11_book_61
      have e78 : ¬ (7776 : Int32) ≤ nI b := nI_ge (a := b) (b := 7776) (by omega) (by decide)
      rw [if_neg e78, if_neg (nI_ne0 hp hq), if_neg (nI_nlt hn1 (by omega))]
      cases hc : Nat.beq b c with
      | true =>
        rw [hc, cond_true, Bool.and_eq_true] at h
        obtain ⟨h1, h2⟩ := h
        split at h2
        · next σ1 hs =>
          rw [Bool.and_eq_true, Bool.and_eq_true, ez_nf_eq, ez_nf_eq] at h2
          obtain ⟨h3, h4, h5⟩ := h2
          have hI1 := bk_I1 hs hI
          rw [bk_q_eq h1, ez_bd_some, if_neg (by decide), bk_g15 hI, ez_bd_some, hs, ez_bd_some, ez_let_eq, bk_g4 hI1, ez_bd_some, bk_q_eq h3, ez_bd_some, ez_let_eq, nI_1, nI_1]
          by_cases hw : n = w
          · subst hw
            obtain ⟨j2, rfl⟩ := ev_pos (show 0 < j by omega)
            refine ⟨σ1, ?_, hI1⟩
            rw [← hK, ez_fix1]
            generalize ez_fix (fun _ _ _ _ _ _ => none) z_X11_book_25 j2 = K2
            unfold z_X11_book_25
            have e79 : ¬ (7776 : Int32) ≤ nI (b + 1) := nI_ge (a := b + 1) (b := 7776) (by omega) (by decide)
            rw [if_neg e79, if_neg (nI_ne0 hp1 hq1), if_pos (nI_lt (by omega) (by omega))]
            unfold z_X11_book_76 z_X11_book_98
            rw [if_neg (nI_ge (by omega) (by omega)), bk_g4 hI1, ez_bd_some, bk_g15 hI1, ez_bd_some, bk_q_eq h4, ez_bd_some, ev_num (bk_o26 hI1) (bk_i0 hI1) (bk_i1 hI1) (by omega), ez_bd_some, Nat.sub_self]
            rw [Nat.eq_of_beq_eq_true hc]
            rfl
          · obtain ⟨σ2, e, hI2⟩ := ih (b + 1) (w + 1) σ1 l h5 hI1 (by omega) (by omega) n (by omega) (by omega) j (by omega)
            refine ⟨σ2, ?_, hI2⟩
            rw [← hK, e, show n - w = n - (w + 1) + 1 by omega]
            rfl
        · cases h2
      | false =>
        rw [hc, cond_false, Bool.and_eq_true, Bool.and_eq_true, ez_nf_eq] at h
        obtain ⟨h1, h3, h5⟩ := h
        rw [bk_q_eq h1, ez_bd_some, if_pos rfl, bk_g4 hI, ez_bd_some, bk_q_eq h3, ez_bd_some, ez_let_eq, nI_1, ← hK]
        exact ih (b + 1) w σ (c :: l) h5 hI (by omega) (by rw [hlen]; omega) n hn1 (by rw [hlen]; omega) j (by omega)
theorem bk_lst : z_X6_least ev_s0 26 = some (nI (ev_bn 0)) := by decide +kernel
theorem bk_class {n : Nat} (hn : n < 60) : ∃ σ1, z_X11_book ev_s0 0 (nI n) = some (nI (bk_C.getD n 0), σ1) ∧ bk_I σ1 := by
  obtain ⟨σ1, e, hI⟩ := bk_cls 452 0 0 ev_s0 bk_C bk_ran (fun _ _ => rfl) (by decide) (by decide) n (by omega) (by show n < 0 + 60; omega) ez_N (by decide)
  refine ⟨σ1, ?_, hI⟩
  have h60 : nI n < (60 : Int32) := nI_lt (a := n) (b := 60) hn (by decide)
  unfold z_X11_book
  rw [ez_bdo ev_o0, if_neg (nI_pos (by omega)), if_pos h60, bk_g4 (fun _ _ => rfl), ez_bd_some, bk_lst, ez_bd_some]
  rw [nI_0] at e
  exact e
/-- the reference writes the row of its own book -/
def ev_MG (σ : ez_H) : Prop := ∀ j, 170 ≤ j → j ≠ 207 → ez_at σ j = ez_at ev_s0 j
theorem eg_ob {σ : ez_H} (h : ev_MG σ) {ci a : Nat} (ha : 170 ≤ a) (h2 : a ≠ 207) : ez_ob σ ci a = ez_ob ev_s0 ci a := by unfold ez_ob; rw [h a ha h2]
theorem eg_gi {σ : ez_H} (h : ev_MG σ) {ci a k : Nat} (ha : 170 ≤ a) (h2 : a ≠ 207) : ez_gi σ ci a k = ez_gi ev_s0 ci a k := by unfold ez_gi; rw [eg_ob h ha h2]
theorem eg_gr {σ : ez_H} (h : ev_MG σ) {ci a k : Nat} (ha : 170 ≤ a) (h2 : a ≠ 207) : ez_gr σ ci a k = ez_gr ev_s0 ci a k := by unfold ez_gr; rw [eg_ob h ha h2]
theorem eg_ia {σ : ez_H} (h : ev_MG σ) {t a : Nat} {i : Int32} (ha : 170 ≤ a) (h2 : a ≠ 207) : ez_ia σ t a i = ez_ia ev_s0 t a i := by unfold ez_ia; rw [h a ha h2]
theorem eg_m0 {σ : ez_H} (h : ev_MG σ) : (∃ fs, ez_ob σ 12 170 = some fs) := by rw [eg_ob h (by decide) (by decide)]; exact ⟨_, rfl⟩
theorem eg_md {σ : ez_H} (h : ev_MG σ) : ez_gr σ 12 170 11 = some 173 ∧ ez_gr σ 12 170 12 = some 174 ∧ ez_gr σ 12 170 13 = some 175 ∧ ez_gi σ 12 170 43 = some 0 ∧ ez_gr σ 12 170 55 = some 207 ∧ ez_ia σ 1 173 0 = some 5 ∧ ez_ia σ 1 174 0 = some 6 ∧ ez_ia σ 1 175 0 = some 5 :=
  ⟨(eg_gr h (by decide) (by decide)).trans (by decide +kernel), (eg_gr h (by decide) (by decide)).trans (by decide +kernel), (eg_gr h (by decide) (by decide)).trans (by decide +kernel), (eg_gi h (by decide) (by decide)).trans (by decide +kernel), (eg_gr h (by decide) (by decide)).trans (by decide +kernel), (eg_ia h (by decide) (by decide)).trans (by decide +kernel), (eg_ia h (by decide) (by decide)).trans (by decide +kernel), (eg_ia h (by decide) (by decide)).trans (by decide +kernel)⟩
theorem mg_wide {σ : ez_H} (h : ev_MG σ) : z_X12_wide σ 170 = some 5 := by simp only [z_X12_wide, ez_bdo (eg_m0 h), eg_md h, ez_bd_some]
theorem mg_deep {σ : ez_H} (h : ev_MG σ) : z_X12_deep σ 170 = some 6 := by simp only [z_X12_deep, ez_bdo (eg_m0 h), eg_md h, ez_bd_some]
theorem mg_deepN {σ : ez_H} (h : ev_MG σ) : z_X12_deep σ 170 = some (nI 6) := mg_deep h
theorem mg_wideN {σ : ez_H} (h : ev_MG σ) : z_X12_wide σ 170 = some (nI 5) := mg_wide h
theorem mg_bit {σ : ez_H} (h : ev_MG σ) : z_X12_bittings σ 170 = some (nI 7776) := by
  have h1 : z_X12_power [] 6 5 = some (nI 7776) := by decide +kernel
  have h2 : z_X12_power σ 6 5 = some (nI 7776) := h1
  unfold z_X12_bittings
  rw [ez_bdo (eg_m0 h), mg_deep h, ez_bd_some, mg_wide h, ez_bd_some, h2, ez_bd_some]
theorem mg_lbs {σ : ez_H} (h : ev_MG σ) (K : Nat → Int32 → Int32 → Int32 → Int32 → Option Int32) {v e c f : Nat} (hv : v < 7776) (he : e < 6) (hf : f < 6) (hc : c < 5) : z_X12_isLegalBy_13 σ K 170 (nI f) (nI v) (nI e) (nI c) = if ev_d (v / 6 % 6) e ≤ f then K 170 (nI f) (nI (v / 6)) (nI (v / 6 % 6)) (nI (c + 1)) else some 0 := by
  unfold z_X12_isLegalBy_13
  have h6 : ¬ nI 6 = 0 := by decide +kernel
  rw [mg_wideN h, ez_bd_some, if_neg (nI_ge hc (by decide))]
  simp only [mg_deepN h, ez_bd_some, ez_nzn h6, ez_let_eq]
  rw [pk_div (by omega) (by decide) (by decide), pk_rem (by omega) (by decide) (by decide), ev_abs (Nat.mod_lt _ (by decide)) he, ez_bd_some, nI_1]
  have hd : ev_d (v / 6 % 6) e < 12 := by unfold ev_d; omega
  by_cases q : ev_d (v / 6 % 6) e ≤ f
  · rw [if_pos (nI_le q (by omega)), if_pos q]
  · rw [if_neg (nI_ge (by omega) (by omega)), if_neg q]
theorem mg_legalBy {σ : ez_H} (h : ev_MG σ) {k f : Nat} (hk : k < 7776) (hf : f < 6) : z_X12_isLegalBy σ 170 (nI k) (nI f) = some (if ev_lg k f = true then 1 else 0) := by
  unfold z_X12_isLegalBy
  have h6 : ¬ nI 6 = 0 := by decide +kernel
  rw [ez_bdo (eg_m0 h), mg_deepN h, ez_bd_some, ez_nzn h6, ez_let_eq, pk_rem (by omega) (by decide) (by decide)]
  have e1 : (1 : Int32) = nI 1 := by decide +kernel
  rw [e1, show ez_N = 16379 + 1 + 1 + 1 + 1 + 1 from rfl, ez_fix1, mg_lbs h _ hk (Nat.mod_lt _ (by decide)) hf (by decide)]
  have q1 : (Nat.ble (ev_d (k / 6 % 6) (k % 6)) f = true) = (ev_d (k / 6 % 6) (k % 6) ≤ f) := Nat.ble_eq
  have q2 : (Nat.ble (ev_d (k / 6 / 6 % 6) (k / 6 % 6)) f = true) = (ev_d (k / 6 / 6 % 6) (k / 6 % 6) ≤ f) := Nat.ble_eq
  have q3 : (Nat.ble (ev_d (k / 6 / 6 / 6 % 6) (k / 6 / 6 % 6)) f = true) = (ev_d (k / 6 / 6 / 6 % 6) (k / 6 / 6 % 6) ≤ f) := Nat.ble_eq
  have q4 : (Nat.ble (ev_d (k / 6 / 6 / 6 / 6 % 6) (k / 6 / 6 / 6 % 6)) f = true) = (ev_d (k / 6 / 6 / 6 / 6 % 6) (k / 6 / 6 / 6 % 6) ≤ f) := Nat.ble_eq
  unfold ev_lg
  simp only [Bool.and_eq_true, q1, q2, q3, q4]
  by_cases c1 : ev_d (k / 6 % 6) (k % 6) ≤ f
  · rw [if_pos c1, ez_fix1, mg_lbs h _ (by omega) (Nat.mod_lt _ (by decide)) hf (by decide)]
    by_cases c2 : ev_d (k / 6 / 6 % 6) (k / 6 % 6) ≤ f
    · rw [if_pos c2, ez_fix1, mg_lbs h _ (by omega) (Nat.mod_lt _ (by decide)) hf (by decide)]
      by_cases c3 : ev_d (k / 6 / 6 / 6 % 6) (k / 6 / 6 % 6) ≤ f
      · rw [if_pos c3, ez_fix1, mg_lbs h _ (by omega) (Nat.mod_lt _ (by decide)) hf (by decide)]
        by_cases c4 : ev_d (k / 6 / 6 / 6 / 6 % 6) (k / 6 / 6 / 6 % 6) ≤ f
        · rw [if_pos c4, ez_fix1, if_pos ⟨c1, c2, c3, c4⟩]
          unfold z_X12_isLegalBy_13
          rw [mg_wideN h, ez_bd_some, if_pos (Int32.le_refl _)]
          exact congrArg some e1
        · rw [if_neg c4, if_neg (fun q => c4 q.2.2.2)]
      · rw [if_neg c3, if_neg (fun q => c3 q.2.2.1)]
    · rw [if_neg c2, if_neg (fun q => c2 q.2.1)]
  · rw [if_neg c1, if_neg (fun q => c1 q.1)]
theorem mg_legal {σ : ez_H} (h : ev_MG σ) {k : Nat} (hk : k < 7776) : z_X12_isLegal σ 170 (nI k) = some 1 := by
  unfold z_X12_isLegal
  rw [ez_bdo (eg_m0 h), mg_bit h, ez_bd_some, ez_let_eq, show nI 7776 - 1 = nI 7775 from nI_pred 7775]
  have e0 : z_X12_isIn σ (nI k) 0 (nI 7775) = some 1 := md_inY (nI_pos (by omega)) (nI_nlt (by omega) (by decide))
  rw [e0, ez_bd_some, if_neg (by decide)]
  have e1 : z_X12_isLegalBy σ 170 (nI k) 5 = some 1 := by
    have := mg_legalBy h hk (f := 5) (by decide)
    rw [ev_lg5, if_pos rfl] at this
    exact this
  simp only [eg_md h, ez_bd_some]
  rw [e1, ez_bd_some, if_neg (by decide)]
  unfold z_X12_isLegal_36
  rw [ez_nr1]
def bk_ne (a b : Nat) : Nat := bif Nat.beq (a % 6) (b % 6) then 0 else 1
theorem bk_ne1 (a b : Nat) : bk_ne a b ≤ 1 := by unfold bk_ne; cases Nat.beq (a % 6) (b % 6) <;> decide
def bk_d (a b : Nat) : Nat := ((((0 + bk_ne a b) + bk_ne (a / 6) (b / 6)) + bk_ne (a / 6 / 6) (b / 6 / 6)) + bk_ne (a / 6 / 6 / 6) (b / 6 / 6 / 6)) + bk_ne (a / 6 / 6 / 6 / 6) (b / 6 / 6 / 6 / 6)
theorem mg_aps {σ : ez_H} (h : ev_MG σ) (K : Nat → Int32 → Int32 → Int32 → Int32 → Option Int32) {d x y c : Nat} (hx : x < 7776) (hy : y < 7776) (hc : c < 5) : z_X12_isApart_11 σ K 170 (nI d) (nI x) (nI y) (nI c) = K 170 (nI (d + bk_ne x y)) (nI (x / 6)) (nI (y / 6)) (nI (c + 1)) := by
  have h6 : ¬ nI 6 = 0 := by decide +kernel
  unfold z_X12_isApart_11 z_X12_isApart_43
  rw [mg_wideN h, ez_bd_some, if_neg (nI_ge hc (by decide))]
  simp only [mg_deepN h, ez_bd_some, ez_nzn h6, ez_let_eq]
  rw [pk_div (by omega) (by decide) (by decide), pk_div (by omega) (by decide) (by decide)]
  have r1 : nI x - nI (x / 6) * nI 6 = nI (x % 6) := by rw [← pk_div (by omega) (by decide) (by decide)]; exact pk_rem (by omega) (by decide) (by decide)
  have r2 : nI y - nI (y / 6) * nI 6 = nI (y % 6) := by rw [← pk_div (by omega) (by decide) (by decide)]; exact pk_rem (by omega) (by decide) (by decide)
  rw [r1, r2, nI_1]
  have hxm := Nat.mod_lt x (show 0 < 6 by decide)
  have hym := Nat.mod_lt y (show 0 < 6 by decide)
  unfold bk_ne
  rw [ez_beq]
  by_cases q : x % 6 = y % 6
  · rw [if_pos (by rw [q]), decide_eq_true q, cond_true, ← nI_0, nI_add]
  · rw [if_neg (fun e => q ((nI_eq (by omega) (by omega)).mp e)), decide_eq_false q, cond_false, nI_1]
theorem mg_apart {σ : ez_H} (h : ev_MG σ) {x y : Nat} (hx : x < 7776) (hy : y < 7776) : z_X12_isApart σ 170 (nI x) (nI y) = some (if 2 ≤ bk_d x y then 1 else 0) := by
  unfold z_X12_isApart
  rw [ez_bdo (eg_m0 h), ← nI_0, show ez_N = 16378 + 1 + 1 + 1 + 1 + 1 + 1 from rfl, ez_fix1, mg_aps h _ hx hy (by decide), ez_fix1, mg_aps h _ (by omega) (by omega) (by decide), ez_fix1, mg_aps h _ (by omega) (by omega) (by decide), ez_fix1, mg_aps h _ (by omega) (by omega) (by decide), ez_fix1, mg_aps h _ (by omega) (by omega) (by decide), ez_fix1]
  generalize ez_fix (fun _ _ _ _ _ => none) (z_X12_isApart_11 σ) 16378 = K
  unfold z_X12_isApart_11 z_X12_isApart_79
  rw [mg_wideN h, ez_bd_some, if_pos (Int32.le_refl _)]
  have hd : bk_d x y ≤ 5 := by
    have a1 := bk_ne1 x y
    have a2 := bk_ne1 (x / 6) (y / 6)
    have a3 := bk_ne1 (x / 6 / 6) (y / 6 / 6)
    have a4 := bk_ne1 (x / 6 / 6 / 6) (y / 6 / 6 / 6)
    have a5 := bk_ne1 (x / 6 / 6 / 6 / 6) (y / 6 / 6 / 6 / 6)
    unfold bk_d
    omega
  show (if nI (bk_d x y) ≤ 1 then _ else _) = _
  by_cases q : 2 ≤ bk_d x y
  · have e : ¬ nI (bk_d x y) ≤ 1 := nI_ge (a := 1) (b := bk_d x y) (by omega) (by omega)
    rw [if_neg e, if_pos q, ez_nr1]
  · have e : nI (bk_d x y) ≤ 1 := nI_le (a := bk_d x y) (b := 1) (by omega) (by decide)
    rw [if_pos e, if_neg q, ez_nr0]
    exact congrArg some nI_0.symm
theorem ez_ble2 (a b : Nat) : Nat.ble a b = decide (a ≤ b) := by
  cases h : Nat.ble a b with
  | true => exact (decide_eq_true (Nat.le_of_ble_eq_true h)).symm
  | false => exact (decide_eq_false (fun q => by rw [Nat.ble_eq.mpr q] at h; cases h)).symm
def bk_ap (b : Nat) : List Nat → Bool
  | [] => true
  | c :: l => bif Nat.ble 2 (bk_d b c) then bk_ap b l else false
def bk_pr : Nat → Nat → List Nat → List Nat → Bool
  | 0, _, _, l => (match l with | [] => true | _ :: _ => false)
  | _ + 1, _, _, [] => true
  | t + 1, b, acc, c :: l =>
    bif Nat.beq b c then bk_ap b acc && ez_nf (b + 1) fun b1 => bk_pr t b1 (acc ++ [c]) l
    else (bif bk_ap b acc then false else true) && ez_nf (b + 1) fun b1 => bk_pr t b1 acc (c :: l)
set_option maxRecDepth 100000 in
theorem bk_prd : bk_pr 452 0 [] bk_C = true := by decide +kernel
/-- the reference's row holds acc -/
def bk_R (σ : ez_H) (acc : List Nat) : Prop := ev_MG σ ∧ (∃ l, ez_at σ 207 = some (.inl (1, 60, l))) ∧ (∀ k c, acc[k]? = some c → c < 7776 ∧ ez_ia σ 1 207 (nI k) = some (nI c))
theorem bk_ix {k : Nat} (h : k < 60) : ez_inb (nI k) 60 = true ∧ ez_ix (nI k) = k := by
  have e : ez_ix (nI k) = k := by
    unfold ez_ix nI
    rw [Int32.toBitVec_ofNat', BitVec.toNat_ofNat, Nat.mod_eq_of_lt (by omega)]
  refine ⟨?_, e⟩
  unfold ez_inb
  rw [e, Nat.blt_eq.mpr h]
  rfl
theorem bk_W {σ : ez_H} {acc : List Nat} (h : bk_R σ acc) (hl : acc.length < 60) {c : Nat} (hc : c < 7776) : ∃ σ1, ez_is σ 1 207 (nI acc.length) (nI c) = some σ1 ∧ bk_R σ1 (acc ++ [c]) := by
  obtain ⟨h1, ⟨l, h2⟩, h3⟩ := h
  obtain ⟨i1, i2⟩ := bk_ix hl
  have hs : ez_is σ 1 207 (nI acc.length) (nI c) = some (σ.set 207 (.inl (1, 60, ez_pw 1 l acc.length (nI c)))) := by
    unfold ez_is
    rw [h2]
    simp only [i1, i2, ez_pwK_eq, ez_setK_eq]
    rfl
  have hlt : 207 < σ.length := by
    rw [ez_at_eq] at h2
    exact (List.getElem?_eq_some_iff.mp h2).1
  have h4 : ez_at (σ.set 207 (.inl (1, 60, ez_pw 1 l acc.length (nI c)))) 207 = some (.inl (1, 60, ez_pw 1 l acc.length (nI c))) := by
    rw [ez_at_eq, List.getElem?_set_self hlt]
  refine ⟨_, hs, fun j hj hj2 => (bk_at hs hj2).trans (h1 j hj hj2), ⟨_, h4⟩, fun k d hk => ?_⟩
  have hk2 : k < acc.length + 1 := by
    have := (List.getElem?_eq_some_iff.mp hk).1
    simpa using this
  obtain ⟨k1, k2⟩ := bk_ix (k := k) (by omega)
  have hr : ez_ia (σ.set 207 (.inl (1, 60, ez_pw 1 l acc.length (nI c)))) 1 207 (nI k) = some (if k = acc.length then nI c else ez_get 0 l k) := by
    unfold ez_ia
    rw [h4]
    simp only [k1, k2, ez_get_pw]
    rfl
  rw [hr]
  by_cases q : k = acc.length
  · subst q
    rw [List.getElem?_append_right (Nat.le_refl _), Nat.sub_self] at hk
    cases hk
    exact ⟨hc, by rw [if_pos rfl]⟩
  · rw [List.getElem?_append_left (by omega)] at hk
    obtain ⟨d1, d2⟩ := h3 k d hk
    refine ⟨d1, ?_⟩
    rw [if_neg q, ← d2]
    unfold ez_ia
    rw [h2]
    simp only [k1, k2]
    rfl
theorem bk_in {σ : ez_H} {acc : List Nat} (h : bk_R σ acc) (hl : acc.length ≤ 60) {b : Nat} (hb : b < 7776) (n : Int32) (K : ez_H → Nat → Int32 → Int32 → Int32 → Option (Int32 × ez_H)) : ∀ suf pre, acc = pre ++ suf → ∀ m, suf.length < m →
    ez_fix (fun _ _ _ _ _ _ _ => none) (z_X12_book_39 K) m σ 170 n (nI acc.length) (nI b) 1 (nI pre.length) = z_X12_book_70 K σ 170 n (nI acc.length) (nI b) (if bk_ap b suf = true then 1 else 0) := by
  intro suf
  induction suf with
  | nil =>
    intro pre e m hm
    obtain ⟨j, rfl⟩ := ev_pos hm
    rw [ez_fix1]
    generalize ez_fix (fun _ _ _ _ _ _ _ => none) (z_X12_book_39 K) j = K2
    unfold z_X12_book_39
    have hlen : acc.length = pre.length := by rw [e]; simp
    rw [if_pos (nI_le (by omega) (by omega))]
    rfl
  | cons c suf ih =>
    intro pre e m hm
    obtain ⟨j, rfl⟩ := ev_pos hm
    have hlen : acc.length = pre.length + (suf.length + 1) := by rw [e]; simp
    have hget : acc[pre.length]? = some c := by rw [e, List.getElem?_append_right (Nat.le_refl _), Nat.sub_self]; rfl
    obtain ⟨hc, hr⟩ := h.2.2 _ _ hget
    have hm2 : suf.length < j := by simp at hm; omega
    rw [ez_fix1]
    generalize hK2 : ez_fix (fun _ _ _ _ _ _ _ => none) (z_X12_book_39 K) j = K2
    unfold z_X12_book_39
    have g55 : ez_gr σ 12 170 55 = some 207 := (eg_md h.1).2.2.2.2.1
    rw [if_neg (nI_ge (by omega) (by omega)), if_neg (by decide), g55, ez_bd_some, hr, ez_bd_some, mg_apart h.1 hb hc, ez_bd_some, ez_let_eq, nI_1, bk_ap, ez_ble2]
    by_cases q : 2 ≤ bk_d b c
    · rw [if_pos q, decide_eq_true q, cond_true, ← hK2]
      have := ih (pre ++ [c]) (by rw [e]; simp) j hm2
      rw [List.length_append] at this
      exact this
    · rw [if_neg q, decide_eq_false q, cond_false, ← hK2]
      obtain ⟨j2, rfl⟩ := ev_pos hm2
      rw [ez_fix1]
      generalize ez_fix (fun _ _ _ _ _ _ _ => none) (z_X12_book_39 K) j2 = K3
      unfold z_X12_book_39
      rw [if_neg (by decide : ¬ (false = true))]
      by_cases q2 : nI acc.length ≤ nI (pre.length + 1)
      · rw [if_pos q2]
      · rw [if_neg q2, if_pos rfl]
theorem bk_ref : ∀ t b acc σ l, bk_pr t b acc l = true → bk_R σ acc → b + t ≤ 452 → acc.length + l.length ≤ 60 → ∀ n, acc.length ≤ n → n < acc.length + l.length → ∀ m, t < m →
    ∃ σ2, ez_fix (fun _ _ _ _ _ => none) z_X12_book_16 m σ 170 (nI n) (nI acc.length) (nI b) = some (nI (l.getD (n - acc.length) 0), σ2) := by
  intro t
  induction t with
  | zero =>
    intro b acc σ l h hR hb hl n hn1 hn2 m hm
    cases l with
    | nil => simp at hn2; omega
    | cons c l => simp [bk_pr] at h
  | succ t ih =>
    intro b acc σ l h hR hb hl n hn1 hn2 m hm
    cases l with
    | nil => simp at hn2; omega
    | cons c l =>
      obtain ⟨j, rfl⟩ := ev_pos hm
      have hlen : (c :: l).length = l.length + 1 := rfl
      rw [hlen] at hl hn2
      rw [bk_pr] at h
      rw [ez_fix1]
      generalize hK : ez_fix (fun _ _ _ _ _ => none) z_X12_book_16 j = K
      have hin := bk_in hR (by omega) (b := b) (by omega) (nI n) K acc [] rfl ez_N (show acc.length < 16384 by omega)
      unfold z_X12_book_16
      rw [mg_bit hR.1, ez_bd_some, if_neg (nI_ge (by omega) (by decide)), if_neg (nI_nlt hn1 (by omega)), mg_legal hR.1 (by omega), ez_bd_some]
      rw [show ([] : List Nat).length = 0 from rfl, nI_0] at hin
      rw [hin]
      unfold z_X12_book_70 z_X12_book_88
      have g55 : ez_gr σ 12 170 55 = some 207 := (eg_md hR.1).2.2.2.2.1
      cases hc : Nat.beq b c with
      | true =>
        rw [hc, cond_true, Bool.and_eq_true, ez_nf_eq] at h
        obtain ⟨h1, h2⟩ := h
        have hbc := Nat.eq_of_beq_eq_true hc
        obtain ⟨σ1, hs, hR1⟩ := bk_W hR (by omega) (c := b) (by omega)
        rw [if_pos h1, if_neg (by decide), g55, ez_bd_some, hs, ez_bd_some, ez_let_eq, ez_let_eq, nI_1, nI_1]
        have hl1 : (acc ++ [b]).length = acc.length + 1 := by simp
        by_cases hw : n = acc.length
        · obtain ⟨j2, rfl⟩ := ev_pos (show 0 < j by omega)
          refine ⟨σ1, ?_⟩
          rw [← hK, ez_fix1]
          generalize ez_fix (fun _ _ _ _ _ => none) z_X12_book_16 j2 = K2
          unfold z_X12_book_16
          rw [mg_bit hR1.1, ez_bd_some, if_neg (nI_ge (by omega) (by decide)), if_pos (nI_lt (by omega) (by omega))]
          unfold z_X12_book_94 z_X12_book_109
          have g551 : ez_gr σ1 12 170 55 = some 207 := (eg_md hR1.1).2.2.2.2.1
          have hr := (hR1.2.2 acc.length b (by rw [List.getElem?_append_right (Nat.le_refl _), Nat.sub_self]; rfl)).2
          rw [if_neg (nI_ge (by omega) (by omega)), g551, ez_bd_some, hw, hr, ez_bd_some, Nat.sub_self, hbc]
          rfl
        · rw [← hbc] at h2
          have hh := ih (b + 1) (acc ++ [b]) σ1 l h2 hR1 (by omega) (by omega) n (by omega) (by omega) j (by omega)
          rw [hl1] at hh
          obtain ⟨σ2, e⟩ := hh
          refine ⟨σ2, ?_⟩
          rw [← hK, e, show n - acc.length = n - (acc.length + 1) + 1 by omega]
          rfl
      | false =>
        rw [hc, cond_false, Bool.and_eq_true, ez_nf_eq] at h
        obtain ⟨h1, h2⟩ := h
        have h3 : ¬ bk_ap b acc = true := by
          intro q
          rw [q] at h1
          cases h1
        rw [if_neg h3, if_pos rfl, ez_let_eq, nI_1, ← hK]
        exact ih (b + 1) acc σ (c :: l) h2 hR (by omega) (by rw [hlen]; omega) n hn1 (by rw [hlen]; omega) j (by omega)
theorem pr_book (a0 : Int32) : ∃ r σ1 σ2, z_X11_book ev_s0 0 a0 = some (r, σ1) ∧ z_X12_book σ1 170 a0 = some (r, σ2) := by
  rcases pk_ix a0 (n := 60) (by decide) with q | q | ⟨j, hj, rfl⟩
  · refine ⟨-1, ev_s0, ev_s0, ?_, ?_⟩
    · unfold z_X11_book z_X11_book_10
      rw [ez_bdo ev_o0, if_pos q]
    · unfold z_X12_book
      rw [ez_bdo (ev_m0 ev_MF0), md_inN (Or.inl q), ez_bd_some, if_pos rfl]
  · rw [Int32.le_iff_toInt_le, nI_toInt (by decide)] at q
    have c59 : (59 : Int32).toInt = 59 := by decide
    have c60 : (60 : Int32).toInt = 60 := by decide
    have c0 : (0 : Int32).toInt = 0 := by decide
    refine ⟨-1, ev_s0, ev_s0, ?_, ?_⟩
    · unfold z_X11_book z_X11_book_10
      rw [ez_bdo ev_o0, if_neg (fun e => by rw [Int32.lt_iff_toInt_lt] at e; omega), if_neg (fun e => by rw [Int32.lt_iff_toInt_lt] at e; omega)]
    · unfold z_X12_book
      rw [ez_bdo (ev_m0 ev_MF0), md_inN (Or.inr (by rw [Int32.lt_iff_toInt_lt]; omega)), ez_bd_some, if_pos rfl]
  · obtain ⟨σ1, h1, hI⟩ := bk_class hj
    have hMF := bk_MF hI
    have hR : bk_R σ1 [] := ⟨fun j hj _ => hMF j hj, ⟨[], (hMF 207 (by decide)).trans rfl⟩, fun k c hk => by simp at hk⟩
    have hr := bk_ref 452 0 [] σ1 bk_C bk_prd hR (by decide) (by decide) j (by simp) (by show j < 0 + 60; omega) ez_N (by decide)
    obtain ⟨σ2, h2⟩ := hr
    refine ⟨_, σ1, σ2, h1, ?_⟩
    have e9 : z_X12_isIn σ1 (nI j) 0 59 = some 1 := md_inY (nI_pos (by omega)) (show ¬ nI 59 < nI j from nI_nlt (by omega) (by decide))
    unfold z_X12_book
    rw [ez_bdo (ev_m0 hMF), e9, ez_bd_some, if_neg (by decide)]
    rw [show ([] : List Nat).length = 0 from rfl, nI_0, Nat.sub_zero] at h2
    exact h2
