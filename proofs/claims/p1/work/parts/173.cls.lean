set_option maxRecDepth 100000 in
theorem ev_mfq {σ : ez_H} (h : ez_qL ez_qE (σ.drop 170) (ev_s0.drop 170) = true) : ev_MF σ := by
  have e := ez_qL_eq ez_qE_eq _ _ h
  intro j hj
  rw [ez_at_eq, ez_at_eq]
  have e1 : (σ.drop 170)[j - 170]? = (ev_s0.drop 170)[j - 170]? := by rw [e]
  rw [List.getElem?_drop, List.getElem?_drop, show 170 + (j - 170) = j by omega] at e1
  exact e1
def ez_qM (q : Option (Int32 × ez_H)) (r : Int32) : Bool := match q with
  | some w => ez_qI w.1 r && ez_qL ez_qE (w.2.drop 170) (ev_s0.drop 170)
  | none => false
set_option maxRecDepth 100000 in
theorem ez_qM_eq {q : Option (Int32 × ez_H)} {r : Int32} (h : ez_qM q r = true) : ∃ σ1, q = some (r, σ1) ∧ ev_MF σ1 := by
  match q, h with
  | some (u, s1), h =>
    have h1 : (ez_qI u r && ez_qL ez_qE (s1.drop 170) (ev_s0.drop 170)) = true := h
    rw [Bool.and_eq_true] at h1
    exact ⟨s1, by rw [ez_qI_eq u r h1.1], ev_mfq h1.2⟩
set_option maxRecDepth 100000 in
theorem ev_MFT : ev_MF ev_sT := ev_mfq (by decide +kernel)
set_option maxRecDepth 100000 in
theorem ev_MFP : ev_MF ev_sP := ev_mfq (by decide +kernel)
set_option maxRecDepth 100000 in
theorem ev_td : ez_gr ev_sT 11 0 11 = some 146 ∧ ez_gr ev_sT 11 0 14 = some 164 ∧ ez_gr ev_sT 11 0 3 = some 25 ∧ ez_gi ev_sT 3 25 4 = some 0 ∧ ez_gi ev_sT 10 164 4 = some 0 ∧ z_X8_total ev_sT 146 0 0 = some (nI 7776) ∧ z_X8_depthsMet ev_sT 146 0 0 = some 1073741823 := ⟨by decide +kernel, by decide +kernel, by decide +kernel, by decide +kernel, by decide +kernel, by decide +kernel, by decide +kernel⟩
set_option maxRecDepth 100000 in
theorem ev_pd : ez_gr ev_sP 11 0 10 = some 134 ∧ ez_gr ev_sP 11 0 3 = some 25 ∧ z_X3_allLocks ev_sP 25 = some 0 ∧ z_X8_total ev_sP 134 0 0 = some (nI 7776) ∧ z_X8_leastNumber ev_sP 134 0 0 = some 0 ∧ z_X8_masterLocks ev_sP 134 = some 0 ∧ z_J6_bitCount_0f7a4 ev_sP 0 = some 0 := ⟨by decide +kernel, by decide +kernel, by decide +kernel, by decide +kernel, by decide +kernel, by decide +kernel, by decide +kernel⟩
set_option maxRecDepth 100000 in
theorem ev_to : ∃ fs, ez_ob ev_sT 10 164 = some fs := ⟨_, rfl⟩
set_option maxRecDepth 100000 in
theorem ev_kn (k b : Int32) : z_X10_knownAt ev_sT 164 k b = some 0 := by
  unfold z_X10_knownAt
  rw [ez_bdo ev_to, ez_fixN]
  generalize ez_fix (fun _ _ _ _ _ => none) (z_X10_knownAt_5 ev_sT) 16383 = K
  unfold z_X10_knownAt_5 z_X10_knownAt_95
  rw [ev_td.2.2.2.2.1, ez_bd_some, if_pos (Int32.le_refl 0)]
set_option maxRecDepth 100000 in
theorem cf_fits (k : Int32) : z_X11_fits ev_s0 0 k = some (nI 7776, ev_sT) := by
  unfold z_X11_fits
  simp only [ez_bdo ev_o0, ev_cd, ez_bd_some, ev_takeT, ez_b2_some, ev_td, ev_kn]
set_option maxRecDepth 100000 in
theorem pr_fits (a0 : Int32) : ∃ r σ1, z_X11_fits ev_s0 0 a0 = some (r, σ1) ∧ z_X12_fits σ1 170 a0 = some r := ⟨nI 7776, ev_sT, cf_fits a0, md_fits ev_MFT a0⟩
set_option maxRecDepth 100000 in
theorem cl_hasLocks (x : Int32) : z_X3_hasLocks ev_s0 25 x = some (if x = 0 then 1 else 0) := by
  have e0 : z_X3_allLocks ev_s0 25 = some 0 := by decide +kernel
  unfold z_X3_hasLocks z_X3_hasLocks_16
  simp only [ez_bdo ev_o25, e0, ez_bd_some, ez_let_eq, ez_nr0, ez_nr1]
  rw [show (0 : Int32) ^^^ -1 = -1 from by decide +kernel, Int32.and_neg_one]
  by_cases q : x = 0
  · rw [if_pos q, if_pos q]
  · rw [if_neg q, if_neg q]
set_option maxRecDepth 100000 in
theorem pr_common (a0 a1 : Int32) : ∃ r σ1, z_X11_common ev_s0 0 a0 a1 = some (r, σ1) ∧ z_X12_common σ1 170 a0 a1 = some r := by
  by_cases q : a0 = 0
  · subst q
    by_cases w0 : a1 = 0
    · subst w0
      refine ⟨nI 7776, ev_sP, ?_, ?_⟩
      · unfold z_X11_common
        rw [ez_bdo ev_o0]
        simp only [ev_cd, ez_bd_some, cl_hasLocks, if_true, ev_takeP, ez_b2_some, ev_pd]
        rw [if_neg (by decide)]
      · unfold z_X12_common z_X12_common_37
        rw [ez_bdo (ev_m0 ev_MFP), md_areLocks ev_MFP, ez_bd_some, if_pos rfl, if_neg (by decide), md_inY (by decide) (by decide), ez_bd_some, if_neg (by decide), if_pos rfl, md_openers ev_MFP, ez_bd_some]
    by_cases w1 : a1 = 1
    · subst w1
      refine ⟨0, ev_sP, ?_, ?_⟩
      · unfold z_X11_common
        rw [ez_bdo ev_o0]
        simp only [ev_cd, ez_bd_some, cl_hasLocks, if_true, ev_takeP, ez_b2_some, ev_pd]
        rw [if_neg (by decide), if_neg (by decide)]
      · unfold z_X12_common z_X12_common_37
        rw [ez_bdo (ev_m0 ev_MFP), md_areLocks ev_MFP, ez_bd_some, if_pos rfl, if_neg (by decide), md_inY (by decide) (by decide), ez_bd_some, if_neg (by decide), if_neg (by decide), md_cutFor ev_MFP, ez_bd_some, if_pos ⟨rfl, rfl⟩]
    · refine ⟨-1, ev_sP, ?_, ?_⟩
      · unfold z_X11_common
        rw [ez_bdo ev_o0]
        simp only [ev_cd, ez_bd_some, cl_hasLocks, ev_takeP, ez_b2_some, ev_pd]
        rw [if_pos trivial, if_neg (by decide), if_neg w0, if_neg w1]
      · unfold z_X12_common z_X12_common_17
        have n1 : a1 < 0 ∨ (1 : Int32) < a1 := by
          have b0 : ¬ a1.toInt = 0 := fun e => w0 (Int32.toInt_inj.mp (e.trans (by decide)))
          have b1 : ¬ a1.toInt = 1 := fun e => w1 (Int32.toInt_inj.mp (e.trans (by decide)))
          rw [Int32.lt_iff_toInt_lt, Int32.lt_iff_toInt_lt]
          have c0 : (0 : Int32).toInt = 0 := by decide
          have c1 : (1 : Int32).toInt = 1 := by decide
          omega
        rw [ez_bdo (ev_m0 ev_MFP), md_areLocks ev_MFP, ez_bd_some, if_pos rfl, if_neg (by decide), md_inN n1, ez_bd_some, if_pos rfl]
  · refine ⟨-1, ev_s0, ?_, ?_⟩
    · unfold z_X11_common
      rw [ez_bdo ev_o0]
      simp only [ev_cd, ez_bd_some, cl_hasLocks]
      rw [if_neg q, if_pos rfl]
    · unfold z_X12_common z_X12_common_17
      rw [ez_bdo (ev_m0 ev_MF0), md_areLocks ev_MF0, ez_bd_some, if_neg q, if_pos rfl]
set_option maxRecDepth 100000 in
theorem pr_cutFor (a0 a1 : Int32) : ∃ r σ1, z_X11_cutFor ev_s0 0 a0 a1 = some (r, σ1) ∧ z_X12_cutFor σ1 170 a0 a1 = some r := by
  by_cases q : a0 = 0
  · by_cases q1 : a1 = 0
    · refine ⟨0, ev_sP, ?_, ?_⟩
      · unfold z_X11_cutFor
        rw [ez_bdo ev_o0]
        simp only [ev_cd, ez_bd_some, cl_hasLocks]
        rw [if_pos q, if_pos q1, if_neg (by decide), if_neg (by decide), q, q1]
        simp only [ev_takeP, ez_b2_some, ev_pd, ez_bd_some]
      · rw [md_cutFor ev_MFP, if_pos ⟨q, q1⟩]
    · refine ⟨-1, ev_s0, ?_, ?_⟩
      · unfold z_X11_cutFor z_X11_cutFor_22
        rw [ez_bdo ev_o0]
        simp only [ev_cd, ez_bd_some, cl_hasLocks]
        rw [if_pos q, if_neg (by decide), if_neg q1, if_pos rfl]
      · rw [md_cutFor ev_MF0, if_neg (fun e => q1 e.2)]
  · refine ⟨-1, ev_s0, ?_, ?_⟩
    · unfold z_X11_cutFor z_X11_cutFor_22
      rw [ez_bdo ev_o0]
      simp only [ev_cd, ez_bd_some, cl_hasLocks]
      rw [if_neg q, if_pos rfl]
    · rw [md_cutFor ev_MF0, if_neg (fun e => q e.1)]
set_option maxRecDepth 100000 in
theorem cf_master (w : Int32) : z_X11_master ev_s0 0 w = some (if w = 0 ∨ w = 1 ∨ w = 2 then 0 else -1, ev_sP) := by
  unfold z_X11_master
  rw [ez_bdo ev_o0]
  simp only [ev_cd, ez_bd_some, ev_takeP, ez_b2_some, ev_pd]
  by_cases w0 : w = 0
  · rw [if_pos w0, if_pos (Or.inl w0)]
  by_cases w1 : w = 1
  · rw [if_neg w0, if_pos w1, if_pos (Or.inr (Or.inl w1))]
  by_cases w2 : w = 2
  · rw [if_neg w0, if_neg w1, if_pos w2, if_pos (Or.inr (Or.inr w2))]
  · rw [if_neg w0, if_neg w1, if_neg w2, if_neg (fun e => e.elim w0 (fun e => e.elim w1 w2))]
set_option maxRecDepth 100000 in
theorem pr_master (w : Int32) : ∃ r σ1, z_X11_master ev_s0 0 w = some (r, σ1) ∧ z_X12_master σ1 170 w = some r := by
  by_cases w9 : w = 0 ∨ w = 1 ∨ w = 2
  · refine ⟨0, ev_sP, by rw [cf_master, if_pos w9], ?_⟩
    rcases w9 with rfl | rfl | rfl
    · exact md_master ev_MFP (by decide) (by decide)
    · exact md_master ev_MFP (by decide) (by decide)
    · exact md_master ev_MFP (by decide) (by decide)
  · refine ⟨-1, ev_sP, by rw [cf_master, if_neg w9], ?_⟩
    unfold z_X12_master
    rw [ez_bdo (ev_m0 ev_MFP), md_inN (ev_n012 w (fun e => w9 (Or.inl e)) (fun e => w9 (Or.inr (Or.inl e))) (fun e => w9 (Or.inr (Or.inr e)))), ez_bd_some, if_pos rfl]
set_option maxRecDepth 100000 in
theorem pr_blanks : ∃ r σ1, z_X11_blanks ev_s0 0 = some (r, σ1) ∧ z_X12_blanks σ1 170 = some r := by
  refine ⟨nI 7776, ev_sP, ?_, md_blanks ev_MFP⟩
  unfold z_X11_blanks
  rw [ez_bdo ev_o0]
  simp only [ev_cd, ez_bd_some, ev_takeP, ez_b2_some, ev_pd]
set_option maxRecDepth 100000 in
theorem ev_ch (c : Int32) : (c < 0 ∨ nI 4 < c) ∨ ∃ j, j < 5 ∧ c = nI j := by
  rcases pk_ix c (n := 5) (by decide) with q | q | ⟨j, hj, e⟩
  · exact Or.inl (Or.inl q)
  · refine Or.inl (Or.inr ?_)
    rw [Int32.lt_iff_toInt_lt, nI_toInt (by decide)]
    rw [Int32.le_iff_toInt_le, nI_toInt (by decide)] at q
    omega
  · exact Or.inr ⟨j, hj, e⟩
set_option maxRecDepth 100000 in
theorem pr_sure (a0 a1 : Int32) : ∃ r σ1, z_X11_sure ev_s0 0 a0 a1 = some (r, σ1) ∧ z_X12_sure σ1 170 a0 a1 = some r := by
  rcases ev_ch a0 with q | ⟨j, hj, rfl⟩
  · refine ⟨-1, ev_s0, ?_, md_sureN ev_MF0 q a1⟩
    have e1 : z_X6_hasChamber ev_s0 26 a0 = some 0 := by
      unfold z_X6_hasChamber z_X6_hasChamber_16 z_X6_hasChamber_17
      simp only [ez_bdo ev_o26, ev_cd, ez_bd_some, ez_nr0]
      by_cases q1 : a0 < 0
      · rw [if_pos q1]
      · rw [if_neg q1, if_pos]
        have q2 := q.resolve_left q1
        rw [Int32.lt_iff_toInt_lt, nI_toInt (by decide)] at q2
        rw [Int32.le_iff_toInt_le]
        have c5 : (5 : Int32).toInt = 5 := by decide
        omega
    unfold z_X11_sure z_X11_sure_19
    rw [ez_bdo ev_o0]
    simp only [ev_cd, ez_bd_some, e1]
    rw [if_pos trivial]
  · refine ⟨-2, ev_sT, ?_, md_sure ev_MFT hj a1⟩
    have e1 : z_X6_hasChamber ev_s0 26 (nI j) = some 1 := by
      have h : ∀ j : Nat, j < 5 → z_X6_hasChamber ev_s0 26 (nI j) = some 1 := by decide +kernel
      exact h j hj
    have e2 : z_X6_depthsAt ev_sT 1073741823 (nI j) = some 63 := by
      have h : ∀ j : Nat, j < 5 → z_X6_depthsAt [] 1073741823 (nI j) = some 63 := by decide +kernel
      exact h j hj
    have e3 : z_J6_bitCount_0f7a4 ev_sT 63 = some 6 := by
      have h : z_J6_bitCount_0f7a4 [] 63 = some 6 := by decide +kernel
      exact h
    have e4 : ¬ nI 7776 = 0 := by decide +kernel
    unfold z_X11_sure z_X11_sure_68
    rw [ez_bdo ev_o0]
    simp only [ev_cd, ez_bd_some, e1]
    rw [if_neg (by decide), cf_fits, ez_b2_some, if_neg e4]
    simp only [ev_td, ez_bd_some, ev_kn, e2, e3]
    rw [if_neg (by decide)]
set_option maxRecDepth 100000 in
theorem pr_ask (a0 a1 : Int32) : ∃ r σ1, z_X11_ask ev_s0 0 a0 a1 = some (r, σ1) ∧ z_X12_ask σ1 170 a0 a1 = some r := by
  by_cases q : a0 < 0
  · refine ⟨-1, ev_s0, ?_, md_ask ev_MF0 a0 a1⟩
    unfold z_X11_ask z_X11_ask_9
    rw [ez_bdo ev_o0, if_pos q]
  by_cases q1 : a0 ≤ 1
  · refine ⟨-1, ev_sT, ?_, md_ask ev_MFT a0 a1⟩
    have e4 : ¬ nI 7776 = 0 := by decide +kernel
    unfold z_X11_ask
    rw [ez_bdo ev_o0, if_neg q, if_pos q1, cf_fits, ez_b2_some, if_neg e4]
    simp only [ev_td, ez_bd_some, ev_kn]
    rw [ez_fixN]
    generalize ez_fix (fun _ _ _ _ _ _ _ _ _ => none) z_X11_ask_54 16383 = K
    unfold z_X11_ask_54 z_X11_ask_132 z_X11_ask_139
    simp only [ev_td, ez_bd_some]
    rw [if_pos (Int32.le_refl 0)]
    by_cases q2 : a0 = 0
    · rw [if_pos q2]
    · rw [if_neg q2, if_pos trivial]
  · refine ⟨-1, ev_s0, ?_, md_ask ev_MF0 a0 a1⟩
    unfold z_X11_ask z_X11_ask_9
    rw [ez_bdo ev_o0, if_neg q, if_neg q1]
