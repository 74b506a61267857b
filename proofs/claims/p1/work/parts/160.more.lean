set_option maxRecDepth 100000 in
theorem ez_fixN {T : Type} (bot : T) (F : T → T) : ez_fix bot F ez_N = F (ez_fix bot F 16383) := rfl
theorem md_inY {σ : ez_H} {k lo hi : Int32} (h1 : ¬ k < lo) (h2 : ¬ hi < k) : z_X12_isIn σ k lo hi = some 1 := by
  unfold z_X12_isIn z_X12_isIn_15
  rw [if_neg h1, if_neg h2, ez_nr1]
theorem md_inN {σ : ez_H} {k lo hi : Int32} (h : k < lo ∨ hi < k) : z_X12_isIn σ k lo hi = some 0 := by
  unfold z_X12_isIn z_X12_isIn_14 z_X12_isIn_15
  by_cases h1 : k < lo
  · rw [if_pos h1, ez_nr0]
  · rw [if_neg h1, if_pos (h.resolve_left h1), ez_nr0]
theorem ev_of2 {q : Option (Int32 × ez_H)} {f : ez_H → Option (Int32 × ez_H)} {r : Int32} (h : ez_b2 q (fun a σ => ez_b2 (f σ) (fun b _ => if a = b then some a else none)) = some r) : ∃ σ1 σ2, q = some (r, σ1) ∧ f σ1 = some (r, σ2) := by
  obtain ⟨a, σ1, h1, h⟩ := ez_b2_sp h
  obtain ⟨b, σ2, h2, h⟩ := ez_b2_sp h
  by_cases e : a = b
  · rw [if_pos e] at h
    cases h
    exact ⟨σ1, σ2, h1, e ▸ h2⟩
  · rw [if_neg e] at h
    cases h
theorem ev_of1 {q : Option (Int32 × ez_H)} {f : ez_H → Option Int32} {r : Int32} (h : ez_b2 q (fun a σ => ez_bd (f σ) (fun b => if a = b then some a else none)) = some r) : ∃ σ1, q = some (r, σ1) ∧ f σ1 = some r := by
  obtain ⟨a, σ1, h1, h⟩ := ez_b2_sp h
  obtain ⟨b, h2, h⟩ := ez_bd_sp h
  by_cases e : a = b
  · rw [if_pos e] at h
    cases h
    exact ⟨σ1, h1, e ▸ h2⟩
  · rw [if_neg e] at h
    cases h
theorem ev_ofm {q : Option (Int32 × ez_H)} {r : Int32} (h : ez_b2 q (fun a _ => some a) = some r) : ∃ σ2, q = some (r, σ2) := by
  obtain ⟨a, σ2, h1, h⟩ := ez_b2_sp h
  cases h
  exact ⟨σ2, h1⟩
theorem ev_pf {σ σ1 : ez_H} {ci a k : Nat} {v : ez_V} (h : ez_pf σ ci a k v = some σ1) (ha : a < 170) (hm : ev_MF σ) : ev_MF σ1 := by
  obtain ⟨fs, h1, h2, rfl⟩ := ez_pf_sp h
  intro j hj
  rw [ez_at_eq, List.getElem?_set_ne (by omega), ← ez_at_eq]
  exact hm j hj
theorem ev_3 {P : Int32 → Prop} (k : Int32) (h : P (nI 0) ∧ P (nI 1) ∧ P (nI 2)) (h1 : k < 0 → P k) (h2 : ¬ k < 0 → nI 3 ≤ k → P k) : P k := by
  rcases pk_ix k (n := 3) (by decide) with q | q | ⟨j, hj, rfl⟩
  · exact h1 q
  · by_cases q1 : k < 0
    · exact h1 q1
    · exact h2 q1 q
  · match j, hj with
    | 0, _ => exact h.1
    | 1, _ => exact h.2.1
    | 2, _ => exact h.2.2
set_option maxRecDepth 100000 in
theorem ev_n012 (w : Int32) (h0 : ¬ w = 0) (h1 : ¬ w = 1) (h2 : ¬ w = 2) : w < 0 ∨ (2 : Int32) < w := by
  have a0 : ¬ w.toInt = 0 := fun e => h0 (Int32.toInt_inj.mp (e.trans (by decide)))
  have a1 : ¬ w.toInt = 1 := fun e => h1 (Int32.toInt_inj.mp (e.trans (by decide)))
  have a2 : ¬ w.toInt = 2 := fun e => h2 (Int32.toInt_inj.mp (e.trans (by decide)))
  rw [Int32.lt_iff_toInt_lt, Int32.lt_iff_toInt_lt]
  have b0 : (0 : Int32).toInt = 0 := by decide
  have b2 : (2 : Int32).toInt = 2 := by decide
  omega
set_option maxRecDepth 100000 in
theorem pr_key (a0 a1 : Int32) : ∃ r, z_X11_key ev_s0 0 a0 a1 = some r ∧ z_X12_key ev_s0 170 a0 a1 = some r := ⟨(-3), cf_key _ _, mf_key _ _⟩
set_option maxRecDepth 100000 in
theorem pr_cut (a0 a1 : Int32) : ∃ r, z_X11_cut ev_s0 0 a0 a1 = some r ∧ z_X12_cut ev_s0 170 a0 a1 = some r := ⟨(-1), cf_cut _ _, mf_cut _ _⟩
set_option maxRecDepth 100000 in
theorem pr_lock (a0 a1 : Int32) : ∃ r, z_X11_lock ev_s0 0 a0 a1 = some r ∧ z_X12_lock ev_s0 170 a0 a1 = some r := ⟨(-1), cf_lock _ _, mf_lock _ _⟩
set_option maxRecDepth 100000 in
theorem pr_parts (a0 a1 : Int32) : ∃ r, z_X11_parts ev_s0 0 a0 a1 = some r ∧ z_X12_parts ev_s0 170 a0 a1 = some r := ⟨(-1), cf_parts _ _, mf_parts _ _⟩
set_option maxRecDepth 100000 in
theorem pr_door (a0 a1 : Int32) : ∃ r, z_X11_door ev_s0 0 a0 a1 = some r ∧ z_X12_door ev_s0 170 a0 a1 = some r := ⟨(-1), cf_door _ _, mf_door _ _⟩
set_option maxRecDepth 100000 in
theorem pr_person (a0 a1 : Int32) : ∃ r, z_X11_person ev_s0 0 a0 a1 = some r ∧ z_X12_person ev_s0 170 a0 a1 = some r := ⟨(-1), cf_person _ _, mf_person _ _⟩
set_option maxRecDepth 100000 in
theorem pr_walk (a0 a1 : Int32) : ∃ r σ1 σ2, z_X11_walk ev_s0 0 a0 a1 = some (r, σ1) ∧ z_X12_walk σ1 170 a0 a1 = some (r, σ2) := ⟨(-1), ev_s0, ev_s0, cf_walk _ _, mf_walk _ _⟩
set_option maxRecDepth 100000 in
theorem pr_give (a0 a1 : Int32) : ∃ r σ1 σ2, z_X11_give ev_s0 0 a0 a1 = some (r, σ1) ∧ z_X12_give σ1 170 a0 a1 = some (r, σ2) := ⟨(-3), ev_s0, ev_s0, cf_give _ _, mf_give _ _⟩
set_option maxRecDepth 100000 in
theorem pr_hang (a0 : Int32) : ∃ r σ1 σ2, z_X11_hang ev_s0 0 a0 = some (r, σ1) ∧ z_X12_hang σ1 170 a0 = some (r, σ2) := ⟨(-3), ev_s0, ev_s0, cf_hang _, mf_hang _⟩
set_option maxRecDepth 100000 in
theorem pr_lose (a0 : Int32) : ∃ r σ1 σ2, z_X11_lose ev_s0 0 a0 = some (r, σ1) ∧ z_X12_lose σ1 170 a0 = some (r, σ2) := ⟨(-3), ev_s0, ev_s0, cf_lose _, mf_lose _⟩
set_option maxRecDepth 100000 in
theorem pr_find (a0 a1 : Int32) : ∃ r σ1 σ2, z_X11_find ev_s0 0 a0 a1 = some (r, σ1) ∧ z_X12_find σ1 170 a0 a1 = some (r, σ2) := ⟨(-1), ev_s0, ev_s0, cf_find _ _, mf_find _ _⟩
set_option maxRecDepth 100000 in
theorem pr_file (a0 a1 : Int32) : ∃ r σ1 σ2, z_X11_file ev_s0 0 a0 a1 = some (r, σ1) ∧ z_X12_file σ1 170 a0 a1 = some (r, σ2) := ⟨(-1), ev_s0, ev_s0, cf_file _ _, mf_file _ _⟩
set_option maxRecDepth 100000 in
theorem pr_pin (a0 a1 : Int32) : ∃ r σ1 σ2, z_X11_pin ev_s0 0 a0 a1 = some (r, σ1) ∧ z_X12_pin σ1 170 a0 a1 = some (r, σ2) := ⟨(-1), ev_s0, ev_s0, cf_pin _ _, mf_pin _ _⟩
set_option maxRecDepth 100000 in
theorem pr_part (a0 a1 a2 : Int32) : ∃ r σ1 σ2, z_X11_part ev_s0 0 a0 a1 a2 = some (r, σ1) ∧ z_X12_part σ1 170 a0 a1 a2 = some (r, σ2) := ⟨(-1), ev_s0, ev_s0, cf_part _ _ _, mf_part _ _ _⟩
set_option maxRecDepth 100000 in
theorem pr_ghosts (a0 : Int32) : ∃ r σ1, z_X11_ghosts ev_s0 0 a0 = some (r, σ1) ∧ z_X12_ghosts σ1 170 a0 = some r := ⟨(-1), ev_s0, cf_ghosts _, mf_ghosts _⟩
set_option maxRecDepth 100000 in
theorem pr_ghost (a0 a1 : Int32) : ∃ r σ1, z_X11_ghost ev_s0 0 a0 a1 = some (r, σ1) ∧ z_X12_ghost σ1 170 a0 a1 = some r := ⟨(-1), ev_s0, cf_ghost _ _, mf_ghost _ _⟩
set_option maxRecDepth 100000 in
theorem pr_filing (a0 a1 a2 : Int32) : ∃ r σ1, z_X11_filing ev_s0 0 a0 a1 a2 = some (r, σ1) ∧ z_X12_filing σ1 170 a0 a1 a2 = some r := ⟨(-1), ev_s0, cf_filing _ _ _, mf_filing _ _ _⟩
set_option maxRecDepth 100000 in
theorem pr_keeps (a0 : Int32) : ∃ r σ1 σ2, z_X11_keeps ev_s0 0 a0 = some (r, σ1) ∧ z_X12_keeps σ1 170 a0 = some (r, σ2) := ⟨(-1), ev_s0, ev_s0, cf_keeps _, mf_keeps _⟩
set_option maxRecDepth 100000 in
theorem pr_leftOver (a0 : Int32) : ∃ r σ2, z_X11_leftOver ev_s0 0 a0 = some r ∧ z_X12_leftOver ev_s0 170 a0 = some (r, σ2) := ⟨(-1), ev_s0, cf_leftOver _, mf_leftOver _⟩
set_option maxRecDepth 100000 in
theorem pr_bunch (a0 a1 a2 : Int32) : ∃ r, z_X11_bunch ev_s0 0 a0 a1 a2 = some r ∧ z_X12_bunch ev_s0 170 a0 a1 a2 = some r := ⟨(-1), cf_bunch _ _ _, mf_bunch _ _ _⟩
set_option maxRecDepth 100000 in
theorem pr_together (a0 : Int32) : ∃ r σ1 σ2, z_X11_together ev_s0 0 a0 = some (r, σ1) ∧ z_X12_together σ1 170 a0 = some (r, σ2) := ⟨(-1), ev_s0, ev_s0, cf_together _, mf_together _⟩
set_option maxRecDepth 100000 in
theorem pr_comers (a0 : Int32) : ∃ r, z_X11_comers ev_s0 0 a0 = some r ∧ z_X12_comers ev_s0 170 a0 = some r := ⟨(-1), cf_comers _, mf_comers _⟩
set_option maxRecDepth 100000 in
theorem pr_trade (a0 a1 a2 : Int32) : ∃ r, z_X11_trade ev_s0 0 a0 a1 a2 = some r ∧ z_X12_trade ev_s0 170 a0 a1 a2 = some r := ⟨(-1), cf_trade _ _ _, mf_trade _ _ _⟩
set_option maxRecDepth 100000 in
theorem pr_span (a0 a1 : Int32) : ∃ r, z_X11_span ev_s0 0 a0 a1 = some r ∧ z_X12_span ev_s0 170 a0 a1 = some r := ⟨(-1), cf_span _ _, mf_span _ _⟩
set_option maxRecDepth 100000 in
theorem pr_twin (a0 : Int32) : ∃ r, z_X11_twin ev_s0 0 a0 = some r ∧ z_X12_twin ev_s0 170 a0 = some r := ⟨(-1), cf_twin _, mf_twin _⟩
set_option maxRecDepth 100000 in
theorem pr_lasts (a0 a1 : Int32) : ∃ r σ1 σ2, z_X11_lasts ev_s0 0 a0 a1 = some (r, σ1) ∧ z_X12_lasts σ1 170 a0 a1 = some (r, σ2) := ⟨(-1), ev_s0, ev_s0, cf_lasts _ _, mf_lasts _ _⟩
set_option maxRecDepth 100000 in
theorem pr_odds (a0 a1 : Int32) : ∃ r σ1, z_X11_odds ev_s0 0 a0 a1 = some (r, σ1) ∧ z_X12_odds σ1 170 a0 a1 = some r := ⟨(-1), ev_s0, cf_odds _ _, mf_odds _ _⟩
set_option maxRecDepth 100000 in
theorem pr_tried (a0 a1 : Int32) : ∃ r σ1 σ2, z_X11_tried ev_s0 0 a0 a1 = some (r, σ1) ∧ z_X12_tried σ1 170 a0 a1 = some (r, σ2) := ⟨(-1), ev_s0, ev_s0, cf_tried _ _, mf_tried _ _⟩
set_option maxRecDepth 100000 in
theorem pr_undo : ∃ r σ1 σ2, z_X11_undo ev_s0 0 = some (r, σ1) ∧ z_X12_undo σ1 170 = some (r, σ2) := (by obtain ⟨σ1, σ2, h1, h2⟩ := ev_of2 (q := z_X11_undo ev_s0 0) (f := fun σ => z_X12_undo σ 170) (r := 0) (by decide +kernel); exact ⟨0, σ1, σ2, h1, h2⟩)
set_option maxRecDepth 100000 in
theorem pr_redo : ∃ r σ1 σ2, z_X11_redo ev_s0 0 = some (r, σ1) ∧ z_X12_redo σ1 170 = some (r, σ2) := (by obtain ⟨σ1, σ2, h1, h2⟩ := ev_of2 (q := z_X11_redo ev_s0 0) (f := fun σ => z_X12_redo σ 170) (r := 0) (by decide +kernel); exact ⟨0, σ1, σ2, h1, h2⟩)
set_option maxRecDepth 100000 in
theorem pr_stuck : ∃ r, z_X11_stuck ev_s0 0 = some r ∧ z_X12_stuck ev_s0 170 = some r := ⟨0, by decide +kernel, by decide +kernel⟩
set_option maxRecDepth 100000 in
theorem pr_barred : ∃ r, z_X11_barred ev_s0 0 = some r ∧ z_X12_barred ev_s0 170 = some r := ⟨0, by decide +kernel, by decide +kernel⟩
set_option maxRecDepth 100000 in
theorem pr_haunted : ∃ r σ1, z_X11_haunted ev_s0 0 = some (r, σ1) ∧ z_X12_haunted σ1 170 = some r := (by obtain ⟨σ1, h1, h2⟩ := ev_of1 (q := z_X11_haunted ev_s0 0) (f := fun σ => z_X12_haunted σ 170) (r := (-1)) (by decide +kernel); exact ⟨(-1), σ1, h1, h2⟩)
set_option maxRecDepth 100000 in
theorem pr_best : ∃ r, z_X11_best ev_s0 0 = some r ∧ z_X12_best ev_s0 170 = some r := ⟨(-1), by decide +kernel, by decide +kernel⟩
set_option maxRecDepth 100000 in
theorem pr_plan : ∃ r σ1 σ2, z_X11_plan ev_s0 0 = some (r, σ1) ∧ z_X12_plan σ1 170 = some (r, σ2) := (by obtain ⟨σ1, σ2, h1, h2⟩ := ev_of2 (q := z_X11_plan ev_s0 0) (f := fun σ => z_X12_plan σ 170) (r := 0) (by decide +kernel); exact ⟨0, σ1, σ2, h1, h2⟩)
set_option maxRecDepth 100000 in
theorem pr_fault (w : Int32) : ∃ r, z_X11_fault ev_s0 0 w = some r ∧ z_X12_fault ev_s0 170 w = some r := by
  by_cases h0 : w = 0
  · subst h0; exact ⟨0, by decide +kernel, by decide +kernel⟩
  by_cases h1 : w = 1
  · subst h1; exact ⟨(-1), by decide +kernel, by decide +kernel⟩
  have c1 : z_X11_fault ev_s0 0 w = some (-1) := by simp only [z_X11_fault, ez_bdo ev_o0, ez_bdo ev_o2, ez_bdo ev_o25, ez_bdo ev_o26, ez_bdo ev_o39, ez_bdo ev_o43, ez_bdo ev_o158, ez_bdo ev_o162, ez_bdo ev_o164, ev_cd, cl_hasKey, cl_hasLock, cl_hasRoom, cl_hasDoor, cl_hasPerson, ez_bd_some, ez_b2_some, ez_let_eq, ez_nr0, ez_nr1, if_true, if_false, ez_fixN, h0, h1]
  have m1 : z_X12_fault ev_s0 170 w = some (-1) := by simp only [z_X12_fault, z_X12_fault_24, ez_bdo (ev_m0 ev_MF0), ev_md ev_MF0, md_isKey ev_MF0, md_isLock ev_MF0, md_isRoom ev_MF0, md_isDoor ev_MF0, md_isPerson ev_MF0, ez_bd_some, ez_b2_some, ez_let_eq, ez_nr0, ez_nr1, if_true, if_false, md_many ev_MF0, md_bolts ev_MF0, ez_fixN, h0, h1]
  exact ⟨-1, c1, m1⟩
set_option maxRecDepth 100000 in
theorem pr_about (w : Int32) : ∃ r, z_X11_about ev_s0 0 w = some r ∧ z_X12_about ev_s0 170 w = some r := by
  by_cases h0 : w = 0
  · subst h0; exact ⟨0, by decide +kernel, by decide +kernel⟩
  by_cases h1 : w = 1
  · subst h1; exact ⟨0, by decide +kernel, by decide +kernel⟩
  by_cases h2 : w = 2
  · subst h2; exact ⟨0, by decide +kernel, by decide +kernel⟩
  by_cases h3 : w = 3
  · subst h3; exact ⟨0, by decide +kernel, by decide +kernel⟩
  by_cases h4 : w = 4
  · subst h4; exact ⟨0, by decide +kernel, by decide +kernel⟩
  by_cases h5 : w = 5
  · subst h5; exact ⟨5, by decide +kernel, by decide +kernel⟩
  by_cases h6 : w = 6
  · subst h6; exact ⟨6, by decide +kernel, by decide +kernel⟩
  by_cases h7 : w = 7
  · subst h7; exact ⟨5, by decide +kernel, by decide +kernel⟩
  by_cases h8 : w = 8
  · subst h8; exact ⟨0, by decide +kernel, by decide +kernel⟩
  by_cases h9 : w = 9
  · subst h9; exact ⟨0, by decide +kernel, by decide +kernel⟩
  by_cases h10 : w = 10
  · subst h10; exact ⟨0, by decide +kernel, by decide +kernel⟩
  by_cases h11 : w = 11
  · subst h11; exact ⟨0, by decide +kernel, by decide +kernel⟩
  by_cases h12 : w = 12
  · subst h12; exact ⟨0, by decide +kernel, by decide +kernel⟩
  by_cases h13 : w = 13
  · subst h13; exact ⟨0, by decide +kernel, by decide +kernel⟩
  by_cases h14 : w = 14
  · subst h14; exact ⟨0, by decide +kernel, by decide +kernel⟩
  by_cases h15 : w = 15
  · subst h15; exact ⟨0, by decide +kernel, by decide +kernel⟩
  have c1 : z_X11_about ev_s0 0 w = some (-1) := by simp only [z_X11_about, ez_bdo ev_o0, ez_bdo ev_o2, ez_bdo ev_o25, ez_bdo ev_o26, ez_bdo ev_o39, ez_bdo ev_o43, ez_bdo ev_o158, ez_bdo ev_o162, ez_bdo ev_o164, ev_cd, cl_hasKey, cl_hasLock, cl_hasRoom, cl_hasDoor, cl_hasPerson, ez_bd_some, ez_b2_some, ez_let_eq, ez_nr0, ez_nr1, if_true, if_false, ez_fixN, h0, h1, h2, h3, h4, h5, h6, h7, h8, h9, h10, h11, h12, h13, h14, h15]
  have m1 : z_X12_about ev_s0 170 w = some (-1) := by simp only [z_X12_about, ez_bdo (ev_m0 ev_MF0), ev_md ev_MF0, md_isKey ev_MF0, md_isLock ev_MF0, md_isRoom ev_MF0, md_isDoor ev_MF0, md_isPerson ev_MF0, ez_bd_some, ez_b2_some, ez_let_eq, ez_nr0, ez_nr1, if_true, if_false, md_many ev_MF0, md_bolts ev_MF0, ez_fixN, h0, h1, h2, h3, h4, h5, h6, h7, h8, h9, h10, h11, h12, h13, h14, h15]
  exact ⟨-1, c1, m1⟩
set_option maxRecDepth 100000 in
theorem pr_idle (w : Int32) : ∃ r, z_X11_idle ev_s0 0 w = some r ∧ z_X12_idle ev_s0 170 w = some r := by
  by_cases h0 : w = 0
  · subst h0; exact ⟨0, by decide +kernel, by decide +kernel⟩
  by_cases h1 : w = 1
  · subst h1; exact ⟨0, by decide +kernel, by decide +kernel⟩
  have c1 : z_X11_idle ev_s0 0 w = some (-1) := by simp only [z_X11_idle, ez_bdo ev_o0, ez_bdo ev_o2, ez_bdo ev_o25, ez_bdo ev_o26, ez_bdo ev_o39, ez_bdo ev_o43, ez_bdo ev_o158, ez_bdo ev_o162, ez_bdo ev_o164, ev_cd, cl_hasKey, cl_hasLock, cl_hasRoom, cl_hasDoor, cl_hasPerson, ez_bd_some, ez_b2_some, ez_let_eq, ez_nr0, ez_nr1, if_true, if_false, ez_fixN, h0, h1]
  have m1 : z_X12_idle ev_s0 170 w = some (-1) := by simp only [z_X12_idle, z_X12_idle_27, ez_bdo (ev_m0 ev_MF0), ev_md ev_MF0, md_isKey ev_MF0, md_isLock ev_MF0, md_isRoom ev_MF0, md_isDoor ev_MF0, md_isPerson ev_MF0, ez_bd_some, ez_b2_some, ez_let_eq, ez_nr0, ez_nr1, if_true, if_false, md_many ev_MF0, md_bolts ev_MF0, ez_fixN, h0, h1]
  exact ⟨-1, c1, m1⟩
set_option maxRecDepth 100000 in
theorem ct_broken (w : Int32) (h0 : ¬ w = 0) (h1 : ¬ w = 1) (h2 : ¬ w = 2) : z_X5_tellPairs ev_s0 162 w 0 = some (-1) := by
  unfold z_X5_tellPairs
  rw [ez_bdo ev_o162, ez_fixN]
  unfold z_X5_tellPairs_11
  rw [show ez_gr ev_s0 5 162 0 = some 25 from by decide +kernel, ez_bd_some, show ez_gi ev_s0 3 25 3 = some 0 from by decide +kernel, ez_bd_some, if_pos (Int32.le_refl 0), if_neg h0, if_neg h1, if_neg h2]
set_option maxRecDepth 100000 in
theorem pr_broken (w : Int32) : ∃ r, z_X11_broken ev_s0 0 w = some r ∧ z_X12_broken ev_s0 170 w = some r := by
  by_cases h0 : w = 0
  · subst h0; exact ⟨0, by decide +kernel, by decide +kernel⟩
  by_cases h1 : w = 1
  · subst h1; exact ⟨(-1), by decide +kernel, by decide +kernel⟩
  by_cases h2 : w = 2
  · subst h2; exact ⟨(-1), by decide +kernel, by decide +kernel⟩
  have c1 : z_X11_broken ev_s0 0 w = some (-1) := by
    unfold z_X11_broken
    rw [ez_bdo ev_o0, show ez_gr ev_s0 11 0 13 = some 162 from by decide +kernel, ez_bd_some, ct_broken w h0 h1 h2, ez_bd_some]
  have n1 : z_X12_isIn ev_s0 w 0 2 = some 0 := by
    exact md_inN (ev_n012 w h0 h1 h2)
  have m1 : z_X12_broken ev_s0 170 w = some (-1) := by
    unfold z_X12_broken
    rw [ez_bdo (ev_m0 ev_MF0), n1, ez_bd_some, if_pos rfl]
  exact ⟨-1, c1, m1⟩
set_option maxRecDepth 100000 in
theorem ct_strays (w : Int32) (h0 : ¬ w = 0) (h1 : ¬ w = 1) (h2 : ¬ w = 2) : z_X5_tellPairs ev_s0 162 w 1 = some (-1) := by
  unfold z_X5_tellPairs
  rw [ez_bdo ev_o162, ez_fixN]
  unfold z_X5_tellPairs_11
  rw [show ez_gr ev_s0 5 162 0 = some 25 from by decide +kernel, ez_bd_some, show ez_gi ev_s0 3 25 3 = some 0 from by decide +kernel, ez_bd_some, if_pos (Int32.le_refl 0), if_neg h0, if_neg h1, if_neg h2]
set_option maxRecDepth 100000 in
theorem pr_strays (w : Int32) : ∃ r σ2, z_X11_strays ev_s0 0 w = some r ∧ z_X12_strays ev_s0 170 w = some (r, σ2) := by
  by_cases h0 : w = 0
  · subst h0; exact (by obtain ⟨σ2, h2⟩ := ev_ofm (q := z_X12_strays ev_s0 170 0) (r := 0) (by decide +kernel); exact ⟨0, σ2, by decide +kernel, h2⟩)
  by_cases h1 : w = 1
  · subst h1; exact (by obtain ⟨σ2, h2⟩ := ev_ofm (q := z_X12_strays ev_s0 170 1) (r := (-1)) (by decide +kernel); exact ⟨(-1), σ2, by decide +kernel, h2⟩)
  by_cases h2 : w = 2
  · subst h2; exact (by obtain ⟨σ2, h2⟩ := ev_ofm (q := z_X12_strays ev_s0 170 2) (r := (-1)) (by decide +kernel); exact ⟨(-1), σ2, by decide +kernel, h2⟩)
  have c1 : z_X11_strays ev_s0 0 w = some (-1) := by
    unfold z_X11_strays
    rw [ez_bdo ev_o0, show ez_gr ev_s0 11 0 13 = some 162 from by decide +kernel, ez_bd_some, ct_strays w h0 h1 h2, ez_bd_some]
  have n1 : z_X12_isIn ev_s0 w 0 2 = some 0 := by
    exact md_inN (ev_n012 w h0 h1 h2)
  have m1 : z_X12_strays ev_s0 170 w = some (-1, ev_s0) := by
    unfold z_X12_strays
    rw [ez_bdo (ev_m0 ev_MF0), n1, ez_bd_some, if_pos rfl]
  exact ⟨-1, ev_s0, c1, m1⟩
set_option maxRecDepth 100000 in
theorem pr_image (w : Int32) : ∃ r σ1 σ2, z_X11_image ev_s0 0 w = some (r, σ1) ∧ z_X12_image σ1 170 w = some (r, σ2) := by
  refine ev_3 (P := fun w => ∃ r σ1 σ2, z_X11_image ev_s0 0 w = some (r, σ1) ∧ z_X12_image σ1 170 w = some (r, σ2)) w ⟨(by obtain ⟨σ1, σ2, h1, h2⟩ := ev_of2 (q := z_X11_image ev_s0 0 (nI 0)) (f := fun σ => z_X12_image σ 170 (nI 0)) (r := 0) (by decide +kernel); exact ⟨0, σ1, σ2, h1, h2⟩), (by obtain ⟨σ1, σ2, h1, h2⟩ := ev_of2 (q := z_X11_image ev_s0 0 (nI 1)) (f := fun σ => z_X12_image σ 170 (nI 1)) (r := 0) (by decide +kernel); exact ⟨0, σ1, σ2, h1, h2⟩), (by obtain ⟨σ1, σ2, h1, h2⟩ := ev_of2 (q := z_X11_image ev_s0 0 (nI 2)) (f := fun σ => z_X12_image σ 170 (nI 2)) (r := 0) (by decide +kernel); exact ⟨0, σ1, σ2, h1, h2⟩)⟩ (fun h => ?_) (fun h1 h2 => ?_)
  · refine ⟨-1, ev_s0, ev_s0, ?_, ?_⟩
    · simp only [z_X11_image, z_X11_image_9, ez_bdo ev_o0, ez_bdo ev_o2, ez_bdo ev_o25, ez_bdo ev_o26, ez_bdo ev_o39, ez_bdo ev_o43, ez_bdo ev_o158, ez_bdo ev_o162, ez_bdo ev_o164, ev_cd, cl_hasKey, cl_hasLock, cl_hasRoom, cl_hasDoor, cl_hasPerson, ez_bd_some, ez_b2_some, ez_let_eq, ez_nr0, ez_nr1, if_true, if_false, ez_fixN, h]
    · simp only [z_X12_image, z_X12_image_13, ez_bdo (ev_m0 ev_MF0), ev_md ev_MF0, md_isKey ev_MF0, md_isLock ev_MF0, md_isRoom ev_MF0, md_isDoor ev_MF0, md_isPerson ev_MF0, ez_bd_some, ez_b2_some, ez_let_eq, ez_nr0, ez_nr1, if_true, if_false, md_many ev_MF0, md_bolts ev_MF0, ez_fixN, md_inN (σ := ev_s0) (k := w) (lo := 0) (hi := 2) (Or.inl h)]
  · have q1 : (2 : Int32) < w := Int32.lt_iff_toInt_lt.mpr (by have := Int32.le_iff_toInt_le.mp h2; rw [nI_toInt (by decide)] at this; have h9 : (2 : Int32).toInt = 2 := (by decide); omega)
    have q2 : ¬ w < 3 := fun q => by have := Int32.le_iff_toInt_le.mp h2; rw [nI_toInt (by decide)] at this; have q9 := Int32.lt_iff_toInt_lt.mp q; have h9 : (3 : Int32).toInt = 3 := (by decide); omega
    have q3 : (3 : Int32) ≤ w := h2
    refine ⟨-1, ev_s0, ev_s0, ?_, ?_⟩
    · simp only [z_X11_image, z_X11_image_9, ez_bdo ev_o0, ez_bdo ev_o2, ez_bdo ev_o25, ez_bdo ev_o26, ez_bdo ev_o39, ez_bdo ev_o43, ez_bdo ev_o158, ez_bdo ev_o162, ez_bdo ev_o164, ev_cd, cl_hasKey, cl_hasLock, cl_hasRoom, cl_hasDoor, cl_hasPerson, ez_bd_some, ez_b2_some, ez_let_eq, ez_nr0, ez_nr1, if_true, if_false, ez_fixN, h1, q2, q3]
    · simp only [z_X12_image, z_X12_image_13, ez_bdo (ev_m0 ev_MF0), ev_md ev_MF0, md_isKey ev_MF0, md_isLock ev_MF0, md_isRoom ev_MF0, md_isDoor ev_MF0, md_isPerson ev_MF0, ez_bd_some, ez_b2_some, ez_let_eq, ez_nr0, ez_nr1, if_true, if_false, md_many ev_MF0, md_bolts ev_MF0, ez_fixN, md_inN (σ := ev_s0) (k := w) (lo := 0) (hi := 2) (Or.inr q1)]
set_option maxRecDepth 100000 in
theorem pr_back (w : Int32) : ∃ r σ1 σ2, z_X11_back ev_s0 0 w = some (r, σ1) ∧ z_X12_back σ1 170 w = some (r, σ2) := by
  refine ev_3 (P := fun w => ∃ r σ1 σ2, z_X11_back ev_s0 0 w = some (r, σ1) ∧ z_X12_back σ1 170 w = some (r, σ2)) w ⟨(by obtain ⟨σ1, σ2, h1, h2⟩ := ev_of2 (q := z_X11_back ev_s0 0 (nI 0)) (f := fun σ => z_X12_back σ 170 (nI 0)) (r := (-1)) (by decide +kernel); exact ⟨(-1), σ1, σ2, h1, h2⟩), (by obtain ⟨σ1, σ2, h1, h2⟩ := ev_of2 (q := z_X11_back ev_s0 0 (nI 1)) (f := fun σ => z_X12_back σ 170 (nI 1)) (r := (-1)) (by decide +kernel); exact ⟨(-1), σ1, σ2, h1, h2⟩), (by obtain ⟨σ1, σ2, h1, h2⟩ := ev_of2 (q := z_X11_back ev_s0 0 (nI 2)) (f := fun σ => z_X12_back σ 170 (nI 2)) (r := (-1)) (by decide +kernel); exact ⟨(-1), σ1, σ2, h1, h2⟩)⟩ (fun h => ?_) (fun h1 h2 => ?_)
  · refine ⟨-1, ev_s0, ev_s0, ?_, ?_⟩
    · simp only [z_X11_back, z_X11_back_20, ez_bdo ev_o0, ez_bdo ev_o2, ez_bdo ev_o25, ez_bdo ev_o26, ez_bdo ev_o39, ez_bdo ev_o43, ez_bdo ev_o158, ez_bdo ev_o162, ez_bdo ev_o164, ev_cd, cl_hasKey, cl_hasLock, cl_hasRoom, cl_hasDoor, cl_hasPerson, ez_bd_some, ez_b2_some, ez_let_eq, ez_nr0, ez_nr1, if_true, if_false, ez_fixN, h]
    · simp only [z_X12_back, z_X12_back_22, z_X12_back_18, ez_bdo (ev_m0 ev_MF0), ev_md ev_MF0, md_isKey ev_MF0, md_isLock ev_MF0, md_isRoom ev_MF0, md_isDoor ev_MF0, md_isPerson ev_MF0, ez_bd_some, ez_b2_some, ez_let_eq, ez_nr0, ez_nr1, if_true, if_false, md_many ev_MF0, md_bolts ev_MF0, ez_fixN, md_inN (σ := ev_s0) (k := w) (lo := 0) (hi := 2) (Or.inl h)]
  · have q1 : (2 : Int32) < w := Int32.lt_iff_toInt_lt.mpr (by have := Int32.le_iff_toInt_le.mp h2; rw [nI_toInt (by decide)] at this; have h9 : (2 : Int32).toInt = 2 := (by decide); omega)
    have q2 : ¬ w < 3 := fun q => by have := Int32.le_iff_toInt_le.mp h2; rw [nI_toInt (by decide)] at this; have q9 := Int32.lt_iff_toInt_lt.mp q; have h9 : (3 : Int32).toInt = 3 := (by decide); omega
    have q3 : (3 : Int32) ≤ w := h2
    refine ⟨-1, ev_s0, ev_s0, ?_, ?_⟩
    · simp only [z_X11_back, z_X11_back_20, ez_bdo ev_o0, ez_bdo ev_o2, ez_bdo ev_o25, ez_bdo ev_o26, ez_bdo ev_o39, ez_bdo ev_o43, ez_bdo ev_o158, ez_bdo ev_o162, ez_bdo ev_o164, ev_cd, cl_hasKey, cl_hasLock, cl_hasRoom, cl_hasDoor, cl_hasPerson, ez_bd_some, ez_b2_some, ez_let_eq, ez_nr0, ez_nr1, if_true, if_false, ez_fixN, h1, q2, q3]
    · simp only [z_X12_back, z_X12_back_22, z_X12_back_18, ez_bdo (ev_m0 ev_MF0), ev_md ev_MF0, md_isKey ev_MF0, md_isLock ev_MF0, md_isRoom ev_MF0, md_isDoor ev_MF0, md_isPerson ev_MF0, ez_bd_some, ez_b2_some, ez_let_eq, ez_nr0, ez_nr1, if_true, if_false, md_many ev_MF0, md_bolts ev_MF0, ez_fixN, md_inN (σ := ev_s0) (k := w) (lo := 0) (hi := 2) (Or.inr q1)]
set_option maxRecDepth 100000 in
theorem cf_lies (w : Int32) : z_X11_lies ev_s0 0 w = some (-2) := by
  have k1 : z_X2_pathDoor ev_s0 158 w = some (-2) := by
    simp only [z_X2_pathDoor, z_X2_pathDoor_30, z_X2_pathDoor_32, ez_bdo ev_o158, ez_bdo ev_o164, ev_cd, ez_bd_some, ez_b2_some, ez_let_eq, ez_nr0, ez_nr1, if_true, if_false]
    exact ev_rng w _ _
  simp only [z_X11_lies, ez_bdo ev_o0, ez_bdo ev_o2, ez_bdo ev_o25, ez_bdo ev_o26, ez_bdo ev_o39, ez_bdo ev_o43, ez_bdo ev_o158, ez_bdo ev_o162, ez_bdo ev_o164, ev_cd, cl_hasKey, cl_hasLock, cl_hasRoom, cl_hasDoor, cl_hasPerson, ez_bd_some, ez_b2_some, ez_let_eq, ez_nr0, ez_nr1, if_true, if_false, ez_fixN, k1]
set_option maxRecDepth 100000 in
theorem mf_lies (w : Int32) : z_X12_lies ev_s0 170 w = some (-2) := by
  have k1 := md_isIn (σ := ev_s0) w
  simp only [z_X12_lies, z_X12_lies_25, ez_bdo (ev_m0 ev_MF0), ev_md ev_MF0, md_isKey ev_MF0, md_isLock ev_MF0, md_isRoom ev_MF0, md_isDoor ev_MF0, md_isPerson ev_MF0, ez_bd_some, ez_b2_some, ez_let_eq, ez_nr0, ez_nr1, if_true, if_false, md_many ev_MF0, md_bolts ev_MF0, ez_fixN]
  rw [k1]
  simp only [ez_bd_some, ez_b2_some, ez_let_eq, ez_nr0, ez_nr1, if_true, if_false]
set_option maxRecDepth 100000 in
theorem pr_lies (w : Int32) : ∃ r, z_X11_lies ev_s0 0 w = some r ∧ z_X12_lies ev_s0 170 w = some r := ⟨-2, cf_lies w, mf_lies w⟩
set_option maxRecDepth 100000 in
theorem cf_untell (w : Int32) : z_X11_untell ev_s0 0 w = some (0, ev_s0) := by
  have k1 : z_X10_takeBack ev_s0 164 w = some (0, ev_s0) := by
    simp only [z_X10_takeBack, z_X10_takeBack_28, ez_bdo ev_o158, ez_bdo ev_o164, ev_cd, ez_bd_some, ez_b2_some, ez_let_eq, ez_nr0, ez_nr1, if_true, if_false]
    exact ev_rng w _ _
  simp only [z_X11_untell, ez_bdo ev_o0, ez_bdo ev_o2, ez_bdo ev_o25, ez_bdo ev_o26, ez_bdo ev_o39, ez_bdo ev_o43, ez_bdo ev_o158, ez_bdo ev_o162, ez_bdo ev_o164, ev_cd, cl_hasKey, cl_hasLock, cl_hasRoom, cl_hasDoor, cl_hasPerson, ez_bd_some, ez_b2_some, ez_let_eq, ez_nr0, ez_nr1, if_true, if_false, ez_fixN, k1]
set_option maxRecDepth 100000 in
theorem mf_untell (w : Int32) : z_X12_untell ev_s0 170 w = some (0, ev_s0) := by
  have k1 := md_isIn (σ := ev_s0) w
  simp only [z_X12_untell, z_X12_untell_23, ez_bdo (ev_m0 ev_MF0), ev_md ev_MF0, md_isKey ev_MF0, md_isLock ev_MF0, md_isRoom ev_MF0, md_isDoor ev_MF0, md_isPerson ev_MF0, ez_bd_some, ez_b2_some, ez_let_eq, ez_nr0, ez_nr1, if_true, if_false, md_many ev_MF0, md_bolts ev_MF0, ez_fixN]
  rw [k1]
  simp only [ez_bd_some, ez_b2_some, ez_let_eq, ez_nr0, ez_nr1, if_true, if_false]
set_option maxRecDepth 100000 in
theorem pr_untell (w : Int32) : ∃ r σ1 σ2, z_X11_untell ev_s0 0 w = some (r, σ1) ∧ z_X12_untell σ1 170 w = some (r, σ2) := ⟨0, ev_s0, ev_s0, cf_untell w, mf_untell w⟩
set_option maxRecDepth 100000 in
theorem ev_fp : z_X2_forgetPath ev_s0 158 = some ((), ev_s0) := ez_qU_eq (by decide +kernel)
set_option maxRecDepth 100000 in
theorem ev_pfl : ez_pf ev_s0 12 170 57 (.inl 0) = some ev_s0 := by
  have h : ez_qU ((ez_pf ev_s0 12 170 57 (.inl 0)).map (fun s => ((), s))) ev_s0 = true := by decide +kernel
  have h1 := ez_qU_eq h
  cases h2 : ez_pf ev_s0 12 170 57 (.inl 0) with
  | none => rw [h2] at h1; cases h1
  | some x => rw [h2] at h1; cases h1; rfl
set_option maxRecDepth 100000 in
theorem pr_route (a0 a1 : Int32) : ∃ r σ1 σ2, z_X11_route ev_s0 0 a0 a1 = some (r, σ1) ∧ z_X12_route σ1 170 a0 a1 = some (r, σ2) := ⟨-1, ev_s0, ev_s0, by simp only [z_X11_route, z_X11_route_29, ez_bdo ev_o0, ez_bdo ev_o2, ez_bdo ev_o25, ez_bdo ev_o26, ez_bdo ev_o39, ez_bdo ev_o43, ez_bdo ev_o158, ez_bdo ev_o162, ez_bdo ev_o164, ev_cd, cl_hasKey, cl_hasLock, cl_hasRoom, cl_hasDoor, cl_hasPerson, ez_bd_some, ez_b2_some, ez_let_eq, ez_nr0, ez_nr1, if_true, if_false, ez_fixN, ev_fp], by simp only [z_X12_route, z_X12_route_64, z_X12_route_73, z_X12_route_127, z_X12_route_21, ez_bdo (ev_m0 ev_MF0), ev_md ev_MF0, md_isKey ev_MF0, md_isLock ev_MF0, md_isRoom ev_MF0, md_isDoor ev_MF0, md_isPerson ev_MF0, ez_bd_some, ez_b2_some, ez_let_eq, ez_nr0, ez_nr1, if_true, if_false, md_many ev_MF0, md_bolts ev_MF0, ez_fixN, ev_pfl]⟩
set_option maxRecDepth 100000 in
theorem ev_pfe {ci a k : Nat} {x : Int32} (h0 : x = 0) (h : ez_qU ((ez_pf ev_s0 ci a k (.inl 0)).map (fun s => ((), s))) ev_s0 = true) : ez_pf ev_s0 ci a k (.inl x) = some ev_s0 := by
  subst h0
  have h1 := ez_qU_eq h
  cases h2 : ez_pf ev_s0 ci a k (.inl 0) with
  | none => rw [h2] at h1; cases h1
  | some x => rw [h2] at h1; cases h1; rfl
set_option maxRecDepth 100000 in
theorem pr_end (w : Int32) : ∃ r σ1 σ2, z_X11_end ev_s0 0 w = some (r, σ1) ∧ z_X12_end σ1 170 w = some (r, σ2) := by
  by_cases h : w < 0
  · exact ⟨-1, ev_s0, ev_s0, by simp only [z_X11_end, z_X11_end_12, ez_bdo ev_o0, ez_bdo ev_o2, ez_bdo ev_o25, ez_bdo ev_o26, ez_bdo ev_o39, ez_bdo ev_o43, ez_bdo ev_o158, ez_bdo ev_o162, ez_bdo ev_o164, ev_cd, cl_hasKey, cl_hasLock, cl_hasRoom, cl_hasDoor, cl_hasPerson, ez_bd_some, ez_b2_some, ez_let_eq, ez_nr0, ez_nr1, if_true, if_false, ez_fixN, h], by simp only [z_X12_end, z_X12_end_12, ez_bdo (ev_m0 ev_MF0), ev_md ev_MF0, md_isKey ev_MF0, md_isLock ev_MF0, md_isRoom ev_MF0, md_isDoor ev_MF0, md_isPerson ev_MF0, ez_bd_some, ez_b2_some, ez_let_eq, ez_nr0, ez_nr1, if_true, if_false, md_many ev_MF0, md_bolts ev_MF0, ez_fixN, h]⟩
  by_cases h1 : w ≤ 0
  · have h2 : w = 0 := Int32.toInt_inj.mp (by rw [Int32.lt_iff_toInt_lt] at h; rw [Int32.le_iff_toInt_le] at h1; omega)
    exact ⟨w, ev_s0, ev_s0, by simp only [z_X11_end, z_X11_end_12, ez_bdo ev_o0, ez_bdo ev_o2, ez_bdo ev_o25, ez_bdo ev_o26, ez_bdo ev_o39, ez_bdo ev_o43, ez_bdo ev_o158, ez_bdo ev_o162, ez_bdo ev_o164, ev_cd, cl_hasKey, cl_hasLock, cl_hasRoom, cl_hasDoor, cl_hasPerson, ez_bd_some, ez_b2_some, ez_let_eq, ez_nr0, ez_nr1, if_true, if_false, ez_fixN, h, h1, ev_pfe (ci := 11) (a := 0) (k := 1) h2 (by decide +kernel)], by simp only [z_X12_end, z_X12_end_12, ez_bdo (ev_m0 ev_MF0), ev_md ev_MF0, md_isKey ev_MF0, md_isLock ev_MF0, md_isRoom ev_MF0, md_isDoor ev_MF0, md_isPerson ev_MF0, ez_bd_some, ez_b2_some, ez_let_eq, ez_nr0, ez_nr1, if_true, if_false, md_many ev_MF0, md_bolts ev_MF0, ez_fixN, h, h1, ev_pfe (ci := 12) (a := 170) (k := 2) h2 (by decide +kernel)]⟩
  · exact ⟨-1, ev_s0, ev_s0, by simp only [z_X11_end, z_X11_end_12, ez_bdo ev_o0, ez_bdo ev_o2, ez_bdo ev_o25, ez_bdo ev_o26, ez_bdo ev_o39, ez_bdo ev_o43, ez_bdo ev_o158, ez_bdo ev_o162, ez_bdo ev_o164, ev_cd, cl_hasKey, cl_hasLock, cl_hasRoom, cl_hasDoor, cl_hasPerson, ez_bd_some, ez_b2_some, ez_let_eq, ez_nr0, ez_nr1, if_true, if_false, ez_fixN, h, h1], by simp only [z_X12_end, z_X12_end_12, ez_bdo (ev_m0 ev_MF0), ev_md ev_MF0, md_isKey ev_MF0, md_isLock ev_MF0, md_isRoom ev_MF0, md_isDoor ev_MF0, md_isPerson ev_MF0, ez_bd_some, ez_b2_some, ez_let_eq, ez_nr0, ez_nr1, if_true, if_false, md_many ev_MF0, md_bolts ev_MF0, ez_fixN, h, h1]⟩
