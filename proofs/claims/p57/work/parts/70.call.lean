/-! What the law's calls leave: a heap that is so, with both times alike. -/
def J (s : ez_H) : Prop := ∃ q : tz_P, (q.1 0 = q.1 1 ∧ q.1 4 + q.1 5 ≤ 40) ∧ tp q s
theorem J_kp {q : tz_P} {s : ez_H} (e : q.1 0 = q.1 1 ∧ q.1 4 + q.1 5 ≤ 40) (h : tp (kp q) s) : J s := ⟨kp q, ⟨e.1, kp_40 q⟩, h⟩
theorem J_or {q : tz_P} {s : ez_H} (e : q.1 0 = q.1 1 ∧ q.1 4 + q.1 5 ≤ 40) (h : tp q s ∨ tp (kp q) s) : J s := by
  rcases h with h | h
  · exact ⟨q, e, h⟩
  · exact J_kp e h
theorem J_un {q : tz_P} {s : ez_H} {a b : Int} (e : q.1 0 = q.1 1 ∧ q.1 4 + q.1 5 ≤ 40) (hab : a + b ≤ 40) (h : tp q s ∨ tp (up (up q 4 a) 5 b) s) : J s := by
  rcases h with h | h
  · exact ⟨q, e, h⟩
  · exact ⟨up (up q 4 a) 5 b, ⟨e.1, hab⟩, h⟩
theorem J_pq {q : tz_P} {z : Int32 × ez_H} (e : q.1 0 = q.1 1 ∧ q.1 4 + q.1 5 ≤ 40) (h : PQ q z) : J z.2 := by
  obtain ⟨r, h1, h2⟩ := h
  exact ⟨r, ⟨by rw [h1.1, h1.2.1, e.1], h1.2.2 e.2⟩, h2⟩
theorem j_X11_about {s : ez_H} {x1 : Int32} (h : J s) : tz_O (fun _ => True) (z_X11_about s 0 x1) := by
  obtain ⟨q, e, hT⟩ := h
  exact tz_imp (tz_X11_about hT tc_0) (fun _ _ => trivial)
theorem j_X11_ask {s : ez_H} {x1 x2 : Int32} (h : J s) : tz_O (fun z : Int32 × ez_H => J z.2) (z_X11_ask s 0 x1 x2) := by
  obtain ⟨q, e, hT⟩ := h
  exact tz_imp (tz_X11_ask hT tc_0) (fun z h => by first | exact ⟨q, e, h⟩ | exact ⟨q, e, h.2⟩ | exact ⟨q, e, h.2.2⟩ | exact J_or e h | exact J_or e h.2 | exact J_or e h.2.2 | exact J_kp e h | exact J_kp e h.2 | exact J_kp e h.2.2)
theorem j_X11_back {s : ez_H} {x1 : Int32} (h : J s) : tz_O (fun z : Int32 × ez_H => J z.2) (z_X11_back s 0 x1) := by
  obtain ⟨q, e, hT⟩ := h
  exact tz_imp (tz_X11_back hT tc_0) (fun z h => by first | exact ⟨q, e, h⟩ | exact ⟨q, e, h.2⟩ | exact ⟨q, e, h.2.2⟩ | exact J_or e h | exact J_or e h.2 | exact J_or e h.2.2 | exact J_kp e h | exact J_kp e h.2 | exact J_kp e h.2.2)
theorem j_X11_barred {s : ez_H} (h : J s) : tz_O (fun _ => True) (z_X11_barred s 0) := by
  obtain ⟨q, e, hT⟩ := h
  exact tz_imp (tz_X11_barred hT tc_0) (fun _ _ => trivial)
theorem j_X11_best {s : ez_H} (h : J s) : tz_O (fun _ => True) (z_X11_best s 0) := by
  obtain ⟨q, e, hT⟩ := h
  exact tz_imp (tz_X11_best hT tc_0) (fun _ _ => trivial)
theorem j_X11_bitting {s : ez_H} {x1 : Int32} (h : J s) : tz_O (fun z : Int32 × ez_H => J z.2) (z_X11_bitting s 0 x1) := by
  obtain ⟨q, e, hT⟩ := h
  exact tz_imp (tz_X11_bitting hT tc_0) (fun z h => by first | exact ⟨q, e, h⟩ | exact ⟨q, e, h.2⟩ | exact ⟨q, e, h.2.2⟩ | exact J_or e h | exact J_or e h.2 | exact J_or e h.2.2 | exact J_kp e h | exact J_kp e h.2 | exact J_kp e h.2.2)
theorem j_X11_blanks {s : ez_H} (h : J s) : tz_O (fun z : Int32 × ez_H => J z.2) (z_X11_blanks s 0) := by
  obtain ⟨q, e, hT⟩ := h
  exact tz_imp (tz_X11_blanks hT tc_0) (fun z h => by first | exact ⟨q, e, h⟩ | exact ⟨q, e, h.2⟩ | exact ⟨q, e, h.2.2⟩ | exact J_or e h | exact J_or e h.2 | exact J_or e h.2.2 | exact J_kp e h | exact J_kp e h.2 | exact J_kp e h.2.2)
theorem j_X11_book {s : ez_H} {x1 : Int32} (h : J s) : tz_O (fun z : Int32 × ez_H => J z.2) (z_X11_book s 0 x1) := by
  obtain ⟨q, e, hT⟩ := h
  exact tz_imp (tz_X11_book hT tc_0) (fun z h => by first | exact ⟨q, e, h⟩ | exact ⟨q, e, h.2⟩ | exact ⟨q, e, h.2.2⟩ | exact J_or e h | exact J_or e h.2 | exact J_or e h.2.2 | exact J_kp e h | exact J_kp e h.2 | exact J_kp e h.2.2)
theorem j_X11_broken {s : ez_H} {x1 : Int32} (h : J s) : tz_O (fun _ => True) (z_X11_broken s 0 x1) := by
  obtain ⟨q, e, hT⟩ := h
  exact tz_imp (tz_X11_broken hT tc_0) (fun _ _ => trivial)
theorem j_X11_bunch {s : ez_H} {x1 x2 x3 : Int32} (h : J s) : tz_O (fun _ => True) (z_X11_bunch s 0 x1 x2 x3) := by
  obtain ⟨q, e, hT⟩ := h
  exact tz_imp (tz_X11_bunch hT tc_0) (fun _ _ => trivial)
theorem j_X11_comers {s : ez_H} {x1 : Int32} (h : J s) : tz_O (fun _ => True) (z_X11_comers s 0 x1) := by
  obtain ⟨q, e, hT⟩ := h
  exact tz_imp (tz_X11_comers hT tc_0) (fun _ _ => trivial)
theorem j_X11_common {s : ez_H} {x1 x2 : Int32} (h : J s) : tz_O (fun z : Int32 × ez_H => J z.2) (z_X11_common s 0 x1 x2) := by
  obtain ⟨q, e, hT⟩ := h
  exact tz_imp (tz_X11_common hT tc_0) (fun z h => by first | exact ⟨q, e, h⟩ | exact ⟨q, e, h.2⟩ | exact ⟨q, e, h.2.2⟩ | exact J_or e h | exact J_or e h.2 | exact J_or e h.2.2 | exact J_kp e h | exact J_kp e h.2 | exact J_kp e h.2.2)
theorem j_X11_cut {s : ez_H} {x1 x2 : Int32} (h : J s) : tz_O (fun _ => True) (z_X11_cut s 0 x1 x2) := by
  obtain ⟨q, e, hT⟩ := h
  exact tz_imp (tz_X11_cut hT tc_0) (fun _ _ => trivial)
theorem j_X11_cutFor {s : ez_H} {x1 x2 : Int32} (h : J s) : tz_O (fun z : Int32 × ez_H => J z.2) (z_X11_cutFor s 0 x1 x2) := by
  obtain ⟨q, e, hT⟩ := h
  exact tz_imp (tz_X11_cutFor hT tc_0) (fun z h => by first | exact ⟨q, e, h⟩ | exact ⟨q, e, h.2⟩ | exact ⟨q, e, h.2.2⟩ | exact J_or e h | exact J_or e h.2 | exact J_or e h.2.2 | exact J_kp e h | exact J_kp e h.2 | exact J_kp e h.2.2)
theorem j_X11_door {s : ez_H} {x1 x2 : Int32} (h : J s) : tz_O (fun _ => True) (z_X11_door s 0 x1 x2) := by
  obtain ⟨q, e, hT⟩ := h
  exact tz_imp (tz_X11_door hT tc_0) (fun _ _ => trivial)
theorem j_X11_end {s : ez_H} {x1 : Int32} (h : J s) : tz_O (fun z : Int32 × ez_H => J z.2) (z_X11_end s 0 x1) := by
  obtain ⟨q, e, hT⟩ := h
  exact tz_imp (tz_X11_end hT tc_0) (fun z h => by first | exact ⟨q, e, h⟩ | exact ⟨q, e, h.2⟩ | exact ⟨q, e, h.2.2⟩ | exact J_or e h | exact J_or e h.2 | exact J_or e h.2.2 | exact J_kp e h | exact J_kp e h.2 | exact J_kp e h.2.2)
theorem j_X11_fault {s : ez_H} {x1 : Int32} (h : J s) : tz_O (fun _ => True) (z_X11_fault s 0 x1) := by
  obtain ⟨q, e, hT⟩ := h
  exact tz_imp (tz_X11_fault hT tc_0) (fun _ _ => trivial)
theorem j_X11_feed {s : ez_H} {x1 x2 x3 x4 x5 : Int32} (h : J s) : tz_O (fun z : Int32 × ez_H => J z.2) (z_X11_feed s 0 x1 x2 x3 x4 x5) := by
  obtain ⟨q, e, hT⟩ := h
  exact tz_imp (tz_X11_feed hT tc_0) (fun z h => by first | exact ⟨q, e, h⟩ | exact ⟨q, e, h.2⟩ | exact ⟨q, e, h.2.2⟩ | exact J_or e h | exact J_or e h.2 | exact J_or e h.2.2 | exact J_kp e h | exact J_kp e h.2 | exact J_kp e h.2.2)
theorem j_X11_file {s : ez_H} {x1 x2 : Int32} (h : J s) : tz_O (fun z : Int32 × ez_H => J z.2) (z_X11_file s 0 x1 x2) := by
  obtain ⟨q, e, hT⟩ := h
  exact tz_imp (tz_X11_file hT tc_0) (fun z h => by first | exact ⟨q, e, h⟩ | exact ⟨q, e, h.2⟩ | exact ⟨q, e, h.2.2⟩ | exact J_or e h | exact J_or e h.2 | exact J_or e h.2.2 | exact J_kp e h | exact J_kp e h.2 | exact J_kp e h.2.2)
theorem j_X11_filing {s : ez_H} {x1 x2 x3 : Int32} (h : J s) : tz_O (fun z : Int32 × ez_H => J z.2) (z_X11_filing s 0 x1 x2 x3) := by
  obtain ⟨q, e, hT⟩ := h
  exact tz_imp (tz_X11_filing hT tc_0) (fun z h => by first | exact ⟨q, e, h⟩ | exact ⟨q, e, h.2⟩ | exact ⟨q, e, h.2.2⟩ | exact J_or e h | exact J_or e h.2 | exact J_or e h.2.2 | exact J_kp e h | exact J_kp e h.2 | exact J_kp e h.2.2)
theorem j_X11_find {s : ez_H} {x1 x2 : Int32} (h : J s) : tz_O (fun z : Int32 × ez_H => J z.2) (z_X11_find s 0 x1 x2) := by
  obtain ⟨q, e, hT⟩ := h
  exact tz_imp (tz_X11_find hT tc_0) (fun z h => by first | exact ⟨q, e, h⟩ | exact ⟨q, e, h.2⟩ | exact ⟨q, e, h.2.2⟩ | exact J_or e h | exact J_or e h.2 | exact J_or e h.2.2 | exact J_kp e h | exact J_kp e h.2 | exact J_kp e h.2.2)
theorem j_X11_fits {s : ez_H} {x1 : Int32} (h : J s) : tz_O (fun z : Int32 × ez_H => J z.2) (z_X11_fits s 0 x1) := by
  obtain ⟨q, e, hT⟩ := h
  exact tz_imp (tz_X11_fits hT tc_0) (fun z h => by first | exact ⟨q, e, h⟩ | exact ⟨q, e, h.2⟩ | exact ⟨q, e, h.2.2⟩ | exact J_or e h | exact J_or e h.2 | exact J_or e h.2.2 | exact J_kp e h | exact J_kp e h.2 | exact J_kp e h.2.2)
theorem j_X11_ghost {s : ez_H} {x1 x2 : Int32} (h : J s) : tz_O (fun z : Int32 × ez_H => J z.2) (z_X11_ghost s 0 x1 x2) := by
  obtain ⟨q, e, hT⟩ := h
  exact tz_imp (tz_X11_ghost hT tc_0) (fun z h => by first | exact ⟨q, e, h⟩ | exact ⟨q, e, h.2⟩ | exact ⟨q, e, h.2.2⟩ | exact J_or e h | exact J_or e h.2 | exact J_or e h.2.2 | exact J_kp e h | exact J_kp e h.2 | exact J_kp e h.2.2)
theorem j_X11_ghosts {s : ez_H} {x1 : Int32} (h : J s) : tz_O (fun z : Int32 × ez_H => J z.2) (z_X11_ghosts s 0 x1) := by
  obtain ⟨q, e, hT⟩ := h
  exact tz_imp (tz_X11_ghosts hT tc_0) (fun z h => by first | exact ⟨q, e, h⟩ | exact ⟨q, e, h.2⟩ | exact ⟨q, e, h.2.2⟩ | exact J_or e h | exact J_or e h.2 | exact J_or e h.2.2 | exact J_kp e h | exact J_kp e h.2 | exact J_kp e h.2.2)
theorem j_X11_give {s : ez_H} {x1 x2 : Int32} (h : J s) : tz_O (fun z : Int32 × ez_H => J z.2) (z_X11_give s 0 x1 x2) := by
  obtain ⟨q, e, hT⟩ := h
  exact tz_imp (tz_X11_give hT tc_0) (fun z h => by first | exact ⟨q, e, h⟩ | exact ⟨q, e, h.2⟩ | exact ⟨q, e, h.2.2⟩ | exact J_or e h | exact J_or e h.2 | exact J_or e h.2.2 | exact J_kp e h | exact J_kp e h.2 | exact J_kp e h.2.2)
theorem j_X11_hang {s : ez_H} {x1 : Int32} (h : J s) : tz_O (fun z : Int32 × ez_H => J z.2) (z_X11_hang s 0 x1) := by
  obtain ⟨q, e, hT⟩ := h
  exact tz_imp (tz_X11_hang hT tc_0) (fun z h => by first | exact ⟨q, e, h⟩ | exact ⟨q, e, h.2⟩ | exact ⟨q, e, h.2.2⟩ | exact J_or e h | exact J_or e h.2 | exact J_or e h.2.2 | exact J_kp e h | exact J_kp e h.2 | exact J_kp e h.2.2)
theorem j_X11_haunted {s : ez_H} (h : J s) : tz_O (fun z : Int32 × ez_H => J z.2) (z_X11_haunted s 0) := by
  obtain ⟨q, e, hT⟩ := h
  exact tz_imp (tz_X11_haunted hT tc_0) (fun z h => by first | exact ⟨q, e, h⟩ | exact ⟨q, e, h.2⟩ | exact ⟨q, e, h.2.2⟩ | exact J_or e h | exact J_or e h.2 | exact J_or e h.2.2 | exact J_kp e h | exact J_kp e h.2 | exact J_kp e h.2.2)
theorem j_X11_idle {s : ez_H} {x1 : Int32} (h : J s) : tz_O (fun _ => True) (z_X11_idle s 0 x1) := by
  obtain ⟨q, e, hT⟩ := h
  exact tz_imp (tz_X11_idle hT tc_0) (fun _ _ => trivial)
theorem j_X11_image {s : ez_H} {x1 : Int32} (h : J s) : tz_O (fun z : Int32 × ez_H => J z.2) (z_X11_image s 0 x1) := by
  obtain ⟨q, e, hT⟩ := h
  exact tz_imp (tz_X11_image hT tc_0) (fun z h => by first | exact ⟨q, e, h⟩ | exact ⟨q, e, h.2⟩ | exact ⟨q, e, h.2.2⟩ | exact J_or e h | exact J_or e h.2 | exact J_or e h.2.2 | exact J_kp e h | exact J_kp e h.2 | exact J_kp e h.2.2)
theorem j_X11_keeps {s : ez_H} {x1 : Int32} (h : J s) : tz_O (fun z : Int32 × ez_H => J z.2) (z_X11_keeps s 0 x1) := by
  obtain ⟨q, e, hT⟩ := h
  exact tz_imp (tz_X11_keeps hT tc_0) (fun z h => by first | exact ⟨q, e, h⟩ | exact ⟨q, e, h.2⟩ | exact ⟨q, e, h.2.2⟩ | exact J_or e h | exact J_or e h.2 | exact J_or e h.2.2 | exact J_kp e h | exact J_kp e h.2 | exact J_kp e h.2.2)
theorem j_X11_key {s : ez_H} {x1 x2 : Int32} (h : J s) : tz_O (fun _ => True) (z_X11_key s 0 x1 x2) := by
  obtain ⟨q, e, hT⟩ := h
  exact tz_imp (tz_X11_key hT tc_0) (fun _ _ => trivial)
theorem j_X11_lasts {s : ez_H} {x1 x2 : Int32} (h : J s) : tz_O (fun z : Int32 × ez_H => J z.2) (z_X11_lasts s 0 x1 x2) := by
  obtain ⟨q, e, hT⟩ := h
  exact tz_imp (tz_X11_lasts hT tc_0) (fun z h => by first | exact ⟨q, e, h⟩ | exact ⟨q, e, h.2⟩ | exact ⟨q, e, h.2.2⟩ | exact J_or e h | exact J_or e h.2 | exact J_or e h.2.2 | exact J_kp e h | exact J_kp e h.2 | exact J_kp e h.2.2)
theorem j_X11_law {s : ez_H} {x1 : Int32} (h : J s) : tz_O (fun z : Int32 × ez_H => J z.2) (z_X11_law s 0 x1) := by
  obtain ⟨q, e, hT⟩ := h
  exact tz_imp (tz_X11_law hT tc_0) (fun z h => by first | exact ⟨q, e, h⟩ | exact ⟨q, e, h.2⟩ | exact ⟨q, e, h.2.2⟩ | exact J_or e h | exact J_or e h.2 | exact J_or e h.2.2 | exact J_kp e h | exact J_kp e h.2 | exact J_kp e h.2.2)
theorem j_X11_leftOver {s : ez_H} {x1 : Int32} (h : J s) : tz_O (fun _ => True) (z_X11_leftOver s 0 x1) := by
  obtain ⟨q, e, hT⟩ := h
  exact tz_imp (tz_X11_leftOver hT tc_0) (fun _ _ => trivial)
theorem j_X11_legal {s : ez_H} (h : J s) : tz_O (fun z : Int32 × ez_H => J z.2) (z_X11_legal s 0) := by
  obtain ⟨q, e, hT⟩ := h
  exact tz_imp (tz_X11_legal hT tc_0) (fun z h => by first | exact ⟨q, e, h⟩ | exact ⟨q, e, h.2⟩ | exact ⟨q, e, h.2.2⟩ | exact J_or e h | exact J_or e h.2 | exact J_or e h.2.2 | exact J_kp e h | exact J_kp e h.2 | exact J_kp e h.2.2)
theorem j_X11_lies {s : ez_H} {x1 : Int32} (h : J s) : tz_O (fun _ => True) (z_X11_lies s 0 x1) := by
  obtain ⟨q, e, hT⟩ := h
  exact tz_imp (tz_X11_lies hT tc_0) (fun _ _ => trivial)
theorem j_X11_lock {s : ez_H} {x1 x2 : Int32} (h : J s) : tz_O (fun _ => True) (z_X11_lock s 0 x1 x2) := by
  obtain ⟨q, e, hT⟩ := h
  exact tz_imp (tz_X11_lock hT tc_0) (fun _ _ => trivial)
theorem j_X11_lose {s : ez_H} {x1 : Int32} (h : J s) : tz_O (fun z : Int32 × ez_H => J z.2) (z_X11_lose s 0 x1) := by
  obtain ⟨q, e, hT⟩ := h
  exact tz_imp (tz_X11_lose hT tc_0) (fun z h => by first | exact ⟨q, e, h⟩ | exact ⟨q, e, h.2⟩ | exact ⟨q, e, h.2.2⟩ | exact J_or e h | exact J_or e h.2 | exact J_or e h.2.2 | exact J_kp e h | exact J_kp e h.2 | exact J_kp e h.2.2)
theorem j_X11_master {s : ez_H} {x1 : Int32} (h : J s) : tz_O (fun z : Int32 × ez_H => J z.2) (z_X11_master s 0 x1) := by
  obtain ⟨q, e, hT⟩ := h
  exact tz_imp (tz_X11_master hT tc_0) (fun z h => by first | exact ⟨q, e, h⟩ | exact ⟨q, e, h.2⟩ | exact ⟨q, e, h.2.2⟩ | exact J_or e h | exact J_or e h.2 | exact J_or e h.2.2 | exact J_kp e h | exact J_kp e h.2 | exact J_kp e h.2.2)
theorem j_X11_odds {s : ez_H} {x1 x2 : Int32} (h : J s) : tz_O (fun z : Int32 × ez_H => J z.2) (z_X11_odds s 0 x1 x2) := by
  obtain ⟨q, e, hT⟩ := h
  exact tz_imp (tz_X11_odds hT tc_0) (fun z h => by first | exact ⟨q, e, h⟩ | exact ⟨q, e, h.2⟩ | exact ⟨q, e, h.2.2⟩ | exact J_or e h | exact J_or e h.2 | exact J_or e h.2.2 | exact J_kp e h | exact J_kp e h.2 | exact J_kp e h.2.2)
theorem j_X11_opens {s : ez_H} {x1 x2 : Int32} (h : J s) : tz_O (fun _ => True) (z_X11_opens s 0 x1 x2) := by
  obtain ⟨q, e, hT⟩ := h
  exact tz_imp (tz_X11_opens hT tc_0) (fun _ _ => trivial)
theorem j_X11_part {s : ez_H} {x1 x2 x3 : Int32} (h : J s) : tz_O (fun z : Int32 × ez_H => J z.2) (z_X11_part s 0 x1 x2 x3) := by
  obtain ⟨q, e, hT⟩ := h
  exact tz_imp (tz_X11_part hT tc_0) (fun z h => by first | exact ⟨q, e, h⟩ | exact ⟨q, e, h.2⟩ | exact ⟨q, e, h.2.2⟩ | exact J_or e h | exact J_or e h.2 | exact J_or e h.2.2 | exact J_kp e h | exact J_kp e h.2 | exact J_kp e h.2.2)
theorem j_X11_parts {s : ez_H} {x1 x2 : Int32} (h : J s) : tz_O (fun _ => True) (z_X11_parts s 0 x1 x2) := by
  obtain ⟨q, e, hT⟩ := h
  exact tz_imp (tz_X11_parts hT tc_0) (fun _ _ => trivial)
theorem j_X11_person {s : ez_H} {x1 x2 : Int32} (h : J s) : tz_O (fun _ => True) (z_X11_person s 0 x1 x2) := by
  obtain ⟨q, e, hT⟩ := h
  exact tz_imp (tz_X11_person hT tc_0) (fun _ _ => trivial)
theorem j_X11_pin {s : ez_H} {x1 x2 : Int32} (h : J s) : tz_O (fun z : Int32 × ez_H => J z.2) (z_X11_pin s 0 x1 x2) := by
  obtain ⟨q, e, hT⟩ := h
  exact tz_imp (tz_X11_pin hT tc_0) (fun z h => by first | exact ⟨q, e, h⟩ | exact ⟨q, e, h.2⟩ | exact ⟨q, e, h.2.2⟩ | exact J_or e h | exact J_or e h.2 | exact J_or e h.2.2 | exact J_kp e h | exact J_kp e h.2 | exact J_kp e h.2.2)
theorem j_X11_plan {s : ez_H} (h : J s) : tz_O (fun z : Int32 × ez_H => J z.2) (z_X11_plan s 0) := by
  obtain ⟨q, e, hT⟩ := h
  exact tz_imp (tz_X11_plan hT tc_0) (fun z h => by first | exact ⟨q, e, h⟩ | exact ⟨q, e, h.2⟩ | exact ⟨q, e, h.2.2⟩ | exact J_or e h | exact J_or e h.2 | exact J_or e h.2.2 | exact J_kp e h | exact J_kp e h.2 | exact J_kp e h.2.2)
theorem j_X11_rank {s : ez_H} {x1 : Int32} (h : J s) : tz_O (fun z : Int32 × ez_H => J z.2) (z_X11_rank s 0 x1) := by
  obtain ⟨q, e, hT⟩ := h
  exact tz_imp (tz_X11_rank hT tc_0) (fun z h => by first | exact ⟨q, e, h⟩ | exact ⟨q, e, h.2⟩ | exact ⟨q, e, h.2.2⟩ | exact J_or e h | exact J_or e h.2 | exact J_or e h.2.2 | exact J_kp e h | exact J_kp e h.2 | exact J_kp e h.2.2)
theorem j_X11_recut {s : ez_H} {x1 x2 : Int32} (h : J s) : tz_O (fun z : Int32 × ez_H => J z.2) (z_X11_recut s 0 x1 x2) := by
  obtain ⟨q, e, hT⟩ := h
  exact tz_imp (tz_X11_recut hT tc_0) (fun z h => by first | exact ⟨q, e, h⟩ | exact ⟨q, e, h.2⟩ | exact ⟨q, e, h.2.2⟩ | exact J_or e h | exact J_or e h.2 | exact J_or e h.2.2 | exact J_kp e h | exact J_kp e h.2 | exact J_kp e h.2.2)
theorem j_X11_redo {s : ez_H} (h : J s) : tz_O (fun z : Int32 × ez_H => J z.2) (z_X11_redo s 0) := by
  obtain ⟨q, e, hT⟩ := h
  exact tz_imp (tz_X11_redo hT tc_0) (fun z h => by first | exact ⟨q, e, h⟩ | exact ⟨q, e, h.2⟩ | exact ⟨q, e, h.2.2⟩ | exact J_or e h | exact J_or e h.2 | exact J_or e h.2.2 | exact J_kp e h | exact J_kp e h.2 | exact J_kp e h.2.2)
theorem j_X11_route {s : ez_H} {x1 x2 : Int32} (h : J s) : tz_O (fun z : Int32 × ez_H => J z.2) (z_X11_route s 0 x1 x2) := by
  obtain ⟨q, e, hT⟩ := h
  exact tz_imp (tz_X11_route hT tc_0) (fun z h => by first | exact ⟨q, e, h⟩ | exact ⟨q, e, h.2⟩ | exact ⟨q, e, h.2.2⟩ | exact J_or e h | exact J_or e h.2 | exact J_or e h.2.2 | exact J_kp e h | exact J_kp e h.2 | exact J_kp e h.2.2)
theorem j_X11_span {s : ez_H} {x1 x2 : Int32} (h : J s) : tz_O (fun _ => True) (z_X11_span s 0 x1 x2) := by
  obtain ⟨q, e, hT⟩ := h
  exact tz_imp (tz_X11_span hT tc_0) (fun _ _ => trivial)
theorem j_X11_strays {s : ez_H} {x1 : Int32} (h : J s) : tz_O (fun _ => True) (z_X11_strays s 0 x1) := by
  obtain ⟨q, e, hT⟩ := h
  exact tz_imp (tz_X11_strays hT tc_0) (fun _ _ => trivial)
theorem j_X11_stuck {s : ez_H} (h : J s) : tz_O (fun _ => True) (z_X11_stuck s 0) := by
  obtain ⟨q, e, hT⟩ := h
  exact tz_imp (tz_X11_stuck hT tc_0) (fun _ _ => trivial)
theorem j_X11_sure {s : ez_H} {x1 x2 : Int32} (h : J s) : tz_O (fun z : Int32 × ez_H => J z.2) (z_X11_sure s 0 x1 x2) := by
  obtain ⟨q, e, hT⟩ := h
  exact tz_imp (tz_X11_sure hT tc_0) (fun z h => by first | exact ⟨q, e, h⟩ | exact ⟨q, e, h.2⟩ | exact ⟨q, e, h.2.2⟩ | exact J_or e h | exact J_or e h.2 | exact J_or e h.2.2 | exact J_kp e h | exact J_kp e h.2 | exact J_kp e h.2.2)
theorem j_X11_together {s : ez_H} {x1 : Int32} (h : J s) : tz_O (fun z : Int32 × ez_H => J z.2) (z_X11_together s 0 x1) := by
  obtain ⟨q, e, hT⟩ := h
  exact tz_imp (tz_X11_together hT tc_0) (fun z h => by first | exact ⟨q, e, h⟩ | exact ⟨q, e, h.2⟩ | exact ⟨q, e, h.2.2⟩ | exact J_or e h | exact J_or e h.2 | exact J_or e h.2.2 | exact J_kp e h | exact J_kp e h.2 | exact J_kp e h.2.2)
theorem j_X11_trade {s : ez_H} {x1 x2 x3 : Int32} (h : J s) : tz_O (fun _ => True) (z_X11_trade s 0 x1 x2 x3) := by
  obtain ⟨q, e, hT⟩ := h
  exact tz_imp (tz_X11_trade hT tc_0) (fun _ _ => trivial)
theorem j_X11_tried {s : ez_H} {x1 x2 : Int32} (h : J s) (i_x2 : tq_iv 0 1 x2) : tz_O (fun z : Int32 × ez_H => J z.2) (z_X11_tried s 0 x1 x2) := by
  obtain ⟨q, e, hT⟩ := h
  exact tz_imp (tz_X11_tried hT tc_0 i_x2) (fun z h => by first | exact ⟨q, e, h⟩ | exact ⟨q, e, h.2⟩ | exact ⟨q, e, h.2.2⟩ | exact J_or e h | exact J_or e h.2 | exact J_or e h.2.2 | exact J_kp e h | exact J_kp e h.2 | exact J_kp e h.2.2)
theorem j_X11_twin {s : ez_H} {x1 : Int32} (h : J s) : tz_O (fun _ => True) (z_X11_twin s 0 x1) := by
  obtain ⟨q, e, hT⟩ := h
  exact tz_imp (tz_X11_twin hT tc_0) (fun _ _ => trivial)
theorem j_X11_undo {s : ez_H} (h : J s) : tz_O (fun z : Int32 × ez_H => J z.2) (z_X11_undo s 0) := by
  obtain ⟨q, e, hT⟩ := h
  exact tz_imp (tz_X11_undo hT tc_0) (fun z h => by first | exact ⟨q, e, h⟩ | exact ⟨q, e, h.2⟩ | exact ⟨q, e, h.2.2⟩ | exact J_or e h | exact J_or e h.2 | exact J_or e h.2.2 | exact J_kp e h | exact J_kp e h.2 | exact J_kp e h.2.2)
theorem j_X11_untell {s : ez_H} {x1 : Int32} (h : J s) : tz_O (fun z : Int32 × ez_H => J z.2) (z_X11_untell s 0 x1) := by
  obtain ⟨q, e, hT⟩ := h
  exact tz_imp (tz_X11_untell hT tc_0) (fun z h => by first | exact ⟨q, e, h⟩ | exact ⟨q, e, h.2⟩ | exact ⟨q, e, h.2.2⟩ | exact J_or e h | exact J_or e h.2 | exact J_or e h.2.2 | exact J_kp e h | exact J_kp e h.2 | exact J_kp e h.2.2)
theorem j_X11_walk {s : ez_H} {x1 x2 : Int32} (h : J s) : tz_O (fun z : Int32 × ez_H => J z.2) (z_X11_walk s 0 x1 x2) := by
  obtain ⟨q, e, hT⟩ := h
  exact tz_imp (tz_X11_walk hT tc_0) (fun z h => by first | exact ⟨q, e, h⟩ | exact ⟨q, e, h.2⟩ | exact ⟨q, e, h.2.2⟩ | exact J_or e h | exact J_or e h.2 | exact J_or e h.2.2 | exact J_kp e h | exact J_kp e h.2 | exact J_kp e h.2.2)
theorem j_X12_about {s : ez_H} {x1 : Int32} (h : J s) : tz_O (fun _ => True) (z_X12_about s 170 x1) := by
  obtain ⟨q, e, hT⟩ := h
  exact tz_imp (tz_X12_about hT tc_170) (fun _ _ => trivial)
theorem j_X12_ask {s : ez_H} {x1 x2 : Int32} (h : J s) : tz_O (fun _ => True) (z_X12_ask s 170 x1 x2) := by
  obtain ⟨q, e, hT⟩ := h
  exact tz_imp (tz_X12_ask hT tc_170) (fun _ _ => trivial)
theorem j_X12_back {s : ez_H} {x1 : Int32} (h : J s) : tz_O (fun z : Int32 × ez_H => J z.2) (z_X12_back s 170 x1) := by
  obtain ⟨q, e, hT⟩ := h
  exact tz_imp (tz_X12_back hT tc_170) (fun z h => by first | exact ⟨q, e, h⟩ | exact ⟨q, e, h.2⟩ | exact ⟨q, e, h.2.2⟩ | exact J_or e h | exact J_or e h.2 | exact J_or e h.2.2 | exact J_kp e h | exact J_kp e h.2 | exact J_kp e h.2.2)
theorem j_X12_barred {s : ez_H} (h : J s) : tz_O (fun _ => True) (z_X12_barred s 170) := by
  obtain ⟨q, e, hT⟩ := h
  exact tz_imp (tz_X12_barred hT tc_170) (fun _ _ => trivial)
theorem j_X12_best {s : ez_H} (h : J s) : tz_O (fun _ => True) (z_X12_best s 170) := by
  obtain ⟨q, e, hT⟩ := h
  exact tz_imp (tz_X12_best hT tc_170) (fun _ _ => trivial)
theorem j_X12_bitting {s : ez_H} {x1 : Int32} (h : J s) : tz_O (fun _ => True) (z_X12_bitting s 170 x1) := by
  obtain ⟨q, e, hT⟩ := h
  exact tz_imp (tz_X12_bitting hT tc_170) (fun _ _ => trivial)
theorem j_X12_blanks {s : ez_H} (h : J s) : tz_O (fun _ => True) (z_X12_blanks s 170) := by
  obtain ⟨q, e, hT⟩ := h
  exact tz_imp (tz_X12_blanks hT tc_170) (fun _ _ => trivial)
theorem j_X12_book {s : ez_H} {x1 : Int32} (h : J s) : tz_O (fun z : Int32 × ez_H => J z.2) (z_X12_book s 170 x1) := by
  obtain ⟨q, e, hT⟩ := h
  exact tz_imp (tz_X12_book hT tc_170) (fun z h => by first | exact ⟨q, e, h⟩ | exact ⟨q, e, h.2⟩ | exact ⟨q, e, h.2.2⟩ | exact J_or e h | exact J_or e h.2 | exact J_or e h.2.2 | exact J_kp e h | exact J_kp e h.2 | exact J_kp e h.2.2)
theorem j_X12_broken {s : ez_H} {x1 : Int32} (h : J s) : tz_O (fun _ => True) (z_X12_broken s 170 x1) := by
  obtain ⟨q, e, hT⟩ := h
  exact tz_imp (tz_X12_broken hT tc_170) (fun _ _ => trivial)
theorem j_X12_bunch {s : ez_H} {x1 x2 x3 : Int32} (h : J s) : tz_O (fun _ => True) (z_X12_bunch s 170 x1 x2 x3) := by
  obtain ⟨q, e, hT⟩ := h
  exact tz_imp (tz_X12_bunch hT tc_170) (fun _ _ => trivial)
theorem j_X12_comers {s : ez_H} {x1 : Int32} (h : J s) : tz_O (fun _ => True) (z_X12_comers s 170 x1) := by
  obtain ⟨q, e, hT⟩ := h
  exact tz_imp (tz_X12_comers hT tc_170) (fun _ _ => trivial)
theorem j_X12_common {s : ez_H} {x1 x2 : Int32} (h : J s) : tz_O (fun _ => True) (z_X12_common s 170 x1 x2) := by
  obtain ⟨q, e, hT⟩ := h
  exact tz_imp (tz_X12_common hT tc_170) (fun _ _ => trivial)
theorem j_X12_cut {s : ez_H} {x1 x2 : Int32} (h : J s) : tz_O (fun _ => True) (z_X12_cut s 170 x1 x2) := by
  obtain ⟨q, e, hT⟩ := h
  exact tz_imp (tz_X12_cut hT tc_170) (fun _ _ => trivial)
theorem j_X12_cutFor {s : ez_H} {x1 x2 : Int32} (h : J s) : tz_O (fun _ => True) (z_X12_cutFor s 170 x1 x2) := by
  obtain ⟨q, e, hT⟩ := h
  exact tz_imp (tz_X12_cutFor hT tc_170) (fun _ _ => trivial)
theorem j_X12_door {s : ez_H} {x1 x2 : Int32} (h : J s) : tz_O (fun _ => True) (z_X12_door s 170 x1 x2) := by
  obtain ⟨q, e, hT⟩ := h
  exact tz_imp (tz_X12_door hT tc_170) (fun _ _ => trivial)
theorem j_X12_end {s : ez_H} {x1 : Int32} (h : J s) : tz_O (fun z : Int32 × ez_H => J z.2) (z_X12_end s 170 x1) := by
  obtain ⟨q, e, hT⟩ := h
  exact tz_imp (tz_X12_end hT tc_170) (fun z h => by first | exact ⟨q, e, h⟩ | exact ⟨q, e, h.2⟩ | exact ⟨q, e, h.2.2⟩ | exact J_or e h | exact J_or e h.2 | exact J_or e h.2.2 | exact J_kp e h | exact J_kp e h.2 | exact J_kp e h.2.2)
theorem j_X12_fault {s : ez_H} {x1 : Int32} (h : J s) : tz_O (fun _ => True) (z_X12_fault s 170 x1) := by
  obtain ⟨q, e, hT⟩ := h
  exact tz_imp (tz_X12_fault hT tc_170) (fun _ _ => trivial)
theorem j_X12_feed {s : ez_H} {x1 x2 x3 x4 x5 : Int32} (h : J s) : tz_O (fun z : Int32 × ez_H => J z.2) (z_X12_feed s 170 x1 x2 x3 x4 x5) := by
  obtain ⟨q, e, hT⟩ := h
  exact tz_imp (tz_X12_feed hT tc_170) (fun z h => by first | exact ⟨q, e, h⟩ | exact ⟨q, e, h.2⟩ | exact ⟨q, e, h.2.2⟩ | exact J_or e h | exact J_or e h.2 | exact J_or e h.2.2 | exact J_kp e h | exact J_kp e h.2 | exact J_kp e h.2.2)
theorem j_X12_file {s : ez_H} {x1 x2 : Int32} (h : J s) : tz_O (fun z : Int32 × ez_H => J z.2) (z_X12_file s 170 x1 x2) := by
  obtain ⟨q, e, hT⟩ := h
  exact tz_imp (tz_X12_file hT tc_170) (fun z h => by first | exact ⟨q, e, h⟩ | exact ⟨q, e, h.2⟩ | exact ⟨q, e, h.2.2⟩ | exact J_or e h | exact J_or e h.2 | exact J_or e h.2.2 | exact J_kp e h | exact J_kp e h.2 | exact J_kp e h.2.2)
theorem j_X12_filing {s : ez_H} {x1 x2 x3 : Int32} (h : J s) : tz_O (fun _ => True) (z_X12_filing s 170 x1 x2 x3) := by
  obtain ⟨q, e, hT⟩ := h
  exact tz_imp (tz_X12_filing hT tc_170) (fun _ _ => trivial)
theorem j_X12_find {s : ez_H} {x1 x2 : Int32} (h : J s) : tz_O (fun z : Int32 × ez_H => J z.2) (z_X12_find s 170 x1 x2) := by
  obtain ⟨q, e, hT⟩ := h
  exact tz_imp (tz_X12_find hT tc_170) (fun z h => by first | exact ⟨q, e, h⟩ | exact ⟨q, e, h.2⟩ | exact ⟨q, e, h.2.2⟩ | exact J_or e h | exact J_or e h.2 | exact J_or e h.2.2 | exact J_kp e h | exact J_kp e h.2 | exact J_kp e h.2.2)
theorem j_X12_fits {s : ez_H} {x1 : Int32} (h : J s) : tz_O (fun _ => True) (z_X12_fits s 170 x1) := by
  obtain ⟨q, e, hT⟩ := h
  exact tz_imp (tz_X12_fits hT tc_170) (fun _ _ => trivial)
theorem j_X12_ghost {s : ez_H} {x1 x2 : Int32} (h : J s) : tz_O (fun _ => True) (z_X12_ghost s 170 x1 x2) := by
  obtain ⟨q, e, hT⟩ := h
  exact tz_imp (tz_X12_ghost hT tc_170) (fun _ _ => trivial)
theorem j_X12_ghosts {s : ez_H} {x1 : Int32} (h : J s) : tz_O (fun _ => True) (z_X12_ghosts s 170 x1) := by
  obtain ⟨q, e, hT⟩ := h
  exact tz_imp (tz_X12_ghosts hT tc_170) (fun _ _ => trivial)
theorem j_X12_give {s : ez_H} {x1 x2 : Int32} (h : J s) : tz_O (fun z : Int32 × ez_H => J z.2) (z_X12_give s 170 x1 x2) := by
  obtain ⟨q, e, hT⟩ := h
  exact tz_imp (tz_X12_give hT tc_170) (fun z h => by first | exact ⟨q, e, h⟩ | exact ⟨q, e, h.2⟩ | exact ⟨q, e, h.2.2⟩ | exact J_or e h | exact J_or e h.2 | exact J_or e h.2.2 | exact J_kp e h | exact J_kp e h.2 | exact J_kp e h.2.2)
theorem j_X12_hang {s : ez_H} {x1 : Int32} (h : J s) : tz_O (fun z : Int32 × ez_H => J z.2) (z_X12_hang s 170 x1) := by
  obtain ⟨q, e, hT⟩ := h
  exact tz_imp (tz_X12_hang hT tc_170) (fun z h => by first | exact ⟨q, e, h⟩ | exact ⟨q, e, h.2⟩ | exact ⟨q, e, h.2.2⟩ | exact J_or e h | exact J_or e h.2 | exact J_or e h.2.2 | exact J_kp e h | exact J_kp e h.2 | exact J_kp e h.2.2)
theorem j_X12_haunted {s : ez_H} (h : J s) : tz_O (fun _ => True) (z_X12_haunted s 170) := by
  obtain ⟨q, e, hT⟩ := h
  exact tz_imp (tz_X12_haunted hT tc_170) (fun _ _ => trivial)
theorem j_X12_idle {s : ez_H} {x1 : Int32} (h : J s) : tz_O (fun _ => True) (z_X12_idle s 170 x1) := by
  obtain ⟨q, e, hT⟩ := h
  exact tz_imp (tz_X12_idle hT tc_170) (fun _ _ => trivial)
theorem j_X12_image {s : ez_H} {x1 : Int32} (h : J s) : tz_O (fun z : Int32 × ez_H => J z.2) (z_X12_image s 170 x1) := by
  obtain ⟨q, e, hT⟩ := h
  exact tz_imp (tz_X12_image hT tc_170) (fun z h => by first | exact ⟨q, e, h⟩ | exact ⟨q, e, h.2⟩ | exact ⟨q, e, h.2.2⟩ | exact J_or e h | exact J_or e h.2 | exact J_or e h.2.2 | exact J_kp e h | exact J_kp e h.2 | exact J_kp e h.2.2)
theorem j_X12_keeps {s : ez_H} {x1 : Int32} (h : J s) : tz_O (fun z : Int32 × ez_H => J z.2) (z_X12_keeps s 170 x1) := by
  obtain ⟨q, e, hT⟩ := h
  exact tz_imp (tz_X12_keeps hT tc_170) (fun z h => by first | exact ⟨q, e, h⟩ | exact ⟨q, e, h.2⟩ | exact ⟨q, e, h.2.2⟩ | exact J_or e h | exact J_or e h.2 | exact J_or e h.2.2 | exact J_kp e h | exact J_kp e h.2 | exact J_kp e h.2.2)
theorem j_X12_key {s : ez_H} {x1 x2 : Int32} (h : J s) : tz_O (fun _ => True) (z_X12_key s 170 x1 x2) := by
  obtain ⟨q, e, hT⟩ := h
  exact tz_imp (tz_X12_key hT tc_170) (fun _ _ => trivial)
theorem j_X12_lasts {s : ez_H} {x1 x2 : Int32} (h : J s) : tz_O (fun z : Int32 × ez_H => J z.2) (z_X12_lasts s 170 x1 x2) := by
  obtain ⟨q, e, hT⟩ := h
  exact tz_imp (tz_X12_lasts hT tc_170) (fun z h => by first | exact ⟨q, e, h⟩ | exact ⟨q, e, h.2⟩ | exact ⟨q, e, h.2.2⟩ | exact J_or e h | exact J_or e h.2 | exact J_or e h.2.2 | exact J_kp e h | exact J_kp e h.2 | exact J_kp e h.2.2)
theorem j_X12_law {s : ez_H} {x1 : Int32} (h : J s) : tz_O (fun _ => True) (z_X12_law s 170 x1) := by
  obtain ⟨q, e, hT⟩ := h
  exact tz_imp (tz_X12_law hT tc_170) (fun _ _ => trivial)
theorem j_X12_leftOver {s : ez_H} {x1 : Int32} (h : J s) : tz_O (fun z : Int32 × ez_H => J z.2) (z_X12_leftOver s 170 x1) := by
  obtain ⟨q, e, hT⟩ := h
  exact tz_imp (tz_X12_leftOver hT tc_170) (fun z h => by first | exact ⟨q, e, h⟩ | exact ⟨q, e, h.2⟩ | exact ⟨q, e, h.2.2⟩ | exact J_or e h | exact J_or e h.2 | exact J_or e h.2.2 | exact J_kp e h | exact J_kp e h.2 | exact J_kp e h.2.2)
theorem j_X12_legal {s : ez_H} (h : J s) : tz_O (fun _ => True) (z_X12_legal s 170) := by
  obtain ⟨q, e, hT⟩ := h
  exact tz_imp (tz_X12_legal hT tc_170) (fun _ _ => trivial)
theorem j_X12_lies {s : ez_H} {x1 : Int32} (h : J s) : tz_O (fun _ => True) (z_X12_lies s 170 x1) := by
  obtain ⟨q, e, hT⟩ := h
  exact tz_imp (tz_X12_lies hT tc_170) (fun _ _ => trivial)
theorem j_X12_lock {s : ez_H} {x1 x2 : Int32} (h : J s) : tz_O (fun _ => True) (z_X12_lock s 170 x1 x2) := by
  obtain ⟨q, e, hT⟩ := h
  exact tz_imp (tz_X12_lock hT tc_170) (fun _ _ => trivial)
theorem j_X12_lose {s : ez_H} {x1 : Int32} (h : J s) : tz_O (fun z : Int32 × ez_H => J z.2) (z_X12_lose s 170 x1) := by
  obtain ⟨q, e, hT⟩ := h
  exact tz_imp (tz_X12_lose hT tc_170) (fun z h => by first | exact ⟨q, e, h⟩ | exact ⟨q, e, h.2⟩ | exact ⟨q, e, h.2.2⟩ | exact J_or e h | exact J_or e h.2 | exact J_or e h.2.2 | exact J_kp e h | exact J_kp e h.2 | exact J_kp e h.2.2)
theorem j_X12_master {s : ez_H} {x1 : Int32} (h : J s) : tz_O (fun _ => True) (z_X12_master s 170 x1) := by
  obtain ⟨q, e, hT⟩ := h
  exact tz_imp (tz_X12_master hT tc_170) (fun _ _ => trivial)
theorem j_X12_odds {s : ez_H} {x1 x2 : Int32} (h : J s) : tz_O (fun _ => True) (z_X12_odds s 170 x1 x2) := by
  obtain ⟨q, e, hT⟩ := h
  exact tz_imp (tz_X12_odds hT tc_170) (fun _ _ => trivial)
theorem j_X12_opens {s : ez_H} {x1 x2 : Int32} (h : J s) : tz_O (fun _ => True) (z_X12_opens s 170 x1 x2) := by
  obtain ⟨q, e, hT⟩ := h
  exact tz_imp (tz_X12_opens hT tc_170) (fun _ _ => trivial)
theorem j_X12_part {s : ez_H} {x1 x2 x3 : Int32} (h : J s) : tz_O (fun z : Int32 × ez_H => J z.2) (z_X12_part s 170 x1 x2 x3) := by
  obtain ⟨q, e, hT⟩ := h
  exact tz_imp (tz_X12_part hT tc_170) (fun z h => by first | exact ⟨q, e, h⟩ | exact ⟨q, e, h.2⟩ | exact ⟨q, e, h.2.2⟩ | exact J_or e h | exact J_or e h.2 | exact J_or e h.2.2 | exact J_kp e h | exact J_kp e h.2 | exact J_kp e h.2.2)
theorem j_X12_parts {s : ez_H} {x1 x2 : Int32} (h : J s) : tz_O (fun _ => True) (z_X12_parts s 170 x1 x2) := by
  obtain ⟨q, e, hT⟩ := h
  exact tz_imp (tz_X12_parts hT tc_170) (fun _ _ => trivial)
theorem j_X12_person {s : ez_H} {x1 x2 : Int32} (h : J s) : tz_O (fun _ => True) (z_X12_person s 170 x1 x2) := by
  obtain ⟨q, e, hT⟩ := h
  exact tz_imp (tz_X12_person hT tc_170) (fun _ _ => trivial)
theorem j_X12_pin {s : ez_H} {x1 x2 : Int32} (h : J s) : tz_O (fun z : Int32 × ez_H => J z.2) (z_X12_pin s 170 x1 x2) := by
  obtain ⟨q, e, hT⟩ := h
  exact tz_imp (tz_X12_pin hT tc_170) (fun z h => by first | exact ⟨q, e, h⟩ | exact ⟨q, e, h.2⟩ | exact ⟨q, e, h.2.2⟩ | exact J_or e h | exact J_or e h.2 | exact J_or e h.2.2 | exact J_kp e h | exact J_kp e h.2 | exact J_kp e h.2.2)
theorem j_X12_plan {s : ez_H} (h : J s) : tz_O (fun z : Int32 × ez_H => J z.2) (z_X12_plan s 170) := by
  obtain ⟨q, e, hT⟩ := h
  exact tz_imp (planE hT) (fun z h => J_pq e h)
theorem j_X12_rank {s : ez_H} {x1 : Int32} (h : J s) : tz_O (fun _ => True) (z_X12_rank s 170 x1) := by
  obtain ⟨q, e, hT⟩ := h
  exact tz_imp (tz_X12_rank hT tc_170) (fun _ _ => trivial)
theorem j_X12_recut {s : ez_H} {x1 x2 : Int32} (h : J s) : tz_O (fun z : Int32 × ez_H => J z.2) (z_X12_recut s 170 x1 x2) := by
  obtain ⟨q, e, hT⟩ := h
  exact tz_imp (tz_X12_recut hT tc_170) (fun z h => by first | exact ⟨q, e, h⟩ | exact ⟨q, e, h.2⟩ | exact ⟨q, e, h.2.2⟩ | exact J_or e h | exact J_or e h.2 | exact J_or e h.2.2 | exact J_kp e h | exact J_kp e h.2 | exact J_kp e h.2.2)
theorem j_X12_redo {s : ez_H} (h : J s) : tz_O (fun z : Int32 × ez_H => J z.2) (z_X12_redo s 170) := by
  obtain ⟨q, e, hT⟩ := h
  exact tz_imp (tz_X12_redo hT tc_170 e.2) (fun z h => J_un e (by have := e.2; omega) h)
theorem j_X12_route {s : ez_H} {x1 x2 : Int32} (h : J s) : tz_O (fun z : Int32 × ez_H => J z.2) (z_X12_route s 170 x1 x2) := by
  obtain ⟨q, e, hT⟩ := h
  exact tz_imp (routeE hT) (fun z h => by first | exact ⟨q, e, h⟩ | exact ⟨q, e, h.2⟩ | exact ⟨q, e, h.2.2⟩ | exact J_or e h | exact J_or e h.2 | exact J_or e h.2.2 | exact J_kp e h | exact J_kp e h.2 | exact J_kp e h.2.2)
theorem j_X12_span {s : ez_H} {x1 x2 : Int32} (h : J s) : tz_O (fun _ => True) (z_X12_span s 170 x1 x2) := by
  obtain ⟨q, e, hT⟩ := h
  exact tz_imp (tz_X12_span hT tc_170) (fun _ _ => trivial)
theorem j_X12_strays {s : ez_H} {x1 : Int32} (h : J s) : tz_O (fun z : Int32 × ez_H => J z.2) (z_X12_strays s 170 x1) := by
  obtain ⟨q, e, hT⟩ := h
  exact tz_imp (tz_X12_strays hT tc_170) (fun z h => by first | exact ⟨q, e, h⟩ | exact ⟨q, e, h.2⟩ | exact ⟨q, e, h.2.2⟩ | exact J_or e h | exact J_or e h.2 | exact J_or e h.2.2 | exact J_kp e h | exact J_kp e h.2 | exact J_kp e h.2.2)
theorem j_X12_stuck {s : ez_H} (h : J s) : tz_O (fun _ => True) (z_X12_stuck s 170) := by
  obtain ⟨q, e, hT⟩ := h
  exact tz_imp (tz_X12_stuck hT tc_170) (fun _ _ => trivial)
theorem j_X12_sure {s : ez_H} {x1 x2 : Int32} (h : J s) : tz_O (fun _ => True) (z_X12_sure s 170 x1 x2) := by
  obtain ⟨q, e, hT⟩ := h
  exact tz_imp (tz_X12_sure hT tc_170) (fun _ _ => trivial)
theorem j_X12_together {s : ez_H} {x1 : Int32} (h : J s) : tz_O (fun z : Int32 × ez_H => J z.2) (z_X12_together s 170 x1) := by
  obtain ⟨q, e, hT⟩ := h
  exact tz_imp (togetherE hT) (fun z h => by first | exact ⟨q, e, h⟩ | exact ⟨q, e, h.2⟩ | exact ⟨q, e, h.2.2⟩ | exact J_or e h | exact J_or e h.2 | exact J_or e h.2.2 | exact J_kp e h | exact J_kp e h.2 | exact J_kp e h.2.2)
theorem j_X12_trade {s : ez_H} {x1 x2 x3 : Int32} (h : J s) : tz_O (fun _ => True) (z_X12_trade s 170 x1 x2 x3) := by
  obtain ⟨q, e, hT⟩ := h
  exact tz_imp (tz_X12_trade hT tc_170) (fun _ _ => trivial)
theorem j_X12_tried {s : ez_H} {x1 x2 : Int32} (h : J s) (i_x2 : tq_iv 0 1 x2) : tz_O (fun z : Int32 × ez_H => J z.2) (z_X12_tried s 170 x1 x2) := by
  obtain ⟨q, e, hT⟩ := h
  exact tz_imp (tz_X12_tried hT tc_170 i_x2) (fun z h => by first | exact ⟨q, e, h⟩ | exact ⟨q, e, h.2⟩ | exact ⟨q, e, h.2.2⟩ | exact J_or e h | exact J_or e h.2 | exact J_or e h.2.2 | exact J_kp e h | exact J_kp e h.2 | exact J_kp e h.2.2)
theorem j_X12_twin {s : ez_H} {x1 : Int32} (h : J s) : tz_O (fun _ => True) (z_X12_twin s 170 x1) := by
  obtain ⟨q, e, hT⟩ := h
  exact tz_imp (tz_X12_twin hT tc_170) (fun _ _ => trivial)
theorem j_X12_undo {s : ez_H} (h : J s) : tz_O (fun z : Int32 × ez_H => J z.2) (z_X12_undo s 170) := by
  obtain ⟨q, e, hT⟩ := h
  exact tz_imp (tz_X12_undo hT tc_170 e.2) (fun z h => J_un e (by have := e.2; omega) h)
theorem j_X12_untell {s : ez_H} {x1 : Int32} (h : J s) : tz_O (fun z : Int32 × ez_H => J z.2) (z_X12_untell s 170 x1) := by
  obtain ⟨q, e, hT⟩ := h
  exact tz_imp (tz_X12_untell hT tc_170) (fun z h => by first | exact ⟨q, e, h⟩ | exact ⟨q, e, h.2⟩ | exact ⟨q, e, h.2.2⟩ | exact J_or e h | exact J_or e h.2 | exact J_or e h.2.2 | exact J_kp e h | exact J_kp e h.2 | exact J_kp e h.2.2)
theorem j_X12_walk {s : ez_H} {x1 x2 : Int32} (h : J s) : tz_O (fun z : Int32 × ez_H => J z.2) (z_X12_walk s 170 x1 x2) := by
  obtain ⟨q, e, hT⟩ := h
  exact tz_imp (walkE hT) (fun z h => J_pq e h)
