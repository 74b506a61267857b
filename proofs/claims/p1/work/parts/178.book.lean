set_option maxRecDepth 100000 in
theorem pr_book (a0 : Int32) : ∃ r σ1 σ2, z_X11_book ev_s0 0 a0 = some (r, σ1) ∧ z_X12_book σ1 170 a0 = some (r, σ2) := sorry
