section EZL
variable {p : Program} {l : Launch} {e : Env} {R : Room} {s : State} {m : MethodId} {args : Array Value} {below : List Frame} {meth : Method} {c : Code} {H : Heap} {locs : List Loc} {cells slots : Nat} {Q : State → Prop}
variable {cc : ByteArray} {pc : Nat} {ls : Array Slot} {rest : List Value} {X : ez_X} {B : Nat} {own : String} {nL h : Nat} {n : Nat} {σ : ez_H} {β : Type} {z : β} {b L : Nat} {xs : Nat → Int32}
theorem ez_sld (hC : ez_C p R s m args c X B own cc nL h) (hX : va_X b L xs s s.heap) (hbl : b < B) (hS : ez_S X B s.heap n σ H locs) {i : Int32} {g : Int32 → Option β} (h : ez_bd (ez_sc L xs i) g = some z) (hdg : decode cc pc = .ok (.iaload, 1))
    (kk : ∀ x : Int32, g x = some z → W p l e R s m args below meth c H locs cells slots Q (F0 m (pc + 1) ls (.int x :: rest))) : W p l e R s m args below meth c H locs cells slots Q (F0 m pc ls (.int i :: .ref b :: rest)) := by
  obtain ⟨x, e1, h⟩ := ez_bd_sp h
  unfold ez_sc at e1
  cases hb : ez_inb i L with
  | false => rw [hb] at e1; cases e1
  | true =>
    rw [hb] at e1
    obtain ⟨h1, h2, -⟩ := ez_inb_sp hb
    cases e1
    have hbs : b < s.heap.size := by
      obtain ⟨scr, q1, -⟩ := hX
      exact (Array.getElem?_eq_some_iff.mp q1).1
    refine va_sld (A := ez_A B) hC.1.1 hC.1.2.1 hX hbs (Nat.not_le.mpr hbl) hS.2.2 h1 hdg ?_
    rw [h2]
    exact kk _ h
theorem ez_slen (hC : ez_C p R s m args c X B own cc nL h) (hX : va_X b L xs s s.heap) (hbl : b < B) (hS : ez_S X B s.heap n σ H locs) (hdg : decode cc pc = .ok (.arraylength, 1))
    (kk : W p l e R s m args below meth c H locs cells slots Q (F0 m (pc + 1) ls (.int (Int32.ofNat L) :: rest))) : W p l e R s m args below meth c H locs cells slots Q (F0 m pc ls (.ref b :: rest)) := by
  have hbs : b < s.heap.size := by
    obtain ⟨scr, q1, -⟩ := hX
    exact (Array.getElem?_eq_some_iff.mp q1).1
  exact va_slen (A := ez_A B) hC.1.1 hC.1.2.1 hX hbs (Nat.not_le.mpr hbl) hS.2.2 hdg kk
end EZL
set_option maxHeartbeats 8000000 in
set_option maxRecDepth 100000 in
theorem law_go {p : Program} {l : Launch} {e : Env} {s : State} {m : MethodId} {below : List Frame} {meth : Method} {c : Code} {Q : State → Prop} {b L : Nat} {xs : Nat → Int32} {X : ez_X} {B : Nat} {σ : ez_H} {z : Int32 × ez_H} (h : z_law L xs σ = some z) (hσ : σ = []) (hBs : B = s.heap.size) (hC : ez_C p room_1 s m #[Value.ref b] c X B RL cL_law 4 56) (hX : va_X b L xs s s.heap) (hbl : b < B) (hret : ∀ (r : Int32) (σ1 : ez_H) (H1 : Heap) (locs1 : List Loc) (ls : Array Slot) (pc : Nat), (r, σ1) = z → ez_S X B s.heap 217 σ1 H1 locs1 → decode cL_law pc = .ok (.ireturn, 1) → W p l e room_1 s m #[Value.ref b] below meth c H1 locs1 217 20578 Q (F0 m pc ls [.int r])) (hS : ez_S X B s.heap 0 σ s.heap []) (ls : Array Slot) (hl : lv_has ls 4 [(0, .ref b)]) : W p l e room_1 s m #[Value.ref b] below meth c s.heap [] 0 0 Q (F0 m 0 ls []) := by
  have hx := hC.1.1
  have hb := hC.1.2.1
  have hown := hC.1.2.2.2.1
  have hts := hC.1.2.2.2.2
  have hR : 600000 ≤ room_1.cells ∧ 7302249 ≤ room_1.slots := ⟨Nat.le_refl _, Nat.le_refl _⟩
  have hB : B ≤ s.heap.size := Nat.le_of_eq hBs
  have hsz : s.heap.size + 0 = B + 0 := by rw [hBs]
  clear hσ hBs
  have K_1998 : ∀ (k_18 : ez_H → Nat → Nat → Int32 → Option (Int32 × ez_H)) (hk_18 : ∀ (σ : ez_H) (h1 : Nat) (h2 : Nat) (x3 : Int32) (H : Heap) (locs : List Loc) (ls : Array Slot), ez_S X B s.heap (217) σ H locs → k_18 σ h1 h2 x3 = some z → lv_has ls 4 [(0, .ref b), (1, .ref (B + h1)), (2, .ref (B + h2)), (3, .int x3)] → W p l e room_1 s m #[Value.ref b] below meth c H locs 217 20578 Q (F0 m 18 ls [])), ∀ (σ : ez_H) (h1 : Nat) (h2 : Nat) (x3 : Int32) (H : Heap) (locs : List Loc) (ls : Array Slot), ez_S X B s.heap (217) σ H locs → z_law_1998 L xs k_18 σ h1 h2 x3 = some z → lv_has ls 4 [(0, .ref b), (1, .ref (B + h1)), (2, .ref (B + h2)), (3, .int x3)] → W p l e room_1 s m #[Value.ref b] below meth c H locs 217 20578 Q (F0 m 1998 ls []) := by
    intro k_18 hk_18 σ h1 h2 x3 H locs ls hS h hl
    obtain ⟨t_1998, e_1998, h⟩ := ez_let_sp h
    refine lv_iinc (v := t_1998) (lv' := [(3, .int t_1998), (0, .ref b), (1, .ref (B + h1)), (2, .ref (B + h2))]) hx hb dL_law_1998 hl (k := 3) rfl (by rw [e_1998]; rfl) (by decide) rfl (fun ls hl => ?_)
    refine lv_goto (tgt := 18) hx hb dL_law_2001 (by decide) ?_
    exact hk_18 σ h1 h2 t_1998 _ _ _ hS h (lv_sub hl [1, 2, 3, 0] rfl)
  have K_1787 : ∀ (k_18 : ez_H → Nat → Nat → Int32 → Option (Int32 × ez_H)) (hk_18 : ∀ (σ : ez_H) (h1 : Nat) (h2 : Nat) (x3 : Int32) (H : Heap) (locs : List Loc) (ls : Array Slot), ez_S X B s.heap (217) σ H locs → k_18 σ h1 h2 x3 = some z → lv_has ls 4 [(0, .ref b), (1, .ref (B + h1)), (2, .ref (B + h2)), (3, .int x3)] → W p l e room_1 s m #[Value.ref b] below meth c H locs 217 20578 Q (F0 m 18 ls [])), ∀ (σ : ez_H) (h1 : Nat) (h2 : Nat) (x3 : Int32) (y0 : Nat) (y1 : Int32) (y2 : Int32) (H : Heap) (locs : List Loc) (ls : Array Slot), ez_S X B s.heap (217) σ H locs → z_law_1787 L xs k_18 σ h1 h2 x3 y0 y1 y2 = some z → lv_has ls 4 [(0, .ref b), (1, .ref (B + h1)), (2, .ref (B + h2)), (3, .int x3)] → W p l e room_1 s m #[Value.ref b] below meth c H locs 217 20578 Q (F0 m 1787 ls [.int y2, .int y1, .ref (B + y0)]) := by
    intro k_18 hk_18 σ h1 h2 x3 y0 y1 y2 H locs ls hS h hl
    refine ez_cVi (As := [.int y1, .int y2]) (rest := []) h (fun _ q => c_X12_tried q) hC k_X12_tried ql_RL_235 rfl (by decide) hS (fun _ q => ez_rcv q) rfl hl.1 rfl (Nat.le_of_ble_eq_true rfl) ⟨Nat.le_trans (by decide) hR.1, Nat.le_trans (by decide) hR.2⟩ dL_law_1787 (fun t_1787 σ H locs hS h => ?_)
    refine lv_pop hx hb dL_law_1790 rfl ?_
    refine lv_goto (tgt := 1998) hx hb dL_law_1791 (by decide) ?_
    exact K_1998 k_18 hk_18 σ h1 h2 x3 _ _ _ hS h (lv_sub hl [0, 1, 2, 3] rfl)
  have K_1764 : ∀ (k_18 : ez_H → Nat → Nat → Int32 → Option (Int32 × ez_H)) (hk_18 : ∀ (σ : ez_H) (h1 : Nat) (h2 : Nat) (x3 : Int32) (H : Heap) (locs : List Loc) (ls : Array Slot), ez_S X B s.heap (217) σ H locs → k_18 σ h1 h2 x3 = some z → lv_has ls 4 [(0, .ref b), (1, .ref (B + h1)), (2, .ref (B + h2)), (3, .int x3)] → W p l e room_1 s m #[Value.ref b] below meth c H locs 217 20578 Q (F0 m 18 ls [])), ∀ (σ : ez_H) (h1 : Nat) (h2 : Nat) (x3 : Int32) (y0 : Nat) (y1 : Int32) (y2 : Int32) (H : Heap) (locs : List Loc) (ls : Array Slot), ez_S X B s.heap (217) σ H locs → z_law_1764 L xs k_18 σ h1 h2 x3 y0 y1 y2 = some z → lv_has ls 4 [(0, .ref b), (1, .ref (B + h1)), (2, .ref (B + h2)), (3, .int x3)] → W p l e room_1 s m #[Value.ref b] below meth c H locs 217 20578 Q (F0 m 1764 ls [.int y2, .int y1, .ref (B + y0)]) := by
    intro k_18 hk_18 σ h1 h2 x3 y0 y1 y2 H locs ls hS h hl
    refine ez_cVi (As := [.int y1, .int y2]) (rest := []) h (fun _ q => c_X11_tried q) hC k_X11_tried ql_RL_231 rfl (by decide) hS (fun _ q => ez_rcv q) rfl hl.1 rfl (Nat.le_of_ble_eq_true rfl) ⟨Nat.le_trans (by decide) hR.1, Nat.le_trans (by decide) hR.2⟩ dL_law_1764 (fun t_1764 σ H locs hS h => ?_)
    refine lv_pop hx hb dL_law_1767 rfl ?_
    refine lv_aload_n hx hb dL_law_1768 rfl (lv_at hl 2 rfl) ?_
    refine lv_aload_n hx hb dL_law_1769 rfl (lv_at hl 0 rfl) ?_
    refine lv_iload_n hx hb dL_law_1770 rfl (lv_at hl 3 rfl) ?_
    refine lv_iconst (v := 1) hx hb dL_law_1771 (by decide) ?_
    refine lv_iadd hx hb dL_law_1772 ?_
    refine ez_top h (fun t_1772 h => ?_)
    refine ez_sld hC hX hbl hS h dL_law_1773 (fun t_1773 h => ?_)
    refine lv_aload_n hx hb dL_law_1774 rfl (lv_at hl 0 rfl) ?_
    refine lv_iload_n hx hb dL_law_1775 rfl (lv_at hl 3 rfl) ?_
    refine lv_iconst (v := 2) hx hb dL_law_1776 (by decide) ?_
    refine lv_iadd hx hb dL_law_1777 ?_
    refine ez_top h (fun t_1777 h => ?_)
    refine ez_sld hC hX hbl hS h dL_law_1778 (fun t_1778 h => ?_)
    refine lv_if_eq (tgt := 1786) hx hb dL_law_1779 (by decide) (fun c_1779 => ?_) (fun c_1779 => ?_)
    · replace h := ez_ifp h c_1779
      refine lv_iconst (v := 0) hx hb dL_law_1786 (by decide) ?_
      exact K_1787 k_18 hk_18 σ h1 h2 x3 h2 t_1773 (0 : Int32) _ _ _ hS h (lv_sub hl [0, 1, 2, 3] rfl)
    · replace h := ez_ifn h c_1779
      refine lv_iconst (v := 1) hx hb dL_law_1782 (by decide) ?_
      refine lv_goto (tgt := 1787) hx hb dL_law_1783 (by decide) ?_
      exact K_1787 k_18 hk_18 σ h1 h2 x3 h2 t_1773 (1 : Int32) _ _ _ hS h (lv_sub hl [0, 1, 2, 3] rfl)
  have K_18 : ∀ (k_18 : ez_H → Nat → Nat → Int32 → Option (Int32 × ez_H)) (hk_18 : ∀ (σ : ez_H) (h1 : Nat) (h2 : Nat) (x3 : Int32) (H : Heap) (locs : List Loc) (ls : Array Slot), ez_S X B s.heap (217) σ H locs → k_18 σ h1 h2 x3 = some z → lv_has ls 4 [(0, .ref b), (1, .ref (B + h1)), (2, .ref (B + h2)), (3, .int x3)] → W p l e room_1 s m #[Value.ref b] below meth c H locs 217 20578 Q (F0 m 18 ls [])), ∀ (σ : ez_H) (h1 : Nat) (h2 : Nat) (x3 : Int32) (H : Heap) (locs : List Loc) (ls : Array Slot), ez_S X B s.heap (217) σ H locs → z_law_18 L xs k_18 σ h1 h2 x3 = some z → lv_has ls 4 [(0, .ref b), (1, .ref (B + h1)), (2, .ref (B + h2)), (3, .int x3)] → W p l e room_1 s m #[Value.ref b] below meth c H locs 217 20578 Q (F0 m 18 ls []) := by
    intro k_18 hk_18 σ h1 h2 x3 H locs ls hS h hl
    refine lv_iload_n hx hb dL_law_18 rfl (lv_at hl 3 rfl) ?_
    refine lv_aload_n hx hb dL_law_19 rfl (lv_at hl 0 rfl) ?_
    refine ez_slen hC hX hbl hS dL_law_20 ?_
    refine ez_top h (fun t_20 h => ?_)
    refine lv_bipush (v := 6) hx hb dL_law_21 (by decide) ?_
    refine lv_isub hx hb dL_law_23 ?_
    refine ez_top h (fun t_23 h => ?_)
    refine lv_icmp_gt (tgt := 2004) hx hb dL_law_24 (by decide) (fun c_24 => ?_) (fun c_24 => ?_)
    · replace h := ez_ifp h c_24
      refine lv_iconst (v := 1) hx hb dL_law_2004 (by decide) ?_
      exact hret _ _ _ _ _ _ (Option.some.inj h) hS dL_law_2005
    · replace h := ez_ifn h c_24
      refine lv_aload_n hx hb dL_law_27 rfl (lv_at hl 0 rfl) ?_
      refine lv_iload_n hx hb dL_law_28 rfl (lv_at hl 3 rfl) ?_
      refine ez_sld hC hX hbl hS h dL_law_29 (fun t_29 h => ?_)
      refine lv_bipush (v := 63) hx hb dL_law_30 (by decide) ?_
      refine lv_iand hx hb dL_law_32 ?_
      refine ez_top h (fun t_32 h => ?_)
      by_cases s_33_0 : t_32 = 0
      · replace h := ez_ifp h s_33_0
        refine lv_tableIn (tgt := 296) hx hb dL_law_33 (by rw [s_33_0]; decide) (by rw [s_33_0]; decide) (by first | (rw [s_33_0]; done) | (rw [s_33_0]; rfl)) (by decide) ?_
        refine lv_aload_n hx hb dL_law_296 rfl (lv_at hl 1 rfl) ?_
        refine lv_aload_n hx hb dL_law_297 rfl (lv_at hl 0 rfl) ?_
        refine lv_iload_n hx hb dL_law_298 rfl (lv_at hl 3 rfl) ?_
        refine lv_iconst (v := 1) hx hb dL_law_299 (by decide) ?_
        refine lv_iadd hx hb dL_law_300 ?_
        refine ez_top h (fun t_300 h => ?_)
        refine ez_sld hC hX hbl hS h dL_law_301 (fun t_301 h => ?_)
        refine lv_aload_n hx hb dL_law_302 rfl (lv_at hl 0 rfl) ?_
        refine lv_iload_n hx hb dL_law_303 rfl (lv_at hl 3 rfl) ?_
        refine lv_iconst (v := 2) hx hb dL_law_304 (by decide) ?_
        refine lv_iadd hx hb dL_law_305 ?_
        refine ez_top h (fun t_305 h => ?_)
        refine ez_sld hC hX hbl hS h dL_law_306 (fun t_306 h => ?_)
        refine lv_aload_n hx hb dL_law_307 rfl (lv_at hl 0 rfl) ?_
        refine lv_iload_n hx hb dL_law_308 rfl (lv_at hl 3 rfl) ?_
        refine lv_iconst (v := 3) hx hb dL_law_309 (by decide) ?_
        refine lv_iadd hx hb dL_law_310 ?_
        refine ez_top h (fun t_310 h => ?_)
        refine ez_sld hC hX hbl hS h dL_law_311 (fun t_311 h => ?_)
        refine lv_aload_n hx hb dL_law_312 rfl (lv_at hl 0 rfl) ?_
        refine lv_iload_n hx hb dL_law_313 rfl (lv_at hl 3 rfl) ?_
        refine lv_iconst (v := 4) hx hb dL_law_314 (by decide) ?_
        refine lv_iadd hx hb dL_law_315 ?_
        refine ez_top h (fun t_315 h => ?_)
        refine ez_sld hC hX hbl hS h dL_law_316 (fun t_316 h => ?_)
        refine lv_aload_n hx hb dL_law_317 rfl (lv_at hl 0 rfl) ?_
        refine lv_iload_n hx hb dL_law_318 rfl (lv_at hl 3 rfl) ?_
        refine lv_iconst (v := 5) hx hb dL_law_319 (by decide) ?_
        refine lv_iadd hx hb dL_law_320 ?_
        refine ez_top h (fun t_320 h => ?_)
        refine ez_sld hC hX hbl hS h dL_law_321 (fun t_321 h => ?_)
        refine ez_cVi (As := [.int t_301, .int t_306, .int t_311, .int t_316, .int t_321]) (rest := []) h (fun _ q => c_X11_feed q) hC k_X11_feed ql_RL_13 rfl (by decide) hS (fun _ q => ez_rcv q) rfl hl.1 rfl (Nat.le_of_ble_eq_true rfl) ⟨Nat.le_trans (by decide) hR.1, Nat.le_trans (by decide) hR.2⟩ dL_law_322 (fun t_322 σ H locs hS h => ?_)
        refine lv_pop hx hb dL_law_325 rfl ?_
        refine lv_aload_n hx hb dL_law_326 rfl (lv_at hl 2 rfl) ?_
        refine lv_aload_n hx hb dL_law_327 rfl (lv_at hl 0 rfl) ?_
        refine lv_iload_n hx hb dL_law_328 rfl (lv_at hl 3 rfl) ?_
        refine lv_iconst (v := 1) hx hb dL_law_329 (by decide) ?_
        refine lv_iadd hx hb dL_law_330 ?_
        refine ez_top h (fun t_330 h => ?_)
        refine ez_sld hC hX hbl hS h dL_law_331 (fun t_331 h => ?_)
        refine lv_aload_n hx hb dL_law_332 rfl (lv_at hl 0 rfl) ?_
        refine lv_iload_n hx hb dL_law_333 rfl (lv_at hl 3 rfl) ?_
        refine lv_iconst (v := 2) hx hb dL_law_334 (by decide) ?_
        refine lv_iadd hx hb dL_law_335 ?_
        refine ez_top h (fun t_335 h => ?_)
        refine ez_sld hC hX hbl hS h dL_law_336 (fun t_336 h => ?_)
        refine lv_aload_n hx hb dL_law_337 rfl (lv_at hl 0 rfl) ?_
        refine lv_iload_n hx hb dL_law_338 rfl (lv_at hl 3 rfl) ?_
        refine lv_iconst (v := 3) hx hb dL_law_339 (by decide) ?_
        refine lv_iadd hx hb dL_law_340 ?_
        refine ez_top h (fun t_340 h => ?_)
        refine ez_sld hC hX hbl hS h dL_law_341 (fun t_341 h => ?_)
        refine lv_aload_n hx hb dL_law_342 rfl (lv_at hl 0 rfl) ?_
        refine lv_iload_n hx hb dL_law_343 rfl (lv_at hl 3 rfl) ?_
        refine lv_iconst (v := 4) hx hb dL_law_344 (by decide) ?_
        refine lv_iadd hx hb dL_law_345 ?_
        refine ez_top h (fun t_345 h => ?_)
        refine ez_sld hC hX hbl hS h dL_law_346 (fun t_346 h => ?_)
        refine lv_aload_n hx hb dL_law_347 rfl (lv_at hl 0 rfl) ?_
        refine lv_iload_n hx hb dL_law_348 rfl (lv_at hl 3 rfl) ?_
        refine lv_iconst (v := 5) hx hb dL_law_349 (by decide) ?_
        refine lv_iadd hx hb dL_law_350 ?_
        refine ez_top h (fun t_350 h => ?_)
        refine ez_sld hC hX hbl hS h dL_law_351 (fun t_351 h => ?_)
        refine ez_cVi (As := [.int t_331, .int t_336, .int t_341, .int t_346, .int t_351]) (rest := []) h (fun _ q => c_X12_feed q) hC k_X12_feed ql_RL_17 rfl (by decide) hS (fun _ q => ez_rcv q) rfl hl.1 rfl (Nat.le_of_ble_eq_true rfl) ⟨Nat.le_trans (by decide) hR.1, Nat.le_trans (by decide) hR.2⟩ dL_law_352 (fun t_352 σ H locs hS h => ?_)
        refine lv_pop hx hb dL_law_355 rfl ?_
        refine lv_goto (tgt := 1998) hx hb dL_law_356 (by decide) ?_
        exact K_1998 k_18 hk_18 σ h1 h2 x3 _ _ _ hS h (lv_sub hl [0, 1, 2, 3] rfl)
      replace h := ez_ifn h s_33_0
      by_cases s_33_1 : t_32 = 1
      · replace h := ez_ifp h s_33_1
        refine lv_tableIn (tgt := 359) hx hb dL_law_33 (by rw [s_33_1]; decide) (by rw [s_33_1]; decide) (by first | (rw [s_33_1]; done) | (rw [s_33_1]; rfl)) (by decide) ?_
        refine lv_aload_n hx hb dL_law_359 rfl (lv_at hl 1 rfl) ?_
        refine lv_aload_n hx hb dL_law_360 rfl (lv_at hl 0 rfl) ?_
        refine lv_iload_n hx hb dL_law_361 rfl (lv_at hl 3 rfl) ?_
        refine lv_iconst (v := 1) hx hb dL_law_362 (by decide) ?_
        refine lv_iadd hx hb dL_law_363 ?_
        refine ez_top h (fun t_363 h => ?_)
        refine ez_sld hC hX hbl hS h dL_law_364 (fun t_364 h => ?_)
        refine ez_cVi (As := [.int t_364]) (rest := []) h (fun _ q => c_X11_end q) hC k_X11_end ql_RL_18 rfl (by decide) hS (fun _ q => ez_rcv q) rfl hl.1 rfl (Nat.le_of_ble_eq_true rfl) ⟨Nat.le_trans (by decide) hR.1, Nat.le_trans (by decide) hR.2⟩ dL_law_365 (fun t_365 σ H locs hS h => ?_)
        refine lv_pop hx hb dL_law_368 rfl ?_
        refine lv_aload_n hx hb dL_law_369 rfl (lv_at hl 2 rfl) ?_
        refine lv_aload_n hx hb dL_law_370 rfl (lv_at hl 0 rfl) ?_
        refine lv_iload_n hx hb dL_law_371 rfl (lv_at hl 3 rfl) ?_
        refine lv_iconst (v := 1) hx hb dL_law_372 (by decide) ?_
        refine lv_iadd hx hb dL_law_373 ?_
        refine ez_top h (fun t_373 h => ?_)
        refine ez_sld hC hX hbl hS h dL_law_374 (fun t_374 h => ?_)
        refine ez_cVi (As := [.int t_374]) (rest := []) h (fun _ q => c_X12_end q) hC k_X12_end ql_RL_22 rfl (by decide) hS (fun _ q => ez_rcv q) rfl hl.1 rfl (Nat.le_of_ble_eq_true rfl) ⟨Nat.le_trans (by decide) hR.1, Nat.le_trans (by decide) hR.2⟩ dL_law_375 (fun t_375 σ H locs hS h => ?_)
        refine lv_pop hx hb dL_law_378 rfl ?_
        refine lv_goto (tgt := 1998) hx hb dL_law_379 (by decide) ?_
        exact K_1998 k_18 hk_18 σ h1 h2 x3 _ _ _ hS h (lv_sub hl [0, 1, 2, 3] rfl)
      replace h := ez_ifn h s_33_1
      by_cases s_33_2 : t_32 = 2
      · replace h := ez_ifp h s_33_2
        refine lv_tableIn (tgt := 382) hx hb dL_law_33 (by rw [s_33_2]; decide) (by rw [s_33_2]; decide) (by first | (rw [s_33_2]; done) | (rw [s_33_2]; rfl)) (by decide) ?_
        refine lv_aload_n hx hb dL_law_382 rfl (lv_at hl 1 rfl) ?_
        refine ez_cVi (As := []) (rest := []) h (fun _ q => c_X11_plan q) hC k_X11_plan ql_RL_23 rfl (by decide) hS (fun _ q => ez_rcv q) rfl hl.1 rfl (Nat.le_of_ble_eq_true rfl) ⟨Nat.le_trans (by decide) hR.1, Nat.le_trans (by decide) hR.2⟩ dL_law_383 (fun t_383 σ H locs hS h => ?_)
        refine lv_pop hx hb dL_law_386 rfl ?_
        refine lv_aload_n hx hb dL_law_387 rfl (lv_at hl 2 rfl) ?_
        refine ez_cVi (As := []) (rest := []) h (fun _ q => c_X12_plan q) hC k_X12_plan ql_RL_27 rfl (by decide) hS (fun _ q => ez_rcv q) rfl hl.1 rfl (Nat.le_of_ble_eq_true rfl) ⟨Nat.le_trans (by decide) hR.1, Nat.le_trans (by decide) hR.2⟩ dL_law_388 (fun t_388 σ H locs hS h => ?_)
        refine lv_pop hx hb dL_law_391 rfl ?_
        refine lv_goto (tgt := 1998) hx hb dL_law_392 (by decide) ?_
        exact K_1998 k_18 hk_18 σ h1 h2 x3 _ _ _ hS h (lv_sub hl [0, 1, 2, 3] rfl)
      replace h := ez_ifn h s_33_2
      by_cases s_33_3 : t_32 = 3
      · replace h := ez_ifp h s_33_3
        refine lv_tableIn (tgt := 395) hx hb dL_law_33 (by rw [s_33_3]; decide) (by rw [s_33_3]; decide) (by first | (rw [s_33_3]; done) | (rw [s_33_3]; rfl)) (by decide) ?_
        refine lv_aload_n hx hb dL_law_395 rfl (lv_at hl 1 rfl) ?_
        refine lv_aload_n hx hb dL_law_396 rfl (lv_at hl 0 rfl) ?_
        refine lv_iload_n hx hb dL_law_397 rfl (lv_at hl 3 rfl) ?_
        refine lv_iconst (v := 1) hx hb dL_law_398 (by decide) ?_
        refine lv_iadd hx hb dL_law_399 ?_
        refine ez_top h (fun t_399 h => ?_)
        refine ez_sld hC hX hbl hS h dL_law_400 (fun t_400 h => ?_)
        refine ez_cVpi (As := [.int t_400]) (rest := []) h (fun _ q => c_X11_fault q) hC k_X11_fault ql_RL_28 rfl (by decide) hS (fun _ q => ez_rcv q) rfl hl.1 rfl (Nat.le_of_ble_eq_true rfl) ⟨Nat.le_trans (by decide) hR.1, Nat.le_trans (by decide) hR.2⟩ dL_law_401 (fun t_401 H locs hS h => ?_)
        refine lv_pop hx hb dL_law_404 rfl ?_
        refine lv_aload_n hx hb dL_law_405 rfl (lv_at hl 2 rfl) ?_
        refine lv_aload_n hx hb dL_law_406 rfl (lv_at hl 0 rfl) ?_
        refine lv_iload_n hx hb dL_law_407 rfl (lv_at hl 3 rfl) ?_
        refine lv_iconst (v := 1) hx hb dL_law_408 (by decide) ?_
        refine lv_iadd hx hb dL_law_409 ?_
        refine ez_top h (fun t_409 h => ?_)
        refine ez_sld hC hX hbl hS h dL_law_410 (fun t_410 h => ?_)
        refine ez_cVpi (As := [.int t_410]) (rest := []) h (fun _ q => c_X12_fault q) hC k_X12_fault ql_RL_31 rfl (by decide) hS (fun _ q => ez_rcv q) rfl hl.1 rfl (Nat.le_of_ble_eq_true rfl) ⟨Nat.le_trans (by decide) hR.1, Nat.le_trans (by decide) hR.2⟩ dL_law_411 (fun t_411 H locs hS h => ?_)
        refine lv_pop hx hb dL_law_414 rfl ?_
        refine lv_goto (tgt := 1998) hx hb dL_law_415 (by decide) ?_
        exact K_1998 k_18 hk_18 σ h1 h2 x3 _ _ _ hS h (lv_sub hl [0, 1, 2, 3] rfl)
      replace h := ez_ifn h s_33_3
      by_cases s_33_4 : t_32 = 4
      · replace h := ez_ifp h s_33_4
        refine lv_tableIn (tgt := 418) hx hb dL_law_33 (by rw [s_33_4]; decide) (by rw [s_33_4]; decide) (by first | (rw [s_33_4]; done) | (rw [s_33_4]; rfl)) (by decide) ?_
        refine lv_aload_n hx hb dL_law_418 rfl (lv_at hl 1 rfl) ?_
        refine lv_aload_n hx hb dL_law_419 rfl (lv_at hl 0 rfl) ?_
        refine lv_iload_n hx hb dL_law_420 rfl (lv_at hl 3 rfl) ?_
        refine lv_iconst (v := 1) hx hb dL_law_421 (by decide) ?_
        refine lv_iadd hx hb dL_law_422 ?_
        refine ez_top h (fun t_422 h => ?_)
        refine ez_sld hC hX hbl hS h dL_law_423 (fun t_423 h => ?_)
        refine lv_aload_n hx hb dL_law_424 rfl (lv_at hl 0 rfl) ?_
        refine lv_iload_n hx hb dL_law_425 rfl (lv_at hl 3 rfl) ?_
        refine lv_iconst (v := 2) hx hb dL_law_426 (by decide) ?_
        refine lv_iadd hx hb dL_law_427 ?_
        refine ez_top h (fun t_427 h => ?_)
        refine ez_sld hC hX hbl hS h dL_law_428 (fun t_428 h => ?_)
        refine ez_cVpi (As := [.int t_423, .int t_428]) (rest := []) h (fun _ q => c_X11_key q) hC k_X11_key ql_RL_32 rfl (by decide) hS (fun _ q => ez_rcv q) rfl hl.1 rfl (Nat.le_of_ble_eq_true rfl) ⟨Nat.le_trans (by decide) hR.1, Nat.le_trans (by decide) hR.2⟩ dL_law_429 (fun t_429 H locs hS h => ?_)
        refine lv_pop hx hb dL_law_432 rfl ?_
        refine lv_aload_n hx hb dL_law_433 rfl (lv_at hl 2 rfl) ?_
        refine lv_aload_n hx hb dL_law_434 rfl (lv_at hl 0 rfl) ?_
        refine lv_iload_n hx hb dL_law_435 rfl (lv_at hl 3 rfl) ?_
        refine lv_iconst (v := 1) hx hb dL_law_436 (by decide) ?_
        refine lv_iadd hx hb dL_law_437 ?_
        refine ez_top h (fun t_437 h => ?_)
        refine ez_sld hC hX hbl hS h dL_law_438 (fun t_438 h => ?_)
        refine lv_aload_n hx hb dL_law_439 rfl (lv_at hl 0 rfl) ?_
        refine lv_iload_n hx hb dL_law_440 rfl (lv_at hl 3 rfl) ?_
        refine lv_iconst (v := 2) hx hb dL_law_441 (by decide) ?_
        refine lv_iadd hx hb dL_law_442 ?_
        refine ez_top h (fun t_442 h => ?_)
        refine ez_sld hC hX hbl hS h dL_law_443 (fun t_443 h => ?_)
        refine ez_cVpi (As := [.int t_438, .int t_443]) (rest := []) h (fun _ q => c_X12_key q) hC k_X12_key ql_RL_36 rfl (by decide) hS (fun _ q => ez_rcv q) rfl hl.1 rfl (Nat.le_of_ble_eq_true rfl) ⟨Nat.le_trans (by decide) hR.1, Nat.le_trans (by decide) hR.2⟩ dL_law_444 (fun t_444 H locs hS h => ?_)
        refine lv_pop hx hb dL_law_447 rfl ?_
        refine lv_goto (tgt := 1998) hx hb dL_law_448 (by decide) ?_
        exact K_1998 k_18 hk_18 σ h1 h2 x3 _ _ _ hS h (lv_sub hl [0, 1, 2, 3] rfl)
      replace h := ez_ifn h s_33_4
      by_cases s_33_5 : t_32 = 5
      · replace h := ez_ifp h s_33_5
        refine lv_tableIn (tgt := 451) hx hb dL_law_33 (by rw [s_33_5]; decide) (by rw [s_33_5]; decide) (by first | (rw [s_33_5]; done) | (rw [s_33_5]; rfl)) (by decide) ?_
        refine lv_aload_n hx hb dL_law_451 rfl (lv_at hl 1 rfl) ?_
        refine lv_aload_n hx hb dL_law_452 rfl (lv_at hl 0 rfl) ?_
        refine lv_iload_n hx hb dL_law_453 rfl (lv_at hl 3 rfl) ?_
        refine lv_iconst (v := 1) hx hb dL_law_454 (by decide) ?_
        refine lv_iadd hx hb dL_law_455 ?_
        refine ez_top h (fun t_455 h => ?_)
        refine ez_sld hC hX hbl hS h dL_law_456 (fun t_456 h => ?_)
        refine lv_aload_n hx hb dL_law_457 rfl (lv_at hl 0 rfl) ?_
        refine lv_iload_n hx hb dL_law_458 rfl (lv_at hl 3 rfl) ?_
        refine lv_iconst (v := 2) hx hb dL_law_459 (by decide) ?_
        refine lv_iadd hx hb dL_law_460 ?_
        refine ez_top h (fun t_460 h => ?_)
        refine ez_sld hC hX hbl hS h dL_law_461 (fun t_461 h => ?_)
        refine ez_cVpi (As := [.int t_456, .int t_461]) (rest := []) h (fun _ q => c_X11_cut q) hC k_X11_cut ql_RL_37 rfl (by decide) hS (fun _ q => ez_rcv q) rfl hl.1 rfl (Nat.le_of_ble_eq_true rfl) ⟨Nat.le_trans (by decide) hR.1, Nat.le_trans (by decide) hR.2⟩ dL_law_462 (fun t_462 H locs hS h => ?_)
        refine lv_pop hx hb dL_law_465 rfl ?_
        refine lv_aload_n hx hb dL_law_466 rfl (lv_at hl 2 rfl) ?_
        refine lv_aload_n hx hb dL_law_467 rfl (lv_at hl 0 rfl) ?_
        refine lv_iload_n hx hb dL_law_468 rfl (lv_at hl 3 rfl) ?_
        refine lv_iconst (v := 1) hx hb dL_law_469 (by decide) ?_
        refine lv_iadd hx hb dL_law_470 ?_
        refine ez_top h (fun t_470 h => ?_)
        refine ez_sld hC hX hbl hS h dL_law_471 (fun t_471 h => ?_)
        refine lv_aload_n hx hb dL_law_472 rfl (lv_at hl 0 rfl) ?_
        refine lv_iload_n hx hb dL_law_473 rfl (lv_at hl 3 rfl) ?_
        refine lv_iconst (v := 2) hx hb dL_law_474 (by decide) ?_
        refine lv_iadd hx hb dL_law_475 ?_
        refine ez_top h (fun t_475 h => ?_)
        refine ez_sld hC hX hbl hS h dL_law_476 (fun t_476 h => ?_)
        refine ez_cVpi (As := [.int t_471, .int t_476]) (rest := []) h (fun _ q => c_X12_cut q) hC k_X12_cut ql_RL_40 rfl (by decide) hS (fun _ q => ez_rcv q) rfl hl.1 rfl (Nat.le_of_ble_eq_true rfl) ⟨Nat.le_trans (by decide) hR.1, Nat.le_trans (by decide) hR.2⟩ dL_law_477 (fun t_477 H locs hS h => ?_)
        refine lv_pop hx hb dL_law_480 rfl ?_
        refine lv_goto (tgt := 1998) hx hb dL_law_481 (by decide) ?_
        exact K_1998 k_18 hk_18 σ h1 h2 x3 _ _ _ hS h (lv_sub hl [0, 1, 2, 3] rfl)
      replace h := ez_ifn h s_33_5
      by_cases s_33_6 : t_32 = 6
      · replace h := ez_ifp h s_33_6
        refine lv_tableIn (tgt := 484) hx hb dL_law_33 (by rw [s_33_6]; decide) (by rw [s_33_6]; decide) (by first | (rw [s_33_6]; done) | (rw [s_33_6]; rfl)) (by decide) ?_
        refine lv_aload_n hx hb dL_law_484 rfl (lv_at hl 1 rfl) ?_
        refine lv_aload_n hx hb dL_law_485 rfl (lv_at hl 0 rfl) ?_
        refine lv_iload_n hx hb dL_law_486 rfl (lv_at hl 3 rfl) ?_
        refine lv_iconst (v := 1) hx hb dL_law_487 (by decide) ?_
        refine lv_iadd hx hb dL_law_488 ?_
        refine ez_top h (fun t_488 h => ?_)
        refine ez_sld hC hX hbl hS h dL_law_489 (fun t_489 h => ?_)
        refine lv_aload_n hx hb dL_law_490 rfl (lv_at hl 0 rfl) ?_
        refine lv_iload_n hx hb dL_law_491 rfl (lv_at hl 3 rfl) ?_
        refine lv_iconst (v := 2) hx hb dL_law_492 (by decide) ?_
        refine lv_iadd hx hb dL_law_493 ?_
        refine ez_top h (fun t_493 h => ?_)
        refine ez_sld hC hX hbl hS h dL_law_494 (fun t_494 h => ?_)
        refine ez_cVpi (As := [.int t_489, .int t_494]) (rest := []) h (fun _ q => c_X11_lock q) hC k_X11_lock ql_RL_41 rfl (by decide) hS (fun _ q => ez_rcv q) rfl hl.1 rfl (Nat.le_of_ble_eq_true rfl) ⟨Nat.le_trans (by decide) hR.1, Nat.le_trans (by decide) hR.2⟩ dL_law_495 (fun t_495 H locs hS h => ?_)
        refine lv_pop hx hb dL_law_498 rfl ?_
        refine lv_aload_n hx hb dL_law_499 rfl (lv_at hl 2 rfl) ?_
        refine lv_aload_n hx hb dL_law_500 rfl (lv_at hl 0 rfl) ?_
        refine lv_iload_n hx hb dL_law_501 rfl (lv_at hl 3 rfl) ?_
        refine lv_iconst (v := 1) hx hb dL_law_502 (by decide) ?_
        refine lv_iadd hx hb dL_law_503 ?_
        refine ez_top h (fun t_503 h => ?_)
        refine ez_sld hC hX hbl hS h dL_law_504 (fun t_504 h => ?_)
        refine lv_aload_n hx hb dL_law_505 rfl (lv_at hl 0 rfl) ?_
        refine lv_iload_n hx hb dL_law_506 rfl (lv_at hl 3 rfl) ?_
        refine lv_iconst (v := 2) hx hb dL_law_507 (by decide) ?_
        refine lv_iadd hx hb dL_law_508 ?_
        refine ez_top h (fun t_508 h => ?_)
        refine ez_sld hC hX hbl hS h dL_law_509 (fun t_509 h => ?_)
        refine ez_cVpi (As := [.int t_504, .int t_509]) (rest := []) h (fun _ q => c_X12_lock q) hC k_X12_lock ql_RL_44 rfl (by decide) hS (fun _ q => ez_rcv q) rfl hl.1 rfl (Nat.le_of_ble_eq_true rfl) ⟨Nat.le_trans (by decide) hR.1, Nat.le_trans (by decide) hR.2⟩ dL_law_510 (fun t_510 H locs hS h => ?_)
        refine lv_pop hx hb dL_law_513 rfl ?_
        refine lv_goto (tgt := 1998) hx hb dL_law_514 (by decide) ?_
        exact K_1998 k_18 hk_18 σ h1 h2 x3 _ _ _ hS h (lv_sub hl [0, 1, 2, 3] rfl)
      replace h := ez_ifn h s_33_6
      by_cases s_33_7 : t_32 = 7
      · replace h := ez_ifp h s_33_7
        refine lv_tableIn (tgt := 517) hx hb dL_law_33 (by rw [s_33_7]; decide) (by rw [s_33_7]; decide) (by first | (rw [s_33_7]; done) | (rw [s_33_7]; rfl)) (by decide) ?_
        refine lv_aload_n hx hb dL_law_517 rfl (lv_at hl 1 rfl) ?_
        refine lv_aload_n hx hb dL_law_518 rfl (lv_at hl 0 rfl) ?_
        refine lv_iload_n hx hb dL_law_519 rfl (lv_at hl 3 rfl) ?_
        refine lv_iconst (v := 1) hx hb dL_law_520 (by decide) ?_
        refine lv_iadd hx hb dL_law_521 ?_
        refine ez_top h (fun t_521 h => ?_)
        refine ez_sld hC hX hbl hS h dL_law_522 (fun t_522 h => ?_)
        refine lv_aload_n hx hb dL_law_523 rfl (lv_at hl 0 rfl) ?_
        refine lv_iload_n hx hb dL_law_524 rfl (lv_at hl 3 rfl) ?_
        refine lv_iconst (v := 2) hx hb dL_law_525 (by decide) ?_
        refine lv_iadd hx hb dL_law_526 ?_
        refine ez_top h (fun t_526 h => ?_)
        refine ez_sld hC hX hbl hS h dL_law_527 (fun t_527 h => ?_)
        refine ez_cVpi (As := [.int t_522, .int t_527]) (rest := []) h (fun _ q => c_X11_parts q) hC k_X11_parts ql_RL_45 rfl (by decide) hS (fun _ q => ez_rcv q) rfl hl.1 rfl (Nat.le_of_ble_eq_true rfl) ⟨Nat.le_trans (by decide) hR.1, Nat.le_trans (by decide) hR.2⟩ dL_law_528 (fun t_528 H locs hS h => ?_)
        refine lv_pop hx hb dL_law_531 rfl ?_
        refine lv_aload_n hx hb dL_law_532 rfl (lv_at hl 2 rfl) ?_
        refine lv_aload_n hx hb dL_law_533 rfl (lv_at hl 0 rfl) ?_
        refine lv_iload_n hx hb dL_law_534 rfl (lv_at hl 3 rfl) ?_
        refine lv_iconst (v := 1) hx hb dL_law_535 (by decide) ?_
        refine lv_iadd hx hb dL_law_536 ?_
        refine ez_top h (fun t_536 h => ?_)
        refine ez_sld hC hX hbl hS h dL_law_537 (fun t_537 h => ?_)
        refine lv_aload_n hx hb dL_law_538 rfl (lv_at hl 0 rfl) ?_
        refine lv_iload_n hx hb dL_law_539 rfl (lv_at hl 3 rfl) ?_
        refine lv_iconst (v := 2) hx hb dL_law_540 (by decide) ?_
        refine lv_iadd hx hb dL_law_541 ?_
        refine ez_top h (fun t_541 h => ?_)
        refine ez_sld hC hX hbl hS h dL_law_542 (fun t_542 h => ?_)
        refine ez_cVpi (As := [.int t_537, .int t_542]) (rest := []) h (fun _ q => c_X12_parts q) hC k_X12_parts ql_RL_48 rfl (by decide) hS (fun _ q => ez_rcv q) rfl hl.1 rfl (Nat.le_of_ble_eq_true rfl) ⟨Nat.le_trans (by decide) hR.1, Nat.le_trans (by decide) hR.2⟩ dL_law_543 (fun t_543 H locs hS h => ?_)
        refine lv_pop hx hb dL_law_546 rfl ?_
        refine lv_goto (tgt := 1998) hx hb dL_law_547 (by decide) ?_
        exact K_1998 k_18 hk_18 σ h1 h2 x3 _ _ _ hS h (lv_sub hl [0, 1, 2, 3] rfl)
      replace h := ez_ifn h s_33_7
      by_cases s_33_8 : t_32 = 8
      · replace h := ez_ifp h s_33_8
        refine lv_tableIn (tgt := 550) hx hb dL_law_33 (by rw [s_33_8]; decide) (by rw [s_33_8]; decide) (by first | (rw [s_33_8]; done) | (rw [s_33_8]; rfl)) (by decide) ?_
        refine lv_aload_n hx hb dL_law_550 rfl (lv_at hl 1 rfl) ?_
        refine lv_aload_n hx hb dL_law_551 rfl (lv_at hl 0 rfl) ?_
        refine lv_iload_n hx hb dL_law_552 rfl (lv_at hl 3 rfl) ?_
        refine lv_iconst (v := 1) hx hb dL_law_553 (by decide) ?_
        refine lv_iadd hx hb dL_law_554 ?_
        refine ez_top h (fun t_554 h => ?_)
        refine ez_sld hC hX hbl hS h dL_law_555 (fun t_555 h => ?_)
        refine lv_aload_n hx hb dL_law_556 rfl (lv_at hl 0 rfl) ?_
        refine lv_iload_n hx hb dL_law_557 rfl (lv_at hl 3 rfl) ?_
        refine lv_iconst (v := 2) hx hb dL_law_558 (by decide) ?_
        refine lv_iadd hx hb dL_law_559 ?_
        refine ez_top h (fun t_559 h => ?_)
        refine ez_sld hC hX hbl hS h dL_law_560 (fun t_560 h => ?_)
        refine ez_cVpi (As := [.int t_555, .int t_560]) (rest := []) h (fun _ q => c_X11_door q) hC k_X11_door ql_RL_49 rfl (by decide) hS (fun _ q => ez_rcv q) rfl hl.1 rfl (Nat.le_of_ble_eq_true rfl) ⟨Nat.le_trans (by decide) hR.1, Nat.le_trans (by decide) hR.2⟩ dL_law_561 (fun t_561 H locs hS h => ?_)
        refine lv_pop hx hb dL_law_564 rfl ?_
        refine lv_aload_n hx hb dL_law_565 rfl (lv_at hl 2 rfl) ?_
        refine lv_aload_n hx hb dL_law_566 rfl (lv_at hl 0 rfl) ?_
        refine lv_iload_n hx hb dL_law_567 rfl (lv_at hl 3 rfl) ?_
        refine lv_iconst (v := 1) hx hb dL_law_568 (by decide) ?_
        refine lv_iadd hx hb dL_law_569 ?_
        refine ez_top h (fun t_569 h => ?_)
        refine ez_sld hC hX hbl hS h dL_law_570 (fun t_570 h => ?_)
        refine lv_aload_n hx hb dL_law_571 rfl (lv_at hl 0 rfl) ?_
        refine lv_iload_n hx hb dL_law_572 rfl (lv_at hl 3 rfl) ?_
        refine lv_iconst (v := 2) hx hb dL_law_573 (by decide) ?_
        refine lv_iadd hx hb dL_law_574 ?_
        refine ez_top h (fun t_574 h => ?_)
        refine ez_sld hC hX hbl hS h dL_law_575 (fun t_575 h => ?_)
        refine ez_cVpi (As := [.int t_570, .int t_575]) (rest := []) h (fun _ q => c_X12_door q) hC k_X12_door ql_RL_52 rfl (by decide) hS (fun _ q => ez_rcv q) rfl hl.1 rfl (Nat.le_of_ble_eq_true rfl) ⟨Nat.le_trans (by decide) hR.1, Nat.le_trans (by decide) hR.2⟩ dL_law_576 (fun t_576 H locs hS h => ?_)
        refine lv_pop hx hb dL_law_579 rfl ?_
        refine lv_goto (tgt := 1998) hx hb dL_law_580 (by decide) ?_
        exact K_1998 k_18 hk_18 σ h1 h2 x3 _ _ _ hS h (lv_sub hl [0, 1, 2, 3] rfl)
      replace h := ez_ifn h s_33_8
      by_cases s_33_9 : t_32 = 9
      · replace h := ez_ifp h s_33_9
        refine lv_tableIn (tgt := 583) hx hb dL_law_33 (by rw [s_33_9]; decide) (by rw [s_33_9]; decide) (by first | (rw [s_33_9]; done) | (rw [s_33_9]; rfl)) (by decide) ?_
        refine lv_aload_n hx hb dL_law_583 rfl (lv_at hl 1 rfl) ?_
        refine lv_aload_n hx hb dL_law_584 rfl (lv_at hl 0 rfl) ?_
        refine lv_iload_n hx hb dL_law_585 rfl (lv_at hl 3 rfl) ?_
        refine lv_iconst (v := 1) hx hb dL_law_586 (by decide) ?_
        refine lv_iadd hx hb dL_law_587 ?_
        refine ez_top h (fun t_587 h => ?_)
        refine ez_sld hC hX hbl hS h dL_law_588 (fun t_588 h => ?_)
        refine lv_aload_n hx hb dL_law_589 rfl (lv_at hl 0 rfl) ?_
        refine lv_iload_n hx hb dL_law_590 rfl (lv_at hl 3 rfl) ?_
        refine lv_iconst (v := 2) hx hb dL_law_591 (by decide) ?_
        refine lv_iadd hx hb dL_law_592 ?_
        refine ez_top h (fun t_592 h => ?_)
        refine ez_sld hC hX hbl hS h dL_law_593 (fun t_593 h => ?_)
        refine ez_cVpi (As := [.int t_588, .int t_593]) (rest := []) h (fun _ q => c_X11_person q) hC k_X11_person ql_RL_53 rfl (by decide) hS (fun _ q => ez_rcv q) rfl hl.1 rfl (Nat.le_of_ble_eq_true rfl) ⟨Nat.le_trans (by decide) hR.1, Nat.le_trans (by decide) hR.2⟩ dL_law_594 (fun t_594 H locs hS h => ?_)
        refine lv_pop hx hb dL_law_597 rfl ?_
        refine lv_aload_n hx hb dL_law_598 rfl (lv_at hl 2 rfl) ?_
        refine lv_aload_n hx hb dL_law_599 rfl (lv_at hl 0 rfl) ?_
        refine lv_iload_n hx hb dL_law_600 rfl (lv_at hl 3 rfl) ?_
        refine lv_iconst (v := 1) hx hb dL_law_601 (by decide) ?_
        refine lv_iadd hx hb dL_law_602 ?_
        refine ez_top h (fun t_602 h => ?_)
        refine ez_sld hC hX hbl hS h dL_law_603 (fun t_603 h => ?_)
        refine lv_aload_n hx hb dL_law_604 rfl (lv_at hl 0 rfl) ?_
        refine lv_iload_n hx hb dL_law_605 rfl (lv_at hl 3 rfl) ?_
        refine lv_iconst (v := 2) hx hb dL_law_606 (by decide) ?_
        refine lv_iadd hx hb dL_law_607 ?_
        refine ez_top h (fun t_607 h => ?_)
        refine ez_sld hC hX hbl hS h dL_law_608 (fun t_608 h => ?_)
        refine ez_cVpi (As := [.int t_603, .int t_608]) (rest := []) h (fun _ q => c_X12_person q) hC k_X12_person ql_RL_56 rfl (by decide) hS (fun _ q => ez_rcv q) rfl hl.1 rfl (Nat.le_of_ble_eq_true rfl) ⟨Nat.le_trans (by decide) hR.1, Nat.le_trans (by decide) hR.2⟩ dL_law_609 (fun t_609 H locs hS h => ?_)
        refine lv_pop hx hb dL_law_612 rfl ?_
        refine lv_goto (tgt := 1998) hx hb dL_law_613 (by decide) ?_
        exact K_1998 k_18 hk_18 σ h1 h2 x3 _ _ _ hS h (lv_sub hl [0, 1, 2, 3] rfl)
      replace h := ez_ifn h s_33_9
      by_cases s_33_10 : t_32 = 10
      · replace h := ez_ifp h s_33_10
        refine lv_tableIn (tgt := 616) hx hb dL_law_33 (by rw [s_33_10]; decide) (by rw [s_33_10]; decide) (by first | (rw [s_33_10]; done) | (rw [s_33_10]; rfl)) (by decide) ?_
        refine lv_aload_n hx hb dL_law_616 rfl (lv_at hl 1 rfl) ?_
        refine lv_aload_n hx hb dL_law_617 rfl (lv_at hl 0 rfl) ?_
        refine lv_iload_n hx hb dL_law_618 rfl (lv_at hl 3 rfl) ?_
        refine lv_iconst (v := 1) hx hb dL_law_619 (by decide) ?_
        refine lv_iadd hx hb dL_law_620 ?_
        refine ez_top h (fun t_620 h => ?_)
        refine ez_sld hC hX hbl hS h dL_law_621 (fun t_621 h => ?_)
        refine lv_aload_n hx hb dL_law_622 rfl (lv_at hl 0 rfl) ?_
        refine lv_iload_n hx hb dL_law_623 rfl (lv_at hl 3 rfl) ?_
        refine lv_iconst (v := 2) hx hb dL_law_624 (by decide) ?_
        refine lv_iadd hx hb dL_law_625 ?_
        refine ez_top h (fun t_625 h => ?_)
        refine ez_sld hC hX hbl hS h dL_law_626 (fun t_626 h => ?_)
        refine ez_cVpi (As := [.int t_621, .int t_626]) (rest := []) h (fun _ q => c_X11_opens q) hC k_X11_opens ql_RL_57 rfl (by decide) hS (fun _ q => ez_rcv q) rfl hl.1 rfl (Nat.le_of_ble_eq_true rfl) ⟨Nat.le_trans (by decide) hR.1, Nat.le_trans (by decide) hR.2⟩ dL_law_627 (fun t_627 H locs hS h => ?_)
        refine lv_pop hx hb dL_law_630 rfl ?_
        refine lv_aload_n hx hb dL_law_631 rfl (lv_at hl 2 rfl) ?_
        refine lv_aload_n hx hb dL_law_632 rfl (lv_at hl 0 rfl) ?_
        refine lv_iload_n hx hb dL_law_633 rfl (lv_at hl 3 rfl) ?_
        refine lv_iconst (v := 1) hx hb dL_law_634 (by decide) ?_
        refine lv_iadd hx hb dL_law_635 ?_
        refine ez_top h (fun t_635 h => ?_)
        refine ez_sld hC hX hbl hS h dL_law_636 (fun t_636 h => ?_)
        refine lv_aload_n hx hb dL_law_637 rfl (lv_at hl 0 rfl) ?_
        refine lv_iload_n hx hb dL_law_638 rfl (lv_at hl 3 rfl) ?_
        refine lv_iconst (v := 2) hx hb dL_law_639 (by decide) ?_
        refine lv_iadd hx hb dL_law_640 ?_
        refine ez_top h (fun t_640 h => ?_)
        refine ez_sld hC hX hbl hS h dL_law_641 (fun t_641 h => ?_)
        refine ez_cVpi (As := [.int t_636, .int t_641]) (rest := []) h (fun _ q => c_X12_opens q) hC k_X12_opens ql_RL_60 rfl (by decide) hS (fun _ q => ez_rcv q) rfl hl.1 rfl (Nat.le_of_ble_eq_true rfl) ⟨Nat.le_trans (by decide) hR.1, Nat.le_trans (by decide) hR.2⟩ dL_law_642 (fun t_642 H locs hS h => ?_)
        refine lv_pop hx hb dL_law_645 rfl ?_
        refine lv_goto (tgt := 1998) hx hb dL_law_646 (by decide) ?_
        exact K_1998 k_18 hk_18 σ h1 h2 x3 _ _ _ hS h (lv_sub hl [0, 1, 2, 3] rfl)
      replace h := ez_ifn h s_33_10
      by_cases s_33_11 : t_32 = 11
      · replace h := ez_ifp h s_33_11
        refine lv_tableIn (tgt := 649) hx hb dL_law_33 (by rw [s_33_11]; decide) (by rw [s_33_11]; decide) (by first | (rw [s_33_11]; done) | (rw [s_33_11]; rfl)) (by decide) ?_
        refine lv_aload_n hx hb dL_law_649 rfl (lv_at hl 1 rfl) ?_
        refine lv_aload_n hx hb dL_law_650 rfl (lv_at hl 0 rfl) ?_
        refine lv_iload_n hx hb dL_law_651 rfl (lv_at hl 3 rfl) ?_
        refine lv_iconst (v := 1) hx hb dL_law_652 (by decide) ?_
        refine lv_iadd hx hb dL_law_653 ?_
        refine ez_top h (fun t_653 h => ?_)
        refine ez_sld hC hX hbl hS h dL_law_654 (fun t_654 h => ?_)
        refine lv_aload_n hx hb dL_law_655 rfl (lv_at hl 0 rfl) ?_
        refine lv_iload_n hx hb dL_law_656 rfl (lv_at hl 3 rfl) ?_
        refine lv_iconst (v := 2) hx hb dL_law_657 (by decide) ?_
        refine lv_iadd hx hb dL_law_658 ?_
        refine ez_top h (fun t_658 h => ?_)
        refine ez_sld hC hX hbl hS h dL_law_659 (fun t_659 h => ?_)
        refine ez_cVi (As := [.int t_654, .int t_659]) (rest := []) h (fun _ q => c_X11_walk q) hC k_X11_walk ql_RL_61 rfl (by decide) hS (fun _ q => ez_rcv q) rfl hl.1 rfl (Nat.le_of_ble_eq_true rfl) ⟨Nat.le_trans (by decide) hR.1, Nat.le_trans (by decide) hR.2⟩ dL_law_660 (fun t_660 σ H locs hS h => ?_)
        refine lv_pop hx hb dL_law_663 rfl ?_
        refine lv_aload_n hx hb dL_law_664 rfl (lv_at hl 2 rfl) ?_
        refine lv_aload_n hx hb dL_law_665 rfl (lv_at hl 0 rfl) ?_
        refine lv_iload_n hx hb dL_law_666 rfl (lv_at hl 3 rfl) ?_
        refine lv_iconst (v := 1) hx hb dL_law_667 (by decide) ?_
        refine lv_iadd hx hb dL_law_668 ?_
        refine ez_top h (fun t_668 h => ?_)
        refine ez_sld hC hX hbl hS h dL_law_669 (fun t_669 h => ?_)
        refine lv_aload_n hx hb dL_law_670 rfl (lv_at hl 0 rfl) ?_
        refine lv_iload_n hx hb dL_law_671 rfl (lv_at hl 3 rfl) ?_
        refine lv_iconst (v := 2) hx hb dL_law_672 (by decide) ?_
        refine lv_iadd hx hb dL_law_673 ?_
        refine ez_top h (fun t_673 h => ?_)
        refine ez_sld hC hX hbl hS h dL_law_674 (fun t_674 h => ?_)
        refine ez_cVi (As := [.int t_669, .int t_674]) (rest := []) h (fun _ q => c_X12_walk q) hC k_X12_walk ql_RL_64 rfl (by decide) hS (fun _ q => ez_rcv q) rfl hl.1 rfl (Nat.le_of_ble_eq_true rfl) ⟨Nat.le_trans (by decide) hR.1, Nat.le_trans (by decide) hR.2⟩ dL_law_675 (fun t_675 σ H locs hS h => ?_)
        refine lv_pop hx hb dL_law_678 rfl ?_
        refine lv_goto (tgt := 1998) hx hb dL_law_679 (by decide) ?_
        exact K_1998 k_18 hk_18 σ h1 h2 x3 _ _ _ hS h (lv_sub hl [0, 1, 2, 3] rfl)
      replace h := ez_ifn h s_33_11
      by_cases s_33_12 : t_32 = 12
      · replace h := ez_ifp h s_33_12
        refine lv_tableIn (tgt := 682) hx hb dL_law_33 (by rw [s_33_12]; decide) (by rw [s_33_12]; decide) (by first | (rw [s_33_12]; done) | (rw [s_33_12]; rfl)) (by decide) ?_
        refine lv_aload_n hx hb dL_law_682 rfl (lv_at hl 1 rfl) ?_
        refine lv_aload_n hx hb dL_law_683 rfl (lv_at hl 0 rfl) ?_
        refine lv_iload_n hx hb dL_law_684 rfl (lv_at hl 3 rfl) ?_
        refine lv_iconst (v := 1) hx hb dL_law_685 (by decide) ?_
        refine lv_iadd hx hb dL_law_686 ?_
        refine ez_top h (fun t_686 h => ?_)
        refine ez_sld hC hX hbl hS h dL_law_687 (fun t_687 h => ?_)
        refine lv_aload_n hx hb dL_law_688 rfl (lv_at hl 0 rfl) ?_
        refine lv_iload_n hx hb dL_law_689 rfl (lv_at hl 3 rfl) ?_
        refine lv_iconst (v := 2) hx hb dL_law_690 (by decide) ?_
        refine lv_iadd hx hb dL_law_691 ?_
        refine ez_top h (fun t_691 h => ?_)
        refine ez_sld hC hX hbl hS h dL_law_692 (fun t_692 h => ?_)
        refine ez_cVi (As := [.int t_687, .int t_692]) (rest := []) h (fun _ q => c_X11_give q) hC k_X11_give ql_RL_65 rfl (by decide) hS (fun _ q => ez_rcv q) rfl hl.1 rfl (Nat.le_of_ble_eq_true rfl) ⟨Nat.le_trans (by decide) hR.1, Nat.le_trans (by decide) hR.2⟩ dL_law_693 (fun t_693 σ H locs hS h => ?_)
        refine lv_pop hx hb dL_law_696 rfl ?_
        refine lv_aload_n hx hb dL_law_697 rfl (lv_at hl 2 rfl) ?_
        refine lv_aload_n hx hb dL_law_698 rfl (lv_at hl 0 rfl) ?_
        refine lv_iload_n hx hb dL_law_699 rfl (lv_at hl 3 rfl) ?_
        refine lv_iconst (v := 1) hx hb dL_law_700 (by decide) ?_
        refine lv_iadd hx hb dL_law_701 ?_
        refine ez_top h (fun t_701 h => ?_)
        refine ez_sld hC hX hbl hS h dL_law_702 (fun t_702 h => ?_)
        refine lv_aload_n hx hb dL_law_703 rfl (lv_at hl 0 rfl) ?_
        refine lv_iload_n hx hb dL_law_704 rfl (lv_at hl 3 rfl) ?_
        refine lv_iconst (v := 2) hx hb dL_law_705 (by decide) ?_
        refine lv_iadd hx hb dL_law_706 ?_
        refine ez_top h (fun t_706 h => ?_)
        refine ez_sld hC hX hbl hS h dL_law_707 (fun t_707 h => ?_)
        refine ez_cVi (As := [.int t_702, .int t_707]) (rest := []) h (fun _ q => c_X12_give q) hC k_X12_give ql_RL_68 rfl (by decide) hS (fun _ q => ez_rcv q) rfl hl.1 rfl (Nat.le_of_ble_eq_true rfl) ⟨Nat.le_trans (by decide) hR.1, Nat.le_trans (by decide) hR.2⟩ dL_law_708 (fun t_708 σ H locs hS h => ?_)
        refine lv_pop hx hb dL_law_711 rfl ?_
        refine lv_goto (tgt := 1998) hx hb dL_law_712 (by decide) ?_
        exact K_1998 k_18 hk_18 σ h1 h2 x3 _ _ _ hS h (lv_sub hl [0, 1, 2, 3] rfl)
      replace h := ez_ifn h s_33_12
      by_cases s_33_13 : t_32 = 13
      · replace h := ez_ifp h s_33_13
        refine lv_tableIn (tgt := 715) hx hb dL_law_33 (by rw [s_33_13]; decide) (by rw [s_33_13]; decide) (by first | (rw [s_33_13]; done) | (rw [s_33_13]; rfl)) (by decide) ?_
        refine lv_aload_n hx hb dL_law_715 rfl (lv_at hl 1 rfl) ?_
        refine lv_aload_n hx hb dL_law_716 rfl (lv_at hl 0 rfl) ?_
        refine lv_iload_n hx hb dL_law_717 rfl (lv_at hl 3 rfl) ?_
        refine lv_iconst (v := 1) hx hb dL_law_718 (by decide) ?_
        refine lv_iadd hx hb dL_law_719 ?_
        refine ez_top h (fun t_719 h => ?_)
        refine ez_sld hC hX hbl hS h dL_law_720 (fun t_720 h => ?_)
        refine ez_cVi (As := [.int t_720]) (rest := []) h (fun _ q => c_X11_hang q) hC k_X11_hang ql_RL_69 rfl (by decide) hS (fun _ q => ez_rcv q) rfl hl.1 rfl (Nat.le_of_ble_eq_true rfl) ⟨Nat.le_trans (by decide) hR.1, Nat.le_trans (by decide) hR.2⟩ dL_law_721 (fun t_721 σ H locs hS h => ?_)
        refine lv_pop hx hb dL_law_724 rfl ?_
        refine lv_aload_n hx hb dL_law_725 rfl (lv_at hl 2 rfl) ?_
        refine lv_aload_n hx hb dL_law_726 rfl (lv_at hl 0 rfl) ?_
        refine lv_iload_n hx hb dL_law_727 rfl (lv_at hl 3 rfl) ?_
        refine lv_iconst (v := 1) hx hb dL_law_728 (by decide) ?_
        refine lv_iadd hx hb dL_law_729 ?_
        refine ez_top h (fun t_729 h => ?_)
        refine ez_sld hC hX hbl hS h dL_law_730 (fun t_730 h => ?_)
        refine ez_cVi (As := [.int t_730]) (rest := []) h (fun _ q => c_X12_hang q) hC k_X12_hang ql_RL_72 rfl (by decide) hS (fun _ q => ez_rcv q) rfl hl.1 rfl (Nat.le_of_ble_eq_true rfl) ⟨Nat.le_trans (by decide) hR.1, Nat.le_trans (by decide) hR.2⟩ dL_law_731 (fun t_731 σ H locs hS h => ?_)
        refine lv_pop hx hb dL_law_734 rfl ?_
        refine lv_goto (tgt := 1998) hx hb dL_law_735 (by decide) ?_
        exact K_1998 k_18 hk_18 σ h1 h2 x3 _ _ _ hS h (lv_sub hl [0, 1, 2, 3] rfl)
      replace h := ez_ifn h s_33_13
      by_cases s_33_14 : t_32 = 14
      · replace h := ez_ifp h s_33_14
        refine lv_tableIn (tgt := 738) hx hb dL_law_33 (by rw [s_33_14]; decide) (by rw [s_33_14]; decide) (by first | (rw [s_33_14]; done) | (rw [s_33_14]; rfl)) (by decide) ?_
        refine lv_aload_n hx hb dL_law_738 rfl (lv_at hl 1 rfl) ?_
        refine lv_aload_n hx hb dL_law_739 rfl (lv_at hl 0 rfl) ?_
        refine lv_iload_n hx hb dL_law_740 rfl (lv_at hl 3 rfl) ?_
        refine lv_iconst (v := 1) hx hb dL_law_741 (by decide) ?_
        refine lv_iadd hx hb dL_law_742 ?_
        refine ez_top h (fun t_742 h => ?_)
        refine ez_sld hC hX hbl hS h dL_law_743 (fun t_743 h => ?_)
        refine ez_cVi (As := [.int t_743]) (rest := []) h (fun _ q => c_X11_lose q) hC k_X11_lose ql_RL_73 rfl (by decide) hS (fun _ q => ez_rcv q) rfl hl.1 rfl (Nat.le_of_ble_eq_true rfl) ⟨Nat.le_trans (by decide) hR.1, Nat.le_trans (by decide) hR.2⟩ dL_law_744 (fun t_744 σ H locs hS h => ?_)
        refine lv_pop hx hb dL_law_747 rfl ?_
        refine lv_aload_n hx hb dL_law_748 rfl (lv_at hl 2 rfl) ?_
        refine lv_aload_n hx hb dL_law_749 rfl (lv_at hl 0 rfl) ?_
        refine lv_iload_n hx hb dL_law_750 rfl (lv_at hl 3 rfl) ?_
        refine lv_iconst (v := 1) hx hb dL_law_751 (by decide) ?_
        refine lv_iadd hx hb dL_law_752 ?_
        refine ez_top h (fun t_752 h => ?_)
        refine ez_sld hC hX hbl hS h dL_law_753 (fun t_753 h => ?_)
        refine ez_cVi (As := [.int t_753]) (rest := []) h (fun _ q => c_X12_lose q) hC k_X12_lose ql_RL_76 rfl (by decide) hS (fun _ q => ez_rcv q) rfl hl.1 rfl (Nat.le_of_ble_eq_true rfl) ⟨Nat.le_trans (by decide) hR.1, Nat.le_trans (by decide) hR.2⟩ dL_law_754 (fun t_754 σ H locs hS h => ?_)
        refine lv_pop hx hb dL_law_757 rfl ?_
        refine lv_goto (tgt := 1998) hx hb dL_law_758 (by decide) ?_
        exact K_1998 k_18 hk_18 σ h1 h2 x3 _ _ _ hS h (lv_sub hl [0, 1, 2, 3] rfl)
      replace h := ez_ifn h s_33_14
      by_cases s_33_15 : t_32 = 15
      · replace h := ez_ifp h s_33_15
        refine lv_tableIn (tgt := 761) hx hb dL_law_33 (by rw [s_33_15]; decide) (by rw [s_33_15]; decide) (by first | (rw [s_33_15]; done) | (rw [s_33_15]; rfl)) (by decide) ?_
        refine lv_aload_n hx hb dL_law_761 rfl (lv_at hl 1 rfl) ?_
        refine lv_aload_n hx hb dL_law_762 rfl (lv_at hl 0 rfl) ?_
        refine lv_iload_n hx hb dL_law_763 rfl (lv_at hl 3 rfl) ?_
        refine lv_iconst (v := 1) hx hb dL_law_764 (by decide) ?_
        refine lv_iadd hx hb dL_law_765 ?_
        refine ez_top h (fun t_765 h => ?_)
        refine ez_sld hC hX hbl hS h dL_law_766 (fun t_766 h => ?_)
        refine lv_aload_n hx hb dL_law_767 rfl (lv_at hl 0 rfl) ?_
        refine lv_iload_n hx hb dL_law_768 rfl (lv_at hl 3 rfl) ?_
        refine lv_iconst (v := 2) hx hb dL_law_769 (by decide) ?_
        refine lv_iadd hx hb dL_law_770 ?_
        refine ez_top h (fun t_770 h => ?_)
        refine ez_sld hC hX hbl hS h dL_law_771 (fun t_771 h => ?_)
        refine ez_cVi (As := [.int t_766, .int t_771]) (rest := []) h (fun _ q => c_X11_find q) hC k_X11_find ql_RL_77 rfl (by decide) hS (fun _ q => ez_rcv q) rfl hl.1 rfl (Nat.le_of_ble_eq_true rfl) ⟨Nat.le_trans (by decide) hR.1, Nat.le_trans (by decide) hR.2⟩ dL_law_772 (fun t_772 σ H locs hS h => ?_)
        refine lv_pop hx hb dL_law_775 rfl ?_
        refine lv_aload_n hx hb dL_law_776 rfl (lv_at hl 2 rfl) ?_
        refine lv_aload_n hx hb dL_law_777 rfl (lv_at hl 0 rfl) ?_
        refine lv_iload_n hx hb dL_law_778 rfl (lv_at hl 3 rfl) ?_
        refine lv_iconst (v := 1) hx hb dL_law_779 (by decide) ?_
        refine lv_iadd hx hb dL_law_780 ?_
        refine ez_top h (fun t_780 h => ?_)
        refine ez_sld hC hX hbl hS h dL_law_781 (fun t_781 h => ?_)
        refine lv_aload_n hx hb dL_law_782 rfl (lv_at hl 0 rfl) ?_
        refine lv_iload_n hx hb dL_law_783 rfl (lv_at hl 3 rfl) ?_
        refine lv_iconst (v := 2) hx hb dL_law_784 (by decide) ?_
        refine lv_iadd hx hb dL_law_785 ?_
        refine ez_top h (fun t_785 h => ?_)
        refine ez_sld hC hX hbl hS h dL_law_786 (fun t_786 h => ?_)
        refine ez_cVi (As := [.int t_781, .int t_786]) (rest := []) h (fun _ q => c_X12_find q) hC k_X12_find ql_RL_80 rfl (by decide) hS (fun _ q => ez_rcv q) rfl hl.1 rfl (Nat.le_of_ble_eq_true rfl) ⟨Nat.le_trans (by decide) hR.1, Nat.le_trans (by decide) hR.2⟩ dL_law_787 (fun t_787 σ H locs hS h => ?_)
        refine lv_pop hx hb dL_law_790 rfl ?_
        refine lv_goto (tgt := 1998) hx hb dL_law_791 (by decide) ?_
        exact K_1998 k_18 hk_18 σ h1 h2 x3 _ _ _ hS h (lv_sub hl [0, 1, 2, 3] rfl)
      replace h := ez_ifn h s_33_15
      by_cases s_33_16 : t_32 = 16
      · replace h := ez_ifp h s_33_16
        refine lv_tableIn (tgt := 794) hx hb dL_law_33 (by rw [s_33_16]; decide) (by rw [s_33_16]; decide) (by first | (rw [s_33_16]; done) | (rw [s_33_16]; rfl)) (by decide) ?_
        refine lv_aload_n hx hb dL_law_794 rfl (lv_at hl 1 rfl) ?_
        refine lv_aload_n hx hb dL_law_795 rfl (lv_at hl 0 rfl) ?_
        refine lv_iload_n hx hb dL_law_796 rfl (lv_at hl 3 rfl) ?_
        refine lv_iconst (v := 1) hx hb dL_law_797 (by decide) ?_
        refine lv_iadd hx hb dL_law_798 ?_
        refine ez_top h (fun t_798 h => ?_)
        refine ez_sld hC hX hbl hS h dL_law_799 (fun t_799 h => ?_)
        refine lv_aload_n hx hb dL_law_800 rfl (lv_at hl 0 rfl) ?_
        refine lv_iload_n hx hb dL_law_801 rfl (lv_at hl 3 rfl) ?_
        refine lv_iconst (v := 2) hx hb dL_law_802 (by decide) ?_
        refine lv_iadd hx hb dL_law_803 ?_
        refine ez_top h (fun t_803 h => ?_)
        refine ez_sld hC hX hbl hS h dL_law_804 (fun t_804 h => ?_)
        refine ez_cVi (As := [.int t_799, .int t_804]) (rest := []) h (fun _ q => c_X11_file q) hC k_X11_file ql_RL_81 rfl (by decide) hS (fun _ q => ez_rcv q) rfl hl.1 rfl (Nat.le_of_ble_eq_true rfl) ⟨Nat.le_trans (by decide) hR.1, Nat.le_trans (by decide) hR.2⟩ dL_law_805 (fun t_805 σ H locs hS h => ?_)
        refine lv_pop hx hb dL_law_808 rfl ?_
        refine lv_aload_n hx hb dL_law_809 rfl (lv_at hl 2 rfl) ?_
        refine lv_aload_n hx hb dL_law_810 rfl (lv_at hl 0 rfl) ?_
        refine lv_iload_n hx hb dL_law_811 rfl (lv_at hl 3 rfl) ?_
        refine lv_iconst (v := 1) hx hb dL_law_812 (by decide) ?_
        refine lv_iadd hx hb dL_law_813 ?_
        refine ez_top h (fun t_813 h => ?_)
        refine ez_sld hC hX hbl hS h dL_law_814 (fun t_814 h => ?_)
        refine lv_aload_n hx hb dL_law_815 rfl (lv_at hl 0 rfl) ?_
        refine lv_iload_n hx hb dL_law_816 rfl (lv_at hl 3 rfl) ?_
        refine lv_iconst (v := 2) hx hb dL_law_817 (by decide) ?_
        refine lv_iadd hx hb dL_law_818 ?_
        refine ez_top h (fun t_818 h => ?_)
        refine ez_sld hC hX hbl hS h dL_law_819 (fun t_819 h => ?_)
        refine ez_cVi (As := [.int t_814, .int t_819]) (rest := []) h (fun _ q => c_X12_file q) hC k_X12_file ql_RL_84 rfl (by decide) hS (fun _ q => ez_rcv q) rfl hl.1 rfl (Nat.le_of_ble_eq_true rfl) ⟨Nat.le_trans (by decide) hR.1, Nat.le_trans (by decide) hR.2⟩ dL_law_820 (fun t_820 σ H locs hS h => ?_)
        refine lv_pop hx hb dL_law_823 rfl ?_
        refine lv_goto (tgt := 1998) hx hb dL_law_824 (by decide) ?_
        exact K_1998 k_18 hk_18 σ h1 h2 x3 _ _ _ hS h (lv_sub hl [0, 1, 2, 3] rfl)
      replace h := ez_ifn h s_33_16
      by_cases s_33_17 : t_32 = 17
      · replace h := ez_ifp h s_33_17
        refine lv_tableIn (tgt := 827) hx hb dL_law_33 (by rw [s_33_17]; decide) (by rw [s_33_17]; decide) (by first | (rw [s_33_17]; done) | (rw [s_33_17]; rfl)) (by decide) ?_
        refine lv_aload_n hx hb dL_law_827 rfl (lv_at hl 1 rfl) ?_
        refine lv_aload_n hx hb dL_law_828 rfl (lv_at hl 0 rfl) ?_
        refine lv_iload_n hx hb dL_law_829 rfl (lv_at hl 3 rfl) ?_
        refine lv_iconst (v := 1) hx hb dL_law_830 (by decide) ?_
        refine lv_iadd hx hb dL_law_831 ?_
        refine ez_top h (fun t_831 h => ?_)
        refine ez_sld hC hX hbl hS h dL_law_832 (fun t_832 h => ?_)
        refine lv_aload_n hx hb dL_law_833 rfl (lv_at hl 0 rfl) ?_
        refine lv_iload_n hx hb dL_law_834 rfl (lv_at hl 3 rfl) ?_
        refine lv_iconst (v := 2) hx hb dL_law_835 (by decide) ?_
        refine lv_iadd hx hb dL_law_836 ?_
        refine ez_top h (fun t_836 h => ?_)
        refine ez_sld hC hX hbl hS h dL_law_837 (fun t_837 h => ?_)
        refine ez_cVi (As := [.int t_832, .int t_837]) (rest := []) h (fun _ q => c_X11_recut q) hC k_X11_recut ql_RL_85 rfl (by decide) hS (fun _ q => ez_rcv q) rfl hl.1 rfl (Nat.le_of_ble_eq_true rfl) ⟨Nat.le_trans (by decide) hR.1, Nat.le_trans (by decide) hR.2⟩ dL_law_838 (fun t_838 σ H locs hS h => ?_)
        refine lv_pop hx hb dL_law_841 rfl ?_
        refine lv_aload_n hx hb dL_law_842 rfl (lv_at hl 2 rfl) ?_
        refine lv_aload_n hx hb dL_law_843 rfl (lv_at hl 0 rfl) ?_
        refine lv_iload_n hx hb dL_law_844 rfl (lv_at hl 3 rfl) ?_
        refine lv_iconst (v := 1) hx hb dL_law_845 (by decide) ?_
        refine lv_iadd hx hb dL_law_846 ?_
        refine ez_top h (fun t_846 h => ?_)
        refine ez_sld hC hX hbl hS h dL_law_847 (fun t_847 h => ?_)
        refine lv_aload_n hx hb dL_law_848 rfl (lv_at hl 0 rfl) ?_
        refine lv_iload_n hx hb dL_law_849 rfl (lv_at hl 3 rfl) ?_
        refine lv_iconst (v := 2) hx hb dL_law_850 (by decide) ?_
        refine lv_iadd hx hb dL_law_851 ?_
        refine ez_top h (fun t_851 h => ?_)
        refine ez_sld hC hX hbl hS h dL_law_852 (fun t_852 h => ?_)
        refine ez_cVi (As := [.int t_847, .int t_852]) (rest := []) h (fun _ q => c_X12_recut q) hC k_X12_recut ql_RL_88 rfl (by decide) hS (fun _ q => ez_rcv q) rfl hl.1 rfl (Nat.le_of_ble_eq_true rfl) ⟨Nat.le_trans (by decide) hR.1, Nat.le_trans (by decide) hR.2⟩ dL_law_853 (fun t_853 σ H locs hS h => ?_)
        refine lv_pop hx hb dL_law_856 rfl ?_
        refine lv_goto (tgt := 1998) hx hb dL_law_857 (by decide) ?_
        exact K_1998 k_18 hk_18 σ h1 h2 x3 _ _ _ hS h (lv_sub hl [0, 1, 2, 3] rfl)
      replace h := ez_ifn h s_33_17
      by_cases s_33_18 : t_32 = 18
      · replace h := ez_ifp h s_33_18
        refine lv_tableIn (tgt := 860) hx hb dL_law_33 (by rw [s_33_18]; decide) (by rw [s_33_18]; decide) (by first | (rw [s_33_18]; done) | (rw [s_33_18]; rfl)) (by decide) ?_
        refine lv_aload_n hx hb dL_law_860 rfl (lv_at hl 1 rfl) ?_
        refine lv_aload_n hx hb dL_law_861 rfl (lv_at hl 0 rfl) ?_
        refine lv_iload_n hx hb dL_law_862 rfl (lv_at hl 3 rfl) ?_
        refine lv_iconst (v := 1) hx hb dL_law_863 (by decide) ?_
        refine lv_iadd hx hb dL_law_864 ?_
        refine ez_top h (fun t_864 h => ?_)
        refine ez_sld hC hX hbl hS h dL_law_865 (fun t_865 h => ?_)
        refine lv_aload_n hx hb dL_law_866 rfl (lv_at hl 0 rfl) ?_
        refine lv_iload_n hx hb dL_law_867 rfl (lv_at hl 3 rfl) ?_
        refine lv_iconst (v := 2) hx hb dL_law_868 (by decide) ?_
        refine lv_iadd hx hb dL_law_869 ?_
        refine ez_top h (fun t_869 h => ?_)
        refine ez_sld hC hX hbl hS h dL_law_870 (fun t_870 h => ?_)
        refine ez_cVi (As := [.int t_865, .int t_870]) (rest := []) h (fun _ q => c_X11_pin q) hC k_X11_pin ql_RL_89 rfl (by decide) hS (fun _ q => ez_rcv q) rfl hl.1 rfl (Nat.le_of_ble_eq_true rfl) ⟨Nat.le_trans (by decide) hR.1, Nat.le_trans (by decide) hR.2⟩ dL_law_871 (fun t_871 σ H locs hS h => ?_)
        refine lv_pop hx hb dL_law_874 rfl ?_
        refine lv_aload_n hx hb dL_law_875 rfl (lv_at hl 2 rfl) ?_
        refine lv_aload_n hx hb dL_law_876 rfl (lv_at hl 0 rfl) ?_
        refine lv_iload_n hx hb dL_law_877 rfl (lv_at hl 3 rfl) ?_
        refine lv_iconst (v := 1) hx hb dL_law_878 (by decide) ?_
        refine lv_iadd hx hb dL_law_879 ?_
        refine ez_top h (fun t_879 h => ?_)
        refine ez_sld hC hX hbl hS h dL_law_880 (fun t_880 h => ?_)
        refine lv_aload_n hx hb dL_law_881 rfl (lv_at hl 0 rfl) ?_
        refine lv_iload_n hx hb dL_law_882 rfl (lv_at hl 3 rfl) ?_
        refine lv_iconst (v := 2) hx hb dL_law_883 (by decide) ?_
        refine lv_iadd hx hb dL_law_884 ?_
        refine ez_top h (fun t_884 h => ?_)
        refine ez_sld hC hX hbl hS h dL_law_885 (fun t_885 h => ?_)
        refine ez_cVi (As := [.int t_880, .int t_885]) (rest := []) h (fun _ q => c_X12_pin q) hC k_X12_pin ql_RL_92 rfl (by decide) hS (fun _ q => ez_rcv q) rfl hl.1 rfl (Nat.le_of_ble_eq_true rfl) ⟨Nat.le_trans (by decide) hR.1, Nat.le_trans (by decide) hR.2⟩ dL_law_886 (fun t_886 σ H locs hS h => ?_)
        refine lv_pop hx hb dL_law_889 rfl ?_
        refine lv_goto (tgt := 1998) hx hb dL_law_890 (by decide) ?_
        exact K_1998 k_18 hk_18 σ h1 h2 x3 _ _ _ hS h (lv_sub hl [0, 1, 2, 3] rfl)
      replace h := ez_ifn h s_33_18
      by_cases s_33_19 : t_32 = 19
      · replace h := ez_ifp h s_33_19
        refine lv_tableIn (tgt := 893) hx hb dL_law_33 (by rw [s_33_19]; decide) (by rw [s_33_19]; decide) (by first | (rw [s_33_19]; done) | (rw [s_33_19]; rfl)) (by decide) ?_
        refine lv_aload_n hx hb dL_law_893 rfl (lv_at hl 1 rfl) ?_
        refine lv_aload_n hx hb dL_law_894 rfl (lv_at hl 0 rfl) ?_
        refine lv_iload_n hx hb dL_law_895 rfl (lv_at hl 3 rfl) ?_
        refine lv_iconst (v := 1) hx hb dL_law_896 (by decide) ?_
        refine lv_iadd hx hb dL_law_897 ?_
        refine ez_top h (fun t_897 h => ?_)
        refine ez_sld hC hX hbl hS h dL_law_898 (fun t_898 h => ?_)
        refine lv_aload_n hx hb dL_law_899 rfl (lv_at hl 0 rfl) ?_
        refine lv_iload_n hx hb dL_law_900 rfl (lv_at hl 3 rfl) ?_
        refine lv_iconst (v := 2) hx hb dL_law_901 (by decide) ?_
        refine lv_iadd hx hb dL_law_902 ?_
        refine ez_top h (fun t_902 h => ?_)
        refine ez_sld hC hX hbl hS h dL_law_903 (fun t_903 h => ?_)
        refine lv_aload_n hx hb dL_law_904 rfl (lv_at hl 0 rfl) ?_
        refine lv_iload_n hx hb dL_law_905 rfl (lv_at hl 3 rfl) ?_
        refine lv_iconst (v := 3) hx hb dL_law_906 (by decide) ?_
        refine lv_iadd hx hb dL_law_907 ?_
        refine ez_top h (fun t_907 h => ?_)
        refine ez_sld hC hX hbl hS h dL_law_908 (fun t_908 h => ?_)
        refine ez_cVi (As := [.int t_898, .int t_903, .int t_908]) (rest := []) h (fun _ q => c_X11_part q) hC k_X11_part ql_RL_93 rfl (by decide) hS (fun _ q => ez_rcv q) rfl hl.1 rfl (Nat.le_of_ble_eq_true rfl) ⟨Nat.le_trans (by decide) hR.1, Nat.le_trans (by decide) hR.2⟩ dL_law_909 (fun t_909 σ H locs hS h => ?_)
        refine lv_pop hx hb dL_law_912 rfl ?_
        refine lv_aload_n hx hb dL_law_913 rfl (lv_at hl 2 rfl) ?_
        refine lv_aload_n hx hb dL_law_914 rfl (lv_at hl 0 rfl) ?_
        refine lv_iload_n hx hb dL_law_915 rfl (lv_at hl 3 rfl) ?_
        refine lv_iconst (v := 1) hx hb dL_law_916 (by decide) ?_
        refine lv_iadd hx hb dL_law_917 ?_
        refine ez_top h (fun t_917 h => ?_)
        refine ez_sld hC hX hbl hS h dL_law_918 (fun t_918 h => ?_)
        refine lv_aload_n hx hb dL_law_919 rfl (lv_at hl 0 rfl) ?_
        refine lv_iload_n hx hb dL_law_920 rfl (lv_at hl 3 rfl) ?_
        refine lv_iconst (v := 2) hx hb dL_law_921 (by decide) ?_
        refine lv_iadd hx hb dL_law_922 ?_
        refine ez_top h (fun t_922 h => ?_)
        refine ez_sld hC hX hbl hS h dL_law_923 (fun t_923 h => ?_)
        refine lv_aload_n hx hb dL_law_924 rfl (lv_at hl 0 rfl) ?_
        refine lv_iload_n hx hb dL_law_925 rfl (lv_at hl 3 rfl) ?_
        refine lv_iconst (v := 3) hx hb dL_law_926 (by decide) ?_
        refine lv_iadd hx hb dL_law_927 ?_
        refine ez_top h (fun t_927 h => ?_)
        refine ez_sld hC hX hbl hS h dL_law_928 (fun t_928 h => ?_)
        refine ez_cVi (As := [.int t_918, .int t_923, .int t_928]) (rest := []) h (fun _ q => c_X12_part q) hC k_X12_part ql_RL_97 rfl (by decide) hS (fun _ q => ez_rcv q) rfl hl.1 rfl (Nat.le_of_ble_eq_true rfl) ⟨Nat.le_trans (by decide) hR.1, Nat.le_trans (by decide) hR.2⟩ dL_law_929 (fun t_929 σ H locs hS h => ?_)
        refine lv_pop hx hb dL_law_932 rfl ?_
        refine lv_goto (tgt := 1998) hx hb dL_law_933 (by decide) ?_
        exact K_1998 k_18 hk_18 σ h1 h2 x3 _ _ _ hS h (lv_sub hl [0, 1, 2, 3] rfl)
      replace h := ez_ifn h s_33_19
      by_cases s_33_20 : t_32 = 20
      · replace h := ez_ifp h s_33_20
        refine lv_tableIn (tgt := 936) hx hb dL_law_33 (by rw [s_33_20]; decide) (by rw [s_33_20]; decide) (by first | (rw [s_33_20]; done) | (rw [s_33_20]; rfl)) (by decide) ?_
        refine lv_aload_n hx hb dL_law_936 rfl (lv_at hl 1 rfl) ?_
        refine ez_cVi (As := []) (rest := []) h (fun _ q => c_X11_undo q) hC k_X11_undo ql_RL_98 rfl (by decide) hS (fun _ q => ez_rcv q) rfl hl.1 rfl (Nat.le_of_ble_eq_true rfl) ⟨Nat.le_trans (by decide) hR.1, Nat.le_trans (by decide) hR.2⟩ dL_law_937 (fun t_937 σ H locs hS h => ?_)
        refine lv_pop hx hb dL_law_940 rfl ?_
        refine lv_aload_n hx hb dL_law_941 rfl (lv_at hl 2 rfl) ?_
        refine ez_cVi (As := []) (rest := []) h (fun _ q => c_X12_undo q) hC k_X12_undo ql_RL_102 rfl (by decide) hS (fun _ q => ez_rcv q) rfl hl.1 rfl (Nat.le_of_ble_eq_true rfl) ⟨Nat.le_trans (by decide) hR.1, Nat.le_trans (by decide) hR.2⟩ dL_law_942 (fun t_942 σ H locs hS h => ?_)
        refine lv_pop hx hb dL_law_945 rfl ?_
        refine lv_goto (tgt := 1998) hx hb dL_law_946 (by decide) ?_
        exact K_1998 k_18 hk_18 σ h1 h2 x3 _ _ _ hS h (lv_sub hl [0, 1, 2, 3] rfl)
      replace h := ez_ifn h s_33_20
      by_cases s_33_21 : t_32 = 21
      · replace h := ez_ifp h s_33_21
        refine lv_tableIn (tgt := 949) hx hb dL_law_33 (by rw [s_33_21]; decide) (by rw [s_33_21]; decide) (by first | (rw [s_33_21]; done) | (rw [s_33_21]; rfl)) (by decide) ?_
        refine lv_aload_n hx hb dL_law_949 rfl (lv_at hl 1 rfl) ?_
        refine ez_cVi (As := []) (rest := []) h (fun _ q => c_X11_redo q) hC k_X11_redo ql_RL_103 rfl (by decide) hS (fun _ q => ez_rcv q) rfl hl.1 rfl (Nat.le_of_ble_eq_true rfl) ⟨Nat.le_trans (by decide) hR.1, Nat.le_trans (by decide) hR.2⟩ dL_law_950 (fun t_950 σ H locs hS h => ?_)
        refine lv_pop hx hb dL_law_953 rfl ?_
        refine lv_aload_n hx hb dL_law_954 rfl (lv_at hl 2 rfl) ?_
        refine ez_cVi (As := []) (rest := []) h (fun _ q => c_X12_redo q) hC k_X12_redo ql_RL_106 rfl (by decide) hS (fun _ q => ez_rcv q) rfl hl.1 rfl (Nat.le_of_ble_eq_true rfl) ⟨Nat.le_trans (by decide) hR.1, Nat.le_trans (by decide) hR.2⟩ dL_law_955 (fun t_955 σ H locs hS h => ?_)
        refine lv_pop hx hb dL_law_958 rfl ?_
        refine lv_goto (tgt := 1998) hx hb dL_law_959 (by decide) ?_
        exact K_1998 k_18 hk_18 σ h1 h2 x3 _ _ _ hS h (lv_sub hl [0, 1, 2, 3] rfl)
      replace h := ez_ifn h s_33_21
      by_cases s_33_22 : t_32 = 22
      · replace h := ez_ifp h s_33_22
        refine lv_tableIn (tgt := 962) hx hb dL_law_33 (by rw [s_33_22]; decide) (by rw [s_33_22]; decide) (by first | (rw [s_33_22]; done) | (rw [s_33_22]; rfl)) (by decide) ?_
        refine lv_aload_n hx hb dL_law_962 rfl (lv_at hl 1 rfl) ?_
        refine ez_cVi (As := []) (rest := []) h (fun _ q => c_X11_legal q) hC k_X11_legal ql_RL_107 rfl (by decide) hS (fun _ q => ez_rcv q) rfl hl.1 rfl (Nat.le_of_ble_eq_true rfl) ⟨Nat.le_trans (by decide) hR.1, Nat.le_trans (by decide) hR.2⟩ dL_law_963 (fun t_963 σ H locs hS h => ?_)
        refine lv_pop hx hb dL_law_966 rfl ?_
        refine lv_aload_n hx hb dL_law_967 rfl (lv_at hl 2 rfl) ?_
        refine ez_cVpi (As := []) (rest := []) h (fun _ q => c_X12_legal q) hC k_X12_legal ql_RL_110 rfl (by decide) hS (fun _ q => ez_rcv q) rfl hl.1 rfl (Nat.le_of_ble_eq_true rfl) ⟨Nat.le_trans (by decide) hR.1, Nat.le_trans (by decide) hR.2⟩ dL_law_968 (fun t_968 H locs hS h => ?_)
        refine lv_pop hx hb dL_law_971 rfl ?_
        refine lv_goto (tgt := 1998) hx hb dL_law_972 (by decide) ?_
        exact K_1998 k_18 hk_18 σ h1 h2 x3 _ _ _ hS h (lv_sub hl [0, 1, 2, 3] rfl)
      replace h := ez_ifn h s_33_22
      by_cases s_33_23 : t_32 = 23
      · replace h := ez_ifp h s_33_23
        refine lv_tableIn (tgt := 975) hx hb dL_law_33 (by rw [s_33_23]; decide) (by rw [s_33_23]; decide) (by first | (rw [s_33_23]; done) | (rw [s_33_23]; rfl)) (by decide) ?_
        refine lv_aload_n hx hb dL_law_975 rfl (lv_at hl 1 rfl) ?_
        refine lv_aload_n hx hb dL_law_976 rfl (lv_at hl 0 rfl) ?_
        refine lv_iload_n hx hb dL_law_977 rfl (lv_at hl 3 rfl) ?_
        refine lv_iconst (v := 1) hx hb dL_law_978 (by decide) ?_
        refine lv_iadd hx hb dL_law_979 ?_
        refine ez_top h (fun t_979 h => ?_)
        refine ez_sld hC hX hbl hS h dL_law_980 (fun t_980 h => ?_)
        refine ez_cVi (As := [.int t_980]) (rest := []) h (fun _ q => c_X11_bitting q) hC k_X11_bitting ql_RL_111 rfl (by decide) hS (fun _ q => ez_rcv q) rfl hl.1 rfl (Nat.le_of_ble_eq_true rfl) ⟨Nat.le_trans (by decide) hR.1, Nat.le_trans (by decide) hR.2⟩ dL_law_981 (fun t_981 σ H locs hS h => ?_)
        refine lv_pop hx hb dL_law_984 rfl ?_
        refine lv_aload_n hx hb dL_law_985 rfl (lv_at hl 2 rfl) ?_
        refine lv_aload_n hx hb dL_law_986 rfl (lv_at hl 0 rfl) ?_
        refine lv_iload_n hx hb dL_law_987 rfl (lv_at hl 3 rfl) ?_
        refine lv_iconst (v := 1) hx hb dL_law_988 (by decide) ?_
        refine lv_iadd hx hb dL_law_989 ?_
        refine ez_top h (fun t_989 h => ?_)
        refine ez_sld hC hX hbl hS h dL_law_990 (fun t_990 h => ?_)
        refine ez_cVpi (As := [.int t_990]) (rest := []) h (fun _ q => c_X12_bitting q) hC k_X12_bitting ql_RL_114 rfl (by decide) hS (fun _ q => ez_rcv q) rfl hl.1 rfl (Nat.le_of_ble_eq_true rfl) ⟨Nat.le_trans (by decide) hR.1, Nat.le_trans (by decide) hR.2⟩ dL_law_991 (fun t_991 H locs hS h => ?_)
        refine lv_pop hx hb dL_law_994 rfl ?_
        refine lv_goto (tgt := 1998) hx hb dL_law_995 (by decide) ?_
        exact K_1998 k_18 hk_18 σ h1 h2 x3 _ _ _ hS h (lv_sub hl [0, 1, 2, 3] rfl)
      replace h := ez_ifn h s_33_23
      by_cases s_33_24 : t_32 = 24
      · replace h := ez_ifp h s_33_24
        refine lv_tableIn (tgt := 998) hx hb dL_law_33 (by rw [s_33_24]; decide) (by rw [s_33_24]; decide) (by first | (rw [s_33_24]; done) | (rw [s_33_24]; rfl)) (by decide) ?_
        refine lv_aload_n hx hb dL_law_998 rfl (lv_at hl 1 rfl) ?_
        refine lv_aload_n hx hb dL_law_999 rfl (lv_at hl 0 rfl) ?_
        refine lv_iload_n hx hb dL_law_1000 rfl (lv_at hl 3 rfl) ?_
        refine lv_iconst (v := 1) hx hb dL_law_1001 (by decide) ?_
        refine lv_iadd hx hb dL_law_1002 ?_
        refine ez_top h (fun t_1002 h => ?_)
        refine ez_sld hC hX hbl hS h dL_law_1003 (fun t_1003 h => ?_)
        refine ez_cVi (As := [.int t_1003]) (rest := []) h (fun _ q => c_X11_rank q) hC k_X11_rank ql_RL_115 rfl (by decide) hS (fun _ q => ez_rcv q) rfl hl.1 rfl (Nat.le_of_ble_eq_true rfl) ⟨Nat.le_trans (by decide) hR.1, Nat.le_trans (by decide) hR.2⟩ dL_law_1004 (fun t_1004 σ H locs hS h => ?_)
        refine lv_pop hx hb dL_law_1007 rfl ?_
        refine lv_aload_n hx hb dL_law_1008 rfl (lv_at hl 2 rfl) ?_
        refine lv_aload_n hx hb dL_law_1009 rfl (lv_at hl 0 rfl) ?_
        refine lv_iload_n hx hb dL_law_1010 rfl (lv_at hl 3 rfl) ?_
        refine lv_iconst (v := 1) hx hb dL_law_1011 (by decide) ?_
        refine lv_iadd hx hb dL_law_1012 ?_
        refine ez_top h (fun t_1012 h => ?_)
        refine ez_sld hC hX hbl hS h dL_law_1013 (fun t_1013 h => ?_)
        refine ez_cVpi (As := [.int t_1013]) (rest := []) h (fun _ q => c_X12_rank q) hC k_X12_rank ql_RL_118 rfl (by decide) hS (fun _ q => ez_rcv q) rfl hl.1 rfl (Nat.le_of_ble_eq_true rfl) ⟨Nat.le_trans (by decide) hR.1, Nat.le_trans (by decide) hR.2⟩ dL_law_1014 (fun t_1014 H locs hS h => ?_)
        refine lv_pop hx hb dL_law_1017 rfl ?_
        refine lv_goto (tgt := 1998) hx hb dL_law_1018 (by decide) ?_
        exact K_1998 k_18 hk_18 σ h1 h2 x3 _ _ _ hS h (lv_sub hl [0, 1, 2, 3] rfl)
      replace h := ez_ifn h s_33_24
      by_cases s_33_25 : t_32 = 25
      · replace h := ez_ifp h s_33_25
        refine lv_tableIn (tgt := 1021) hx hb dL_law_33 (by rw [s_33_25]; decide) (by rw [s_33_25]; decide) (by first | (rw [s_33_25]; done) | (rw [s_33_25]; rfl)) (by decide) ?_
        refine lv_aload_n hx hb dL_law_1021 rfl (lv_at hl 1 rfl) ?_
        refine lv_aload_n hx hb dL_law_1022 rfl (lv_at hl 0 rfl) ?_
        refine lv_iload_n hx hb dL_law_1023 rfl (lv_at hl 3 rfl) ?_
        refine lv_iconst (v := 1) hx hb dL_law_1024 (by decide) ?_
        refine lv_iadd hx hb dL_law_1025 ?_
        refine ez_top h (fun t_1025 h => ?_)
        refine ez_sld hC hX hbl hS h dL_law_1026 (fun t_1026 h => ?_)
        refine ez_cVi (As := [.int t_1026]) (rest := []) h (fun _ q => c_X11_ghosts q) hC k_X11_ghosts ql_RL_119 rfl (by decide) hS (fun _ q => ez_rcv q) rfl hl.1 rfl (Nat.le_of_ble_eq_true rfl) ⟨Nat.le_trans (by decide) hR.1, Nat.le_trans (by decide) hR.2⟩ dL_law_1027 (fun t_1027 σ H locs hS h => ?_)
        refine lv_pop hx hb dL_law_1030 rfl ?_
        refine lv_aload_n hx hb dL_law_1031 rfl (lv_at hl 2 rfl) ?_
        refine lv_aload_n hx hb dL_law_1032 rfl (lv_at hl 0 rfl) ?_
        refine lv_iload_n hx hb dL_law_1033 rfl (lv_at hl 3 rfl) ?_
        refine lv_iconst (v := 1) hx hb dL_law_1034 (by decide) ?_
        refine lv_iadd hx hb dL_law_1035 ?_
        refine ez_top h (fun t_1035 h => ?_)
        refine ez_sld hC hX hbl hS h dL_law_1036 (fun t_1036 h => ?_)
        refine ez_cVpi (As := [.int t_1036]) (rest := []) h (fun _ q => c_X12_ghosts q) hC k_X12_ghosts ql_RL_122 rfl (by decide) hS (fun _ q => ez_rcv q) rfl hl.1 rfl (Nat.le_of_ble_eq_true rfl) ⟨Nat.le_trans (by decide) hR.1, Nat.le_trans (by decide) hR.2⟩ dL_law_1037 (fun t_1037 H locs hS h => ?_)
        refine lv_pop hx hb dL_law_1040 rfl ?_
        refine lv_goto (tgt := 1998) hx hb dL_law_1041 (by decide) ?_
        exact K_1998 k_18 hk_18 σ h1 h2 x3 _ _ _ hS h (lv_sub hl [0, 1, 2, 3] rfl)
      replace h := ez_ifn h s_33_25
      by_cases s_33_26 : t_32 = 26
      · replace h := ez_ifp h s_33_26
        refine lv_tableIn (tgt := 1044) hx hb dL_law_33 (by rw [s_33_26]; decide) (by rw [s_33_26]; decide) (by first | (rw [s_33_26]; done) | (rw [s_33_26]; rfl)) (by decide) ?_
        refine lv_aload_n hx hb dL_law_1044 rfl (lv_at hl 1 rfl) ?_
        refine lv_aload_n hx hb dL_law_1045 rfl (lv_at hl 0 rfl) ?_
        refine lv_iload_n hx hb dL_law_1046 rfl (lv_at hl 3 rfl) ?_
        refine lv_iconst (v := 1) hx hb dL_law_1047 (by decide) ?_
        refine lv_iadd hx hb dL_law_1048 ?_
        refine ez_top h (fun t_1048 h => ?_)
        refine ez_sld hC hX hbl hS h dL_law_1049 (fun t_1049 h => ?_)
        refine lv_aload_n hx hb dL_law_1050 rfl (lv_at hl 0 rfl) ?_
        refine lv_iload_n hx hb dL_law_1051 rfl (lv_at hl 3 rfl) ?_
        refine lv_iconst (v := 2) hx hb dL_law_1052 (by decide) ?_
        refine lv_iadd hx hb dL_law_1053 ?_
        refine ez_top h (fun t_1053 h => ?_)
        refine ez_sld hC hX hbl hS h dL_law_1054 (fun t_1054 h => ?_)
        refine ez_cVi (As := [.int t_1049, .int t_1054]) (rest := []) h (fun _ q => c_X11_ghost q) hC k_X11_ghost ql_RL_123 rfl (by decide) hS (fun _ q => ez_rcv q) rfl hl.1 rfl (Nat.le_of_ble_eq_true rfl) ⟨Nat.le_trans (by decide) hR.1, Nat.le_trans (by decide) hR.2⟩ dL_law_1055 (fun t_1055 σ H locs hS h => ?_)
        refine lv_pop hx hb dL_law_1058 rfl ?_
        refine lv_aload_n hx hb dL_law_1059 rfl (lv_at hl 2 rfl) ?_
        refine lv_aload_n hx hb dL_law_1060 rfl (lv_at hl 0 rfl) ?_
        refine lv_iload_n hx hb dL_law_1061 rfl (lv_at hl 3 rfl) ?_
        refine lv_iconst (v := 1) hx hb dL_law_1062 (by decide) ?_
        refine lv_iadd hx hb dL_law_1063 ?_
        refine ez_top h (fun t_1063 h => ?_)
        refine ez_sld hC hX hbl hS h dL_law_1064 (fun t_1064 h => ?_)
        refine lv_aload_n hx hb dL_law_1065 rfl (lv_at hl 0 rfl) ?_
        refine lv_iload_n hx hb dL_law_1066 rfl (lv_at hl 3 rfl) ?_
        refine lv_iconst (v := 2) hx hb dL_law_1067 (by decide) ?_
        refine lv_iadd hx hb dL_law_1068 ?_
        refine ez_top h (fun t_1068 h => ?_)
        refine ez_sld hC hX hbl hS h dL_law_1069 (fun t_1069 h => ?_)
        refine ez_cVpi (As := [.int t_1064, .int t_1069]) (rest := []) h (fun _ q => c_X12_ghost q) hC k_X12_ghost ql_RL_126 rfl (by decide) hS (fun _ q => ez_rcv q) rfl hl.1 rfl (Nat.le_of_ble_eq_true rfl) ⟨Nat.le_trans (by decide) hR.1, Nat.le_trans (by decide) hR.2⟩ dL_law_1070 (fun t_1070 H locs hS h => ?_)
        refine lv_pop hx hb dL_law_1073 rfl ?_
        refine lv_goto (tgt := 1998) hx hb dL_law_1074 (by decide) ?_
        exact K_1998 k_18 hk_18 σ h1 h2 x3 _ _ _ hS h (lv_sub hl [0, 1, 2, 3] rfl)
      replace h := ez_ifn h s_33_26
      by_cases s_33_27 : t_32 = 27
      · replace h := ez_ifp h s_33_27
        refine lv_tableIn (tgt := 1077) hx hb dL_law_33 (by rw [s_33_27]; decide) (by rw [s_33_27]; decide) (by first | (rw [s_33_27]; done) | (rw [s_33_27]; rfl)) (by decide) ?_
        refine lv_aload_n hx hb dL_law_1077 rfl (lv_at hl 1 rfl) ?_
        refine lv_aload_n hx hb dL_law_1078 rfl (lv_at hl 0 rfl) ?_
        refine lv_iload_n hx hb dL_law_1079 rfl (lv_at hl 3 rfl) ?_
        refine lv_iconst (v := 1) hx hb dL_law_1080 (by decide) ?_
        refine lv_iadd hx hb dL_law_1081 ?_
        refine ez_top h (fun t_1081 h => ?_)
        refine ez_sld hC hX hbl hS h dL_law_1082 (fun t_1082 h => ?_)
        refine lv_aload_n hx hb dL_law_1083 rfl (lv_at hl 0 rfl) ?_
        refine lv_iload_n hx hb dL_law_1084 rfl (lv_at hl 3 rfl) ?_
        refine lv_iconst (v := 2) hx hb dL_law_1085 (by decide) ?_
        refine lv_iadd hx hb dL_law_1086 ?_
        refine ez_top h (fun t_1086 h => ?_)
        refine ez_sld hC hX hbl hS h dL_law_1087 (fun t_1087 h => ?_)
        refine ez_cVi (As := [.int t_1082, .int t_1087]) (rest := []) h (fun _ q => c_X11_common q) hC k_X11_common ql_RL_127 rfl (by decide) hS (fun _ q => ez_rcv q) rfl hl.1 rfl (Nat.le_of_ble_eq_true rfl) ⟨Nat.le_trans (by decide) hR.1, Nat.le_trans (by decide) hR.2⟩ dL_law_1088 (fun t_1088 σ H locs hS h => ?_)
        refine lv_pop hx hb dL_law_1091 rfl ?_
        refine lv_aload_n hx hb dL_law_1092 rfl (lv_at hl 2 rfl) ?_
        refine lv_aload_n hx hb dL_law_1093 rfl (lv_at hl 0 rfl) ?_
        refine lv_iload_n hx hb dL_law_1094 rfl (lv_at hl 3 rfl) ?_
        refine lv_iconst (v := 1) hx hb dL_law_1095 (by decide) ?_
        refine lv_iadd hx hb dL_law_1096 ?_
        refine ez_top h (fun t_1096 h => ?_)
        refine ez_sld hC hX hbl hS h dL_law_1097 (fun t_1097 h => ?_)
        refine lv_aload_n hx hb dL_law_1098 rfl (lv_at hl 0 rfl) ?_
        refine lv_iload_n hx hb dL_law_1099 rfl (lv_at hl 3 rfl) ?_
        refine lv_iconst (v := 2) hx hb dL_law_1100 (by decide) ?_
        refine lv_iadd hx hb dL_law_1101 ?_
        refine ez_top h (fun t_1101 h => ?_)
        refine ez_sld hC hX hbl hS h dL_law_1102 (fun t_1102 h => ?_)
        refine ez_cVpi (As := [.int t_1097, .int t_1102]) (rest := []) h (fun _ q => c_X12_common q) hC k_X12_common ql_RL_130 rfl (by decide) hS (fun _ q => ez_rcv q) rfl hl.1 rfl (Nat.le_of_ble_eq_true rfl) ⟨Nat.le_trans (by decide) hR.1, Nat.le_trans (by decide) hR.2⟩ dL_law_1103 (fun t_1103 H locs hS h => ?_)
        refine lv_pop hx hb dL_law_1106 rfl ?_
        refine lv_goto (tgt := 1998) hx hb dL_law_1107 (by decide) ?_
        exact K_1998 k_18 hk_18 σ h1 h2 x3 _ _ _ hS h (lv_sub hl [0, 1, 2, 3] rfl)
      replace h := ez_ifn h s_33_27
      by_cases s_33_28 : t_32 = 28
      · replace h := ez_ifp h s_33_28
        refine lv_tableIn (tgt := 1110) hx hb dL_law_33 (by rw [s_33_28]; decide) (by rw [s_33_28]; decide) (by first | (rw [s_33_28]; done) | (rw [s_33_28]; rfl)) (by decide) ?_
        refine lv_aload_n hx hb dL_law_1110 rfl (lv_at hl 1 rfl) ?_
        refine lv_aload_n hx hb dL_law_1111 rfl (lv_at hl 0 rfl) ?_
        refine lv_iload_n hx hb dL_law_1112 rfl (lv_at hl 3 rfl) ?_
        refine lv_iconst (v := 1) hx hb dL_law_1113 (by decide) ?_
        refine lv_iadd hx hb dL_law_1114 ?_
        refine ez_top h (fun t_1114 h => ?_)
        refine ez_sld hC hX hbl hS h dL_law_1115 (fun t_1115 h => ?_)
        refine ez_cVi (As := [.int t_1115]) (rest := []) h (fun _ q => c_X11_master q) hC k_X11_master ql_RL_131 rfl (by decide) hS (fun _ q => ez_rcv q) rfl hl.1 rfl (Nat.le_of_ble_eq_true rfl) ⟨Nat.le_trans (by decide) hR.1, Nat.le_trans (by decide) hR.2⟩ dL_law_1116 (fun t_1116 σ H locs hS h => ?_)
        refine lv_pop hx hb dL_law_1119 rfl ?_
        refine lv_aload_n hx hb dL_law_1120 rfl (lv_at hl 2 rfl) ?_
        refine lv_aload_n hx hb dL_law_1121 rfl (lv_at hl 0 rfl) ?_
        refine lv_iload_n hx hb dL_law_1122 rfl (lv_at hl 3 rfl) ?_
        refine lv_iconst (v := 1) hx hb dL_law_1123 (by decide) ?_
        refine lv_iadd hx hb dL_law_1124 ?_
        refine ez_top h (fun t_1124 h => ?_)
        refine ez_sld hC hX hbl hS h dL_law_1125 (fun t_1125 h => ?_)
        refine ez_cVpi (As := [.int t_1125]) (rest := []) h (fun _ q => c_X12_master q) hC k_X12_master ql_RL_134 rfl (by decide) hS (fun _ q => ez_rcv q) rfl hl.1 rfl (Nat.le_of_ble_eq_true rfl) ⟨Nat.le_trans (by decide) hR.1, Nat.le_trans (by decide) hR.2⟩ dL_law_1126 (fun t_1126 H locs hS h => ?_)
        refine lv_pop hx hb dL_law_1129 rfl ?_
        refine lv_goto (tgt := 1998) hx hb dL_law_1130 (by decide) ?_
        exact K_1998 k_18 hk_18 σ h1 h2 x3 _ _ _ hS h (lv_sub hl [0, 1, 2, 3] rfl)
      replace h := ez_ifn h s_33_28
      by_cases s_33_29 : t_32 = 29
      · replace h := ez_ifp h s_33_29
        refine lv_tableIn (tgt := 1133) hx hb dL_law_33 (by rw [s_33_29]; decide) (by rw [s_33_29]; decide) (by first | (rw [s_33_29]; done) | (rw [s_33_29]; rfl)) (by decide) ?_
        refine lv_aload_n hx hb dL_law_1133 rfl (lv_at hl 1 rfl) ?_
        refine lv_aload_n hx hb dL_law_1134 rfl (lv_at hl 0 rfl) ?_
        refine lv_iload_n hx hb dL_law_1135 rfl (lv_at hl 3 rfl) ?_
        refine lv_iconst (v := 1) hx hb dL_law_1136 (by decide) ?_
        refine lv_iadd hx hb dL_law_1137 ?_
        refine ez_top h (fun t_1137 h => ?_)
        refine ez_sld hC hX hbl hS h dL_law_1138 (fun t_1138 h => ?_)
        refine lv_aload_n hx hb dL_law_1139 rfl (lv_at hl 0 rfl) ?_
        refine lv_iload_n hx hb dL_law_1140 rfl (lv_at hl 3 rfl) ?_
        refine lv_iconst (v := 2) hx hb dL_law_1141 (by decide) ?_
        refine lv_iadd hx hb dL_law_1142 ?_
        refine ez_top h (fun t_1142 h => ?_)
        refine ez_sld hC hX hbl hS h dL_law_1143 (fun t_1143 h => ?_)
        refine ez_cVi (As := [.int t_1138, .int t_1143]) (rest := []) h (fun _ q => c_X11_cutFor q) hC k_X11_cutFor ql_RL_135 rfl (by decide) hS (fun _ q => ez_rcv q) rfl hl.1 rfl (Nat.le_of_ble_eq_true rfl) ⟨Nat.le_trans (by decide) hR.1, Nat.le_trans (by decide) hR.2⟩ dL_law_1144 (fun t_1144 σ H locs hS h => ?_)
        refine lv_pop hx hb dL_law_1147 rfl ?_
        refine lv_aload_n hx hb dL_law_1148 rfl (lv_at hl 2 rfl) ?_
        refine lv_aload_n hx hb dL_law_1149 rfl (lv_at hl 0 rfl) ?_
        refine lv_iload_n hx hb dL_law_1150 rfl (lv_at hl 3 rfl) ?_
        refine lv_iconst (v := 1) hx hb dL_law_1151 (by decide) ?_
        refine lv_iadd hx hb dL_law_1152 ?_
        refine ez_top h (fun t_1152 h => ?_)
        refine ez_sld hC hX hbl hS h dL_law_1153 (fun t_1153 h => ?_)
        refine lv_aload_n hx hb dL_law_1154 rfl (lv_at hl 0 rfl) ?_
        refine lv_iload_n hx hb dL_law_1155 rfl (lv_at hl 3 rfl) ?_
        refine lv_iconst (v := 2) hx hb dL_law_1156 (by decide) ?_
        refine lv_iadd hx hb dL_law_1157 ?_
        refine ez_top h (fun t_1157 h => ?_)
        refine ez_sld hC hX hbl hS h dL_law_1158 (fun t_1158 h => ?_)
        refine ez_cVpi (As := [.int t_1153, .int t_1158]) (rest := []) h (fun _ q => c_X12_cutFor q) hC k_X12_cutFor ql_RL_138 rfl (by decide) hS (fun _ q => ez_rcv q) rfl hl.1 rfl (Nat.le_of_ble_eq_true rfl) ⟨Nat.le_trans (by decide) hR.1, Nat.le_trans (by decide) hR.2⟩ dL_law_1159 (fun t_1159 H locs hS h => ?_)
        refine lv_pop hx hb dL_law_1162 rfl ?_
        refine lv_goto (tgt := 1998) hx hb dL_law_1163 (by decide) ?_
        exact K_1998 k_18 hk_18 σ h1 h2 x3 _ _ _ hS h (lv_sub hl [0, 1, 2, 3] rfl)
      replace h := ez_ifn h s_33_29
      by_cases s_33_30 : t_32 = 30
      · replace h := ez_ifp h s_33_30
        refine lv_tableIn (tgt := 1166) hx hb dL_law_33 (by rw [s_33_30]; decide) (by rw [s_33_30]; decide) (by first | (rw [s_33_30]; done) | (rw [s_33_30]; rfl)) (by decide) ?_
        refine lv_aload_n hx hb dL_law_1166 rfl (lv_at hl 1 rfl) ?_
        refine lv_aload_n hx hb dL_law_1167 rfl (lv_at hl 0 rfl) ?_
        refine lv_iload_n hx hb dL_law_1168 rfl (lv_at hl 3 rfl) ?_
        refine lv_iconst (v := 1) hx hb dL_law_1169 (by decide) ?_
        refine lv_iadd hx hb dL_law_1170 ?_
        refine ez_top h (fun t_1170 h => ?_)
        refine ez_sld hC hX hbl hS h dL_law_1171 (fun t_1171 h => ?_)
        refine lv_aload_n hx hb dL_law_1172 rfl (lv_at hl 0 rfl) ?_
        refine lv_iload_n hx hb dL_law_1173 rfl (lv_at hl 3 rfl) ?_
        refine lv_iconst (v := 2) hx hb dL_law_1174 (by decide) ?_
        refine lv_iadd hx hb dL_law_1175 ?_
        refine ez_top h (fun t_1175 h => ?_)
        refine ez_sld hC hX hbl hS h dL_law_1176 (fun t_1176 h => ?_)
        refine lv_aload_n hx hb dL_law_1177 rfl (lv_at hl 0 rfl) ?_
        refine lv_iload_n hx hb dL_law_1178 rfl (lv_at hl 3 rfl) ?_
        refine lv_iconst (v := 3) hx hb dL_law_1179 (by decide) ?_
        refine lv_iadd hx hb dL_law_1180 ?_
        refine ez_top h (fun t_1180 h => ?_)
        refine ez_sld hC hX hbl hS h dL_law_1181 (fun t_1181 h => ?_)
        refine ez_cVi (As := [.int t_1171, .int t_1176, .int t_1181]) (rest := []) h (fun _ q => c_X11_filing q) hC k_X11_filing ql_RL_139 rfl (by decide) hS (fun _ q => ez_rcv q) rfl hl.1 rfl (Nat.le_of_ble_eq_true rfl) ⟨Nat.le_trans (by decide) hR.1, Nat.le_trans (by decide) hR.2⟩ dL_law_1182 (fun t_1182 σ H locs hS h => ?_)
        refine lv_pop hx hb dL_law_1185 rfl ?_
        refine lv_aload_n hx hb dL_law_1186 rfl (lv_at hl 2 rfl) ?_
        refine lv_aload_n hx hb dL_law_1187 rfl (lv_at hl 0 rfl) ?_
        refine lv_iload_n hx hb dL_law_1188 rfl (lv_at hl 3 rfl) ?_
        refine lv_iconst (v := 1) hx hb dL_law_1189 (by decide) ?_
        refine lv_iadd hx hb dL_law_1190 ?_
        refine ez_top h (fun t_1190 h => ?_)
        refine ez_sld hC hX hbl hS h dL_law_1191 (fun t_1191 h => ?_)
        refine lv_aload_n hx hb dL_law_1192 rfl (lv_at hl 0 rfl) ?_
        refine lv_iload_n hx hb dL_law_1193 rfl (lv_at hl 3 rfl) ?_
        refine lv_iconst (v := 2) hx hb dL_law_1194 (by decide) ?_
        refine lv_iadd hx hb dL_law_1195 ?_
        refine ez_top h (fun t_1195 h => ?_)
        refine ez_sld hC hX hbl hS h dL_law_1196 (fun t_1196 h => ?_)
        refine lv_aload_n hx hb dL_law_1197 rfl (lv_at hl 0 rfl) ?_
        refine lv_iload_n hx hb dL_law_1198 rfl (lv_at hl 3 rfl) ?_
        refine lv_iconst (v := 3) hx hb dL_law_1199 (by decide) ?_
        refine lv_iadd hx hb dL_law_1200 ?_
        refine ez_top h (fun t_1200 h => ?_)
        refine ez_sld hC hX hbl hS h dL_law_1201 (fun t_1201 h => ?_)
        refine ez_cVpi (As := [.int t_1191, .int t_1196, .int t_1201]) (rest := []) h (fun _ q => c_X12_filing q) hC k_X12_filing ql_RL_142 rfl (by decide) hS (fun _ q => ez_rcv q) rfl hl.1 rfl (Nat.le_of_ble_eq_true rfl) ⟨Nat.le_trans (by decide) hR.1, Nat.le_trans (by decide) hR.2⟩ dL_law_1202 (fun t_1202 H locs hS h => ?_)
        refine lv_pop hx hb dL_law_1205 rfl ?_
        refine lv_goto (tgt := 1998) hx hb dL_law_1206 (by decide) ?_
        exact K_1998 k_18 hk_18 σ h1 h2 x3 _ _ _ hS h (lv_sub hl [0, 1, 2, 3] rfl)
      replace h := ez_ifn h s_33_30
      by_cases s_33_31 : t_32 = 31
      · replace h := ez_ifp h s_33_31
        refine lv_tableIn (tgt := 1209) hx hb dL_law_33 (by rw [s_33_31]; decide) (by rw [s_33_31]; decide) (by first | (rw [s_33_31]; done) | (rw [s_33_31]; rfl)) (by decide) ?_
        refine lv_aload_n hx hb dL_law_1209 rfl (lv_at hl 1 rfl) ?_
        refine lv_aload_n hx hb dL_law_1210 rfl (lv_at hl 0 rfl) ?_
        refine lv_iload_n hx hb dL_law_1211 rfl (lv_at hl 3 rfl) ?_
        refine lv_iconst (v := 1) hx hb dL_law_1212 (by decide) ?_
        refine lv_iadd hx hb dL_law_1213 ?_
        refine ez_top h (fun t_1213 h => ?_)
        refine ez_sld hC hX hbl hS h dL_law_1214 (fun t_1214 h => ?_)
        refine ez_cVpi (As := [.int t_1214]) (rest := []) h (fun _ q => c_X11_broken q) hC k_X11_broken ql_RL_143 rfl (by decide) hS (fun _ q => ez_rcv q) rfl hl.1 rfl (Nat.le_of_ble_eq_true rfl) ⟨Nat.le_trans (by decide) hR.1, Nat.le_trans (by decide) hR.2⟩ dL_law_1215 (fun t_1215 H locs hS h => ?_)
        refine lv_pop hx hb dL_law_1218 rfl ?_
        refine lv_aload_n hx hb dL_law_1219 rfl (lv_at hl 2 rfl) ?_
        refine lv_aload_n hx hb dL_law_1220 rfl (lv_at hl 0 rfl) ?_
        refine lv_iload_n hx hb dL_law_1221 rfl (lv_at hl 3 rfl) ?_
        refine lv_iconst (v := 1) hx hb dL_law_1222 (by decide) ?_
        refine lv_iadd hx hb dL_law_1223 ?_
        refine ez_top h (fun t_1223 h => ?_)
        refine ez_sld hC hX hbl hS h dL_law_1224 (fun t_1224 h => ?_)
        refine ez_cVpi (As := [.int t_1224]) (rest := []) h (fun _ q => c_X12_broken q) hC k_X12_broken ql_RL_146 rfl (by decide) hS (fun _ q => ez_rcv q) rfl hl.1 rfl (Nat.le_of_ble_eq_true rfl) ⟨Nat.le_trans (by decide) hR.1, Nat.le_trans (by decide) hR.2⟩ dL_law_1225 (fun t_1225 H locs hS h => ?_)
        refine lv_pop hx hb dL_law_1228 rfl ?_
        refine lv_goto (tgt := 1998) hx hb dL_law_1229 (by decide) ?_
        exact K_1998 k_18 hk_18 σ h1 h2 x3 _ _ _ hS h (lv_sub hl [0, 1, 2, 3] rfl)
      replace h := ez_ifn h s_33_31
      by_cases s_33_32 : t_32 = 32
      · replace h := ez_ifp h s_33_32
        refine lv_tableIn (tgt := 1232) hx hb dL_law_33 (by rw [s_33_32]; decide) (by rw [s_33_32]; decide) (by first | (rw [s_33_32]; done) | (rw [s_33_32]; rfl)) (by decide) ?_
        refine lv_aload_n hx hb dL_law_1232 rfl (lv_at hl 1 rfl) ?_
        refine lv_aload_n hx hb dL_law_1233 rfl (lv_at hl 0 rfl) ?_
        refine lv_iload_n hx hb dL_law_1234 rfl (lv_at hl 3 rfl) ?_
        refine lv_iconst (v := 1) hx hb dL_law_1235 (by decide) ?_
        refine lv_iadd hx hb dL_law_1236 ?_
        refine ez_top h (fun t_1236 h => ?_)
        refine ez_sld hC hX hbl hS h dL_law_1237 (fun t_1237 h => ?_)
        refine ez_cVpi (As := [.int t_1237]) (rest := []) h (fun _ q => c_X11_strays q) hC k_X11_strays ql_RL_147 rfl (by decide) hS (fun _ q => ez_rcv q) rfl hl.1 rfl (Nat.le_of_ble_eq_true rfl) ⟨Nat.le_trans (by decide) hR.1, Nat.le_trans (by decide) hR.2⟩ dL_law_1238 (fun t_1238 H locs hS h => ?_)
        refine lv_pop hx hb dL_law_1241 rfl ?_
        refine lv_aload_n hx hb dL_law_1242 rfl (lv_at hl 2 rfl) ?_
        refine lv_aload_n hx hb dL_law_1243 rfl (lv_at hl 0 rfl) ?_
        refine lv_iload_n hx hb dL_law_1244 rfl (lv_at hl 3 rfl) ?_
        refine lv_iconst (v := 1) hx hb dL_law_1245 (by decide) ?_
        refine lv_iadd hx hb dL_law_1246 ?_
        refine ez_top h (fun t_1246 h => ?_)
        refine ez_sld hC hX hbl hS h dL_law_1247 (fun t_1247 h => ?_)
        refine ez_cVi (As := [.int t_1247]) (rest := []) h (fun _ q => c_X12_strays q) hC k_X12_strays ql_RL_150 rfl (by decide) hS (fun _ q => ez_rcv q) rfl hl.1 rfl (Nat.le_of_ble_eq_true rfl) ⟨Nat.le_trans (by decide) hR.1, Nat.le_trans (by decide) hR.2⟩ dL_law_1248 (fun t_1248 σ H locs hS h => ?_)
        refine lv_pop hx hb dL_law_1251 rfl ?_
        refine lv_goto (tgt := 1998) hx hb dL_law_1252 (by decide) ?_
        exact K_1998 k_18 hk_18 σ h1 h2 x3 _ _ _ hS h (lv_sub hl [0, 1, 2, 3] rfl)
      replace h := ez_ifn h s_33_32
      by_cases s_33_33 : t_32 = 33
      · replace h := ez_ifp h s_33_33
        refine lv_tableIn (tgt := 1255) hx hb dL_law_33 (by rw [s_33_33]; decide) (by rw [s_33_33]; decide) (by first | (rw [s_33_33]; done) | (rw [s_33_33]; rfl)) (by decide) ?_
        refine lv_aload_n hx hb dL_law_1255 rfl (lv_at hl 1 rfl) ?_
        refine lv_aload_n hx hb dL_law_1256 rfl (lv_at hl 0 rfl) ?_
        refine lv_iload_n hx hb dL_law_1257 rfl (lv_at hl 3 rfl) ?_
        refine lv_iconst (v := 1) hx hb dL_law_1258 (by decide) ?_
        refine lv_iadd hx hb dL_law_1259 ?_
        refine ez_top h (fun t_1259 h => ?_)
        refine ez_sld hC hX hbl hS h dL_law_1260 (fun t_1260 h => ?_)
        refine ez_cVi (As := [.int t_1260]) (rest := []) h (fun _ q => c_X11_keeps q) hC k_X11_keeps ql_RL_151 rfl (by decide) hS (fun _ q => ez_rcv q) rfl hl.1 rfl (Nat.le_of_ble_eq_true rfl) ⟨Nat.le_trans (by decide) hR.1, Nat.le_trans (by decide) hR.2⟩ dL_law_1261 (fun t_1261 σ H locs hS h => ?_)
        refine lv_pop hx hb dL_law_1264 rfl ?_
        refine lv_aload_n hx hb dL_law_1265 rfl (lv_at hl 2 rfl) ?_
        refine lv_aload_n hx hb dL_law_1266 rfl (lv_at hl 0 rfl) ?_
        refine lv_iload_n hx hb dL_law_1267 rfl (lv_at hl 3 rfl) ?_
        refine lv_iconst (v := 1) hx hb dL_law_1268 (by decide) ?_
        refine lv_iadd hx hb dL_law_1269 ?_
        refine ez_top h (fun t_1269 h => ?_)
        refine ez_sld hC hX hbl hS h dL_law_1270 (fun t_1270 h => ?_)
        refine ez_cVi (As := [.int t_1270]) (rest := []) h (fun _ q => c_X12_keeps q) hC k_X12_keeps ql_RL_154 rfl (by decide) hS (fun _ q => ez_rcv q) rfl hl.1 rfl (Nat.le_of_ble_eq_true rfl) ⟨Nat.le_trans (by decide) hR.1, Nat.le_trans (by decide) hR.2⟩ dL_law_1271 (fun t_1271 σ H locs hS h => ?_)
        refine lv_pop hx hb dL_law_1274 rfl ?_
        refine lv_goto (tgt := 1998) hx hb dL_law_1275 (by decide) ?_
        exact K_1998 k_18 hk_18 σ h1 h2 x3 _ _ _ hS h (lv_sub hl [0, 1, 2, 3] rfl)
      replace h := ez_ifn h s_33_33
      by_cases s_33_34 : t_32 = 34
      · replace h := ez_ifp h s_33_34
        refine lv_tableIn (tgt := 1278) hx hb dL_law_33 (by rw [s_33_34]; decide) (by rw [s_33_34]; decide) (by first | (rw [s_33_34]; done) | (rw [s_33_34]; rfl)) (by decide) ?_
        refine lv_aload_n hx hb dL_law_1278 rfl (lv_at hl 1 rfl) ?_
        refine lv_aload_n hx hb dL_law_1279 rfl (lv_at hl 0 rfl) ?_
        refine lv_iload_n hx hb dL_law_1280 rfl (lv_at hl 3 rfl) ?_
        refine lv_iconst (v := 1) hx hb dL_law_1281 (by decide) ?_
        refine lv_iadd hx hb dL_law_1282 ?_
        refine ez_top h (fun t_1282 h => ?_)
        refine ez_sld hC hX hbl hS h dL_law_1283 (fun t_1283 h => ?_)
        refine ez_cVpi (As := [.int t_1283]) (rest := []) h (fun _ q => c_X11_leftOver q) hC k_X11_leftOver ql_RL_155 rfl (by decide) hS (fun _ q => ez_rcv q) rfl hl.1 rfl (Nat.le_of_ble_eq_true rfl) ⟨Nat.le_trans (by decide) hR.1, Nat.le_trans (by decide) hR.2⟩ dL_law_1284 (fun t_1284 H locs hS h => ?_)
        refine lv_pop hx hb dL_law_1287 rfl ?_
        refine lv_aload_n hx hb dL_law_1288 rfl (lv_at hl 2 rfl) ?_
        refine lv_aload_n hx hb dL_law_1289 rfl (lv_at hl 0 rfl) ?_
        refine lv_iload_n hx hb dL_law_1290 rfl (lv_at hl 3 rfl) ?_
        refine lv_iconst (v := 1) hx hb dL_law_1291 (by decide) ?_
        refine lv_iadd hx hb dL_law_1292 ?_
        refine ez_top h (fun t_1292 h => ?_)
        refine ez_sld hC hX hbl hS h dL_law_1293 (fun t_1293 h => ?_)
        refine ez_cVi (As := [.int t_1293]) (rest := []) h (fun _ q => c_X12_leftOver q) hC k_X12_leftOver ql_RL_158 rfl (by decide) hS (fun _ q => ez_rcv q) rfl hl.1 rfl (Nat.le_of_ble_eq_true rfl) ⟨Nat.le_trans (by decide) hR.1, Nat.le_trans (by decide) hR.2⟩ dL_law_1294 (fun t_1294 σ H locs hS h => ?_)
        refine lv_pop hx hb dL_law_1297 rfl ?_
        refine lv_goto (tgt := 1998) hx hb dL_law_1298 (by decide) ?_
        exact K_1998 k_18 hk_18 σ h1 h2 x3 _ _ _ hS h (lv_sub hl [0, 1, 2, 3] rfl)
      replace h := ez_ifn h s_33_34
      by_cases s_33_35 : t_32 = 35
      · replace h := ez_ifp h s_33_35
        refine lv_tableIn (tgt := 1301) hx hb dL_law_33 (by rw [s_33_35]; decide) (by rw [s_33_35]; decide) (by first | (rw [s_33_35]; done) | (rw [s_33_35]; rfl)) (by decide) ?_
        refine lv_aload_n hx hb dL_law_1301 rfl (lv_at hl 1 rfl) ?_
        refine lv_aload_n hx hb dL_law_1302 rfl (lv_at hl 0 rfl) ?_
        refine lv_iload_n hx hb dL_law_1303 rfl (lv_at hl 3 rfl) ?_
        refine lv_iconst (v := 1) hx hb dL_law_1304 (by decide) ?_
        refine lv_iadd hx hb dL_law_1305 ?_
        refine ez_top h (fun t_1305 h => ?_)
        refine ez_sld hC hX hbl hS h dL_law_1306 (fun t_1306 h => ?_)
        refine lv_aload_n hx hb dL_law_1307 rfl (lv_at hl 0 rfl) ?_
        refine lv_iload_n hx hb dL_law_1308 rfl (lv_at hl 3 rfl) ?_
        refine lv_iconst (v := 2) hx hb dL_law_1309 (by decide) ?_
        refine lv_iadd hx hb dL_law_1310 ?_
        refine ez_top h (fun t_1310 h => ?_)
        refine ez_sld hC hX hbl hS h dL_law_1311 (fun t_1311 h => ?_)
        refine ez_cVi (As := [.int t_1306, .int t_1311]) (rest := []) h (fun _ q => c_X11_route q) hC k_X11_route ql_RL_159 rfl (by decide) hS (fun _ q => ez_rcv q) rfl hl.1 rfl (Nat.le_of_ble_eq_true rfl) ⟨Nat.le_trans (by decide) hR.1, Nat.le_trans (by decide) hR.2⟩ dL_law_1312 (fun t_1312 σ H locs hS h => ?_)
        refine lv_pop hx hb dL_law_1315 rfl ?_
        refine lv_aload_n hx hb dL_law_1316 rfl (lv_at hl 2 rfl) ?_
        refine lv_aload_n hx hb dL_law_1317 rfl (lv_at hl 0 rfl) ?_
        refine lv_iload_n hx hb dL_law_1318 rfl (lv_at hl 3 rfl) ?_
        refine lv_iconst (v := 1) hx hb dL_law_1319 (by decide) ?_
        refine lv_iadd hx hb dL_law_1320 ?_
        refine ez_top h (fun t_1320 h => ?_)
        refine ez_sld hC hX hbl hS h dL_law_1321 (fun t_1321 h => ?_)
        refine lv_aload_n hx hb dL_law_1322 rfl (lv_at hl 0 rfl) ?_
        refine lv_iload_n hx hb dL_law_1323 rfl (lv_at hl 3 rfl) ?_
        refine lv_iconst (v := 2) hx hb dL_law_1324 (by decide) ?_
        refine lv_iadd hx hb dL_law_1325 ?_
        refine ez_top h (fun t_1325 h => ?_)
        refine ez_sld hC hX hbl hS h dL_law_1326 (fun t_1326 h => ?_)
        refine ez_cVi (As := [.int t_1321, .int t_1326]) (rest := []) h (fun _ q => c_X12_route q) hC k_X12_route ql_RL_162 rfl (by decide) hS (fun _ q => ez_rcv q) rfl hl.1 rfl (Nat.le_of_ble_eq_true rfl) ⟨Nat.le_trans (by decide) hR.1, Nat.le_trans (by decide) hR.2⟩ dL_law_1327 (fun t_1327 σ H locs hS h => ?_)
        refine lv_pop hx hb dL_law_1330 rfl ?_
        refine lv_goto (tgt := 1998) hx hb dL_law_1331 (by decide) ?_
        exact K_1998 k_18 hk_18 σ h1 h2 x3 _ _ _ hS h (lv_sub hl [0, 1, 2, 3] rfl)
      replace h := ez_ifn h s_33_35
      by_cases s_33_36 : t_32 = 36
      · replace h := ez_ifp h s_33_36
        refine lv_tableIn (tgt := 1334) hx hb dL_law_33 (by rw [s_33_36]; decide) (by rw [s_33_36]; decide) (by first | (rw [s_33_36]; done) | (rw [s_33_36]; rfl)) (by decide) ?_
        refine lv_aload_n hx hb dL_law_1334 rfl (lv_at hl 1 rfl) ?_
        refine lv_aload_n hx hb dL_law_1335 rfl (lv_at hl 0 rfl) ?_
        refine lv_iload_n hx hb dL_law_1336 rfl (lv_at hl 3 rfl) ?_
        refine lv_iconst (v := 1) hx hb dL_law_1337 (by decide) ?_
        refine lv_iadd hx hb dL_law_1338 ?_
        refine ez_top h (fun t_1338 h => ?_)
        refine ez_sld hC hX hbl hS h dL_law_1339 (fun t_1339 h => ?_)
        refine lv_aload_n hx hb dL_law_1340 rfl (lv_at hl 0 rfl) ?_
        refine lv_iload_n hx hb dL_law_1341 rfl (lv_at hl 3 rfl) ?_
        refine lv_iconst (v := 2) hx hb dL_law_1342 (by decide) ?_
        refine lv_iadd hx hb dL_law_1343 ?_
        refine ez_top h (fun t_1343 h => ?_)
        refine ez_sld hC hX hbl hS h dL_law_1344 (fun t_1344 h => ?_)
        refine lv_aload_n hx hb dL_law_1345 rfl (lv_at hl 0 rfl) ?_
        refine lv_iload_n hx hb dL_law_1346 rfl (lv_at hl 3 rfl) ?_
        refine lv_iconst (v := 3) hx hb dL_law_1347 (by decide) ?_
        refine lv_iadd hx hb dL_law_1348 ?_
        refine ez_top h (fun t_1348 h => ?_)
        refine ez_sld hC hX hbl hS h dL_law_1349 (fun t_1349 h => ?_)
        refine ez_cVpi (As := [.int t_1339, .int t_1344, .int t_1349]) (rest := []) h (fun _ q => c_X11_bunch q) hC k_X11_bunch ql_RL_163 rfl (by decide) hS (fun _ q => ez_rcv q) rfl hl.1 rfl (Nat.le_of_ble_eq_true rfl) ⟨Nat.le_trans (by decide) hR.1, Nat.le_trans (by decide) hR.2⟩ dL_law_1350 (fun t_1350 H locs hS h => ?_)
        refine lv_pop hx hb dL_law_1353 rfl ?_
        refine lv_aload_n hx hb dL_law_1354 rfl (lv_at hl 2 rfl) ?_
        refine lv_aload_n hx hb dL_law_1355 rfl (lv_at hl 0 rfl) ?_
        refine lv_iload_n hx hb dL_law_1356 rfl (lv_at hl 3 rfl) ?_
        refine lv_iconst (v := 1) hx hb dL_law_1357 (by decide) ?_
        refine lv_iadd hx hb dL_law_1358 ?_
        refine ez_top h (fun t_1358 h => ?_)
        refine ez_sld hC hX hbl hS h dL_law_1359 (fun t_1359 h => ?_)
        refine lv_aload_n hx hb dL_law_1360 rfl (lv_at hl 0 rfl) ?_
        refine lv_iload_n hx hb dL_law_1361 rfl (lv_at hl 3 rfl) ?_
        refine lv_iconst (v := 2) hx hb dL_law_1362 (by decide) ?_
        refine lv_iadd hx hb dL_law_1363 ?_
        refine ez_top h (fun t_1363 h => ?_)
        refine ez_sld hC hX hbl hS h dL_law_1364 (fun t_1364 h => ?_)
        refine lv_aload_n hx hb dL_law_1365 rfl (lv_at hl 0 rfl) ?_
        refine lv_iload_n hx hb dL_law_1366 rfl (lv_at hl 3 rfl) ?_
        refine lv_iconst (v := 3) hx hb dL_law_1367 (by decide) ?_
        refine lv_iadd hx hb dL_law_1368 ?_
        refine ez_top h (fun t_1368 h => ?_)
        refine ez_sld hC hX hbl hS h dL_law_1369 (fun t_1369 h => ?_)
        refine ez_cVpi (As := [.int t_1359, .int t_1364, .int t_1369]) (rest := []) h (fun _ q => c_X12_bunch q) hC k_X12_bunch ql_RL_166 rfl (by decide) hS (fun _ q => ez_rcv q) rfl hl.1 rfl (Nat.le_of_ble_eq_true rfl) ⟨Nat.le_trans (by decide) hR.1, Nat.le_trans (by decide) hR.2⟩ dL_law_1370 (fun t_1370 H locs hS h => ?_)
        refine lv_pop hx hb dL_law_1373 rfl ?_
        refine lv_goto (tgt := 1998) hx hb dL_law_1374 (by decide) ?_
        exact K_1998 k_18 hk_18 σ h1 h2 x3 _ _ _ hS h (lv_sub hl [0, 1, 2, 3] rfl)
      replace h := ez_ifn h s_33_36
      by_cases s_33_37 : t_32 = 37
      · replace h := ez_ifp h s_33_37
        refine lv_tableIn (tgt := 1377) hx hb dL_law_33 (by rw [s_33_37]; decide) (by rw [s_33_37]; decide) (by first | (rw [s_33_37]; done) | (rw [s_33_37]; rfl)) (by decide) ?_
        refine lv_aload_n hx hb dL_law_1377 rfl (lv_at hl 1 rfl) ?_
        refine lv_aload_n hx hb dL_law_1378 rfl (lv_at hl 0 rfl) ?_
        refine lv_iload_n hx hb dL_law_1379 rfl (lv_at hl 3 rfl) ?_
        refine lv_iconst (v := 1) hx hb dL_law_1380 (by decide) ?_
        refine lv_iadd hx hb dL_law_1381 ?_
        refine ez_top h (fun t_1381 h => ?_)
        refine ez_sld hC hX hbl hS h dL_law_1382 (fun t_1382 h => ?_)
        refine ez_cVi (As := [.int t_1382]) (rest := []) h (fun _ q => c_X11_together q) hC k_X11_together ql_RL_167 rfl (by decide) hS (fun _ q => ez_rcv q) rfl hl.1 rfl (Nat.le_of_ble_eq_true rfl) ⟨Nat.le_trans (by decide) hR.1, Nat.le_trans (by decide) hR.2⟩ dL_law_1383 (fun t_1383 σ H locs hS h => ?_)
        refine lv_pop hx hb dL_law_1386 rfl ?_
        refine lv_aload_n hx hb dL_law_1387 rfl (lv_at hl 2 rfl) ?_
        refine lv_aload_n hx hb dL_law_1388 rfl (lv_at hl 0 rfl) ?_
        refine lv_iload_n hx hb dL_law_1389 rfl (lv_at hl 3 rfl) ?_
        refine lv_iconst (v := 1) hx hb dL_law_1390 (by decide) ?_
        refine lv_iadd hx hb dL_law_1391 ?_
        refine ez_top h (fun t_1391 h => ?_)
        refine ez_sld hC hX hbl hS h dL_law_1392 (fun t_1392 h => ?_)
        refine ez_cVi (As := [.int t_1392]) (rest := []) h (fun _ q => c_X12_together q) hC k_X12_together ql_RL_170 rfl (by decide) hS (fun _ q => ez_rcv q) rfl hl.1 rfl (Nat.le_of_ble_eq_true rfl) ⟨Nat.le_trans (by decide) hR.1, Nat.le_trans (by decide) hR.2⟩ dL_law_1393 (fun t_1393 σ H locs hS h => ?_)
        refine lv_pop hx hb dL_law_1396 rfl ?_
        refine lv_goto (tgt := 1998) hx hb dL_law_1397 (by decide) ?_
        exact K_1998 k_18 hk_18 σ h1 h2 x3 _ _ _ hS h (lv_sub hl [0, 1, 2, 3] rfl)
      replace h := ez_ifn h s_33_37
      by_cases s_33_38 : t_32 = 38
      · replace h := ez_ifp h s_33_38
        refine lv_tableIn (tgt := 1400) hx hb dL_law_33 (by rw [s_33_38]; decide) (by rw [s_33_38]; decide) (by first | (rw [s_33_38]; done) | (rw [s_33_38]; rfl)) (by decide) ?_
        refine lv_aload_n hx hb dL_law_1400 rfl (lv_at hl 1 rfl) ?_
        refine lv_aload_n hx hb dL_law_1401 rfl (lv_at hl 0 rfl) ?_
        refine lv_iload_n hx hb dL_law_1402 rfl (lv_at hl 3 rfl) ?_
        refine lv_iconst (v := 1) hx hb dL_law_1403 (by decide) ?_
        refine lv_iadd hx hb dL_law_1404 ?_
        refine ez_top h (fun t_1404 h => ?_)
        refine ez_sld hC hX hbl hS h dL_law_1405 (fun t_1405 h => ?_)
        refine ez_cVpi (As := [.int t_1405]) (rest := []) h (fun _ q => c_X11_comers q) hC k_X11_comers ql_RL_171 rfl (by decide) hS (fun _ q => ez_rcv q) rfl hl.1 rfl (Nat.le_of_ble_eq_true rfl) ⟨Nat.le_trans (by decide) hR.1, Nat.le_trans (by decide) hR.2⟩ dL_law_1406 (fun t_1406 H locs hS h => ?_)
        refine lv_pop hx hb dL_law_1409 rfl ?_
        refine lv_aload_n hx hb dL_law_1410 rfl (lv_at hl 2 rfl) ?_
        refine lv_aload_n hx hb dL_law_1411 rfl (lv_at hl 0 rfl) ?_
        refine lv_iload_n hx hb dL_law_1412 rfl (lv_at hl 3 rfl) ?_
        refine lv_iconst (v := 1) hx hb dL_law_1413 (by decide) ?_
        refine lv_iadd hx hb dL_law_1414 ?_
        refine ez_top h (fun t_1414 h => ?_)
        refine ez_sld hC hX hbl hS h dL_law_1415 (fun t_1415 h => ?_)
        refine ez_cVpi (As := [.int t_1415]) (rest := []) h (fun _ q => c_X12_comers q) hC k_X12_comers ql_RL_174 rfl (by decide) hS (fun _ q => ez_rcv q) rfl hl.1 rfl (Nat.le_of_ble_eq_true rfl) ⟨Nat.le_trans (by decide) hR.1, Nat.le_trans (by decide) hR.2⟩ dL_law_1416 (fun t_1416 H locs hS h => ?_)
        refine lv_pop hx hb dL_law_1419 rfl ?_
        refine lv_goto (tgt := 1998) hx hb dL_law_1420 (by decide) ?_
        exact K_1998 k_18 hk_18 σ h1 h2 x3 _ _ _ hS h (lv_sub hl [0, 1, 2, 3] rfl)
      replace h := ez_ifn h s_33_38
      by_cases s_33_39 : t_32 = 39
      · replace h := ez_ifp h s_33_39
        refine lv_tableIn (tgt := 1423) hx hb dL_law_33 (by rw [s_33_39]; decide) (by rw [s_33_39]; decide) (by first | (rw [s_33_39]; done) | (rw [s_33_39]; rfl)) (by decide) ?_
        refine lv_aload_n hx hb dL_law_1423 rfl (lv_at hl 1 rfl) ?_
        refine lv_aload_n hx hb dL_law_1424 rfl (lv_at hl 0 rfl) ?_
        refine lv_iload_n hx hb dL_law_1425 rfl (lv_at hl 3 rfl) ?_
        refine lv_iconst (v := 1) hx hb dL_law_1426 (by decide) ?_
        refine lv_iadd hx hb dL_law_1427 ?_
        refine ez_top h (fun t_1427 h => ?_)
        refine ez_sld hC hX hbl hS h dL_law_1428 (fun t_1428 h => ?_)
        refine lv_aload_n hx hb dL_law_1429 rfl (lv_at hl 0 rfl) ?_
        refine lv_iload_n hx hb dL_law_1430 rfl (lv_at hl 3 rfl) ?_
        refine lv_iconst (v := 2) hx hb dL_law_1431 (by decide) ?_
        refine lv_iadd hx hb dL_law_1432 ?_
        refine ez_top h (fun t_1432 h => ?_)
        refine ez_sld hC hX hbl hS h dL_law_1433 (fun t_1433 h => ?_)
        refine lv_aload_n hx hb dL_law_1434 rfl (lv_at hl 0 rfl) ?_
        refine lv_iload_n hx hb dL_law_1435 rfl (lv_at hl 3 rfl) ?_
        refine lv_iconst (v := 3) hx hb dL_law_1436 (by decide) ?_
        refine lv_iadd hx hb dL_law_1437 ?_
        refine ez_top h (fun t_1437 h => ?_)
        refine ez_sld hC hX hbl hS h dL_law_1438 (fun t_1438 h => ?_)
        refine ez_cVpi (As := [.int t_1428, .int t_1433, .int t_1438]) (rest := []) h (fun _ q => c_X11_trade q) hC k_X11_trade ql_RL_175 rfl (by decide) hS (fun _ q => ez_rcv q) rfl hl.1 rfl (Nat.le_of_ble_eq_true rfl) ⟨Nat.le_trans (by decide) hR.1, Nat.le_trans (by decide) hR.2⟩ dL_law_1439 (fun t_1439 H locs hS h => ?_)
        refine lv_pop hx hb dL_law_1442 rfl ?_
        refine lv_aload_n hx hb dL_law_1443 rfl (lv_at hl 2 rfl) ?_
        refine lv_aload_n hx hb dL_law_1444 rfl (lv_at hl 0 rfl) ?_
        refine lv_iload_n hx hb dL_law_1445 rfl (lv_at hl 3 rfl) ?_
        refine lv_iconst (v := 1) hx hb dL_law_1446 (by decide) ?_
        refine lv_iadd hx hb dL_law_1447 ?_
        refine ez_top h (fun t_1447 h => ?_)
        refine ez_sld hC hX hbl hS h dL_law_1448 (fun t_1448 h => ?_)
        refine lv_aload_n hx hb dL_law_1449 rfl (lv_at hl 0 rfl) ?_
        refine lv_iload_n hx hb dL_law_1450 rfl (lv_at hl 3 rfl) ?_
        refine lv_iconst (v := 2) hx hb dL_law_1451 (by decide) ?_
        refine lv_iadd hx hb dL_law_1452 ?_
        refine ez_top h (fun t_1452 h => ?_)
        refine ez_sld hC hX hbl hS h dL_law_1453 (fun t_1453 h => ?_)
        refine lv_aload_n hx hb dL_law_1454 rfl (lv_at hl 0 rfl) ?_
        refine lv_iload_n hx hb dL_law_1455 rfl (lv_at hl 3 rfl) ?_
        refine lv_iconst (v := 3) hx hb dL_law_1456 (by decide) ?_
        refine lv_iadd hx hb dL_law_1457 ?_
        refine ez_top h (fun t_1457 h => ?_)
        refine ez_sld hC hX hbl hS h dL_law_1458 (fun t_1458 h => ?_)
        refine ez_cVpi (As := [.int t_1448, .int t_1453, .int t_1458]) (rest := []) h (fun _ q => c_X12_trade q) hC k_X12_trade ql_RL_178 rfl (by decide) hS (fun _ q => ez_rcv q) rfl hl.1 rfl (Nat.le_of_ble_eq_true rfl) ⟨Nat.le_trans (by decide) hR.1, Nat.le_trans (by decide) hR.2⟩ dL_law_1459 (fun t_1459 H locs hS h => ?_)
        refine lv_pop hx hb dL_law_1462 rfl ?_
        refine lv_goto (tgt := 1998) hx hb dL_law_1463 (by decide) ?_
        exact K_1998 k_18 hk_18 σ h1 h2 x3 _ _ _ hS h (lv_sub hl [0, 1, 2, 3] rfl)
      replace h := ez_ifn h s_33_39
      by_cases s_33_40 : t_32 = 40
      · replace h := ez_ifp h s_33_40
        refine lv_tableIn (tgt := 1466) hx hb dL_law_33 (by rw [s_33_40]; decide) (by rw [s_33_40]; decide) (by first | (rw [s_33_40]; done) | (rw [s_33_40]; rfl)) (by decide) ?_
        refine lv_aload_n hx hb dL_law_1466 rfl (lv_at hl 1 rfl) ?_
        refine lv_aload_n hx hb dL_law_1467 rfl (lv_at hl 0 rfl) ?_
        refine lv_iload_n hx hb dL_law_1468 rfl (lv_at hl 3 rfl) ?_
        refine lv_iconst (v := 1) hx hb dL_law_1469 (by decide) ?_
        refine lv_iadd hx hb dL_law_1470 ?_
        refine ez_top h (fun t_1470 h => ?_)
        refine ez_sld hC hX hbl hS h dL_law_1471 (fun t_1471 h => ?_)
        refine lv_aload_n hx hb dL_law_1472 rfl (lv_at hl 0 rfl) ?_
        refine lv_iload_n hx hb dL_law_1473 rfl (lv_at hl 3 rfl) ?_
        refine lv_iconst (v := 2) hx hb dL_law_1474 (by decide) ?_
        refine lv_iadd hx hb dL_law_1475 ?_
        refine ez_top h (fun t_1475 h => ?_)
        refine ez_sld hC hX hbl hS h dL_law_1476 (fun t_1476 h => ?_)
        refine ez_cVpi (As := [.int t_1471, .int t_1476]) (rest := []) h (fun _ q => c_X11_span q) hC k_X11_span ql_RL_179 rfl (by decide) hS (fun _ q => ez_rcv q) rfl hl.1 rfl (Nat.le_of_ble_eq_true rfl) ⟨Nat.le_trans (by decide) hR.1, Nat.le_trans (by decide) hR.2⟩ dL_law_1477 (fun t_1477 H locs hS h => ?_)
        refine lv_pop hx hb dL_law_1480 rfl ?_
        refine lv_aload_n hx hb dL_law_1481 rfl (lv_at hl 2 rfl) ?_
        refine lv_aload_n hx hb dL_law_1482 rfl (lv_at hl 0 rfl) ?_
        refine lv_iload_n hx hb dL_law_1483 rfl (lv_at hl 3 rfl) ?_
        refine lv_iconst (v := 1) hx hb dL_law_1484 (by decide) ?_
        refine lv_iadd hx hb dL_law_1485 ?_
        refine ez_top h (fun t_1485 h => ?_)
        refine ez_sld hC hX hbl hS h dL_law_1486 (fun t_1486 h => ?_)
        refine lv_aload_n hx hb dL_law_1487 rfl (lv_at hl 0 rfl) ?_
        refine lv_iload_n hx hb dL_law_1488 rfl (lv_at hl 3 rfl) ?_
        refine lv_iconst (v := 2) hx hb dL_law_1489 (by decide) ?_
        refine lv_iadd hx hb dL_law_1490 ?_
        refine ez_top h (fun t_1490 h => ?_)
        refine ez_sld hC hX hbl hS h dL_law_1491 (fun t_1491 h => ?_)
        refine ez_cVpi (As := [.int t_1486, .int t_1491]) (rest := []) h (fun _ q => c_X12_span q) hC k_X12_span ql_RL_182 rfl (by decide) hS (fun _ q => ez_rcv q) rfl hl.1 rfl (Nat.le_of_ble_eq_true rfl) ⟨Nat.le_trans (by decide) hR.1, Nat.le_trans (by decide) hR.2⟩ dL_law_1492 (fun t_1492 H locs hS h => ?_)
        refine lv_pop hx hb dL_law_1495 rfl ?_
        refine lv_goto (tgt := 1998) hx hb dL_law_1496 (by decide) ?_
        exact K_1998 k_18 hk_18 σ h1 h2 x3 _ _ _ hS h (lv_sub hl [0, 1, 2, 3] rfl)
      replace h := ez_ifn h s_33_40
      by_cases s_33_41 : t_32 = 41
      · replace h := ez_ifp h s_33_41
        refine lv_tableIn (tgt := 1499) hx hb dL_law_33 (by rw [s_33_41]; decide) (by rw [s_33_41]; decide) (by first | (rw [s_33_41]; done) | (rw [s_33_41]; rfl)) (by decide) ?_
        refine lv_aload_n hx hb dL_law_1499 rfl (lv_at hl 1 rfl) ?_
        refine lv_aload_n hx hb dL_law_1500 rfl (lv_at hl 0 rfl) ?_
        refine lv_iload_n hx hb dL_law_1501 rfl (lv_at hl 3 rfl) ?_
        refine lv_iconst (v := 1) hx hb dL_law_1502 (by decide) ?_
        refine lv_iadd hx hb dL_law_1503 ?_
        refine ez_top h (fun t_1503 h => ?_)
        refine ez_sld hC hX hbl hS h dL_law_1504 (fun t_1504 h => ?_)
        refine ez_cVpi (As := [.int t_1504]) (rest := []) h (fun _ q => c_X11_twin q) hC k_X11_twin ql_RL_183 rfl (by decide) hS (fun _ q => ez_rcv q) rfl hl.1 rfl (Nat.le_of_ble_eq_true rfl) ⟨Nat.le_trans (by decide) hR.1, Nat.le_trans (by decide) hR.2⟩ dL_law_1505 (fun t_1505 H locs hS h => ?_)
        refine lv_pop hx hb dL_law_1508 rfl ?_
        refine lv_aload_n hx hb dL_law_1509 rfl (lv_at hl 2 rfl) ?_
        refine lv_aload_n hx hb dL_law_1510 rfl (lv_at hl 0 rfl) ?_
        refine lv_iload_n hx hb dL_law_1511 rfl (lv_at hl 3 rfl) ?_
        refine lv_iconst (v := 1) hx hb dL_law_1512 (by decide) ?_
        refine lv_iadd hx hb dL_law_1513 ?_
        refine ez_top h (fun t_1513 h => ?_)
        refine ez_sld hC hX hbl hS h dL_law_1514 (fun t_1514 h => ?_)
        refine ez_cVpi (As := [.int t_1514]) (rest := []) h (fun _ q => c_X12_twin q) hC k_X12_twin ql_RL_186 rfl (by decide) hS (fun _ q => ez_rcv q) rfl hl.1 rfl (Nat.le_of_ble_eq_true rfl) ⟨Nat.le_trans (by decide) hR.1, Nat.le_trans (by decide) hR.2⟩ dL_law_1515 (fun t_1515 H locs hS h => ?_)
        refine lv_pop hx hb dL_law_1518 rfl ?_
        refine lv_goto (tgt := 1998) hx hb dL_law_1519 (by decide) ?_
        exact K_1998 k_18 hk_18 σ h1 h2 x3 _ _ _ hS h (lv_sub hl [0, 1, 2, 3] rfl)
      replace h := ez_ifn h s_33_41
      by_cases s_33_42 : t_32 = 42
      · replace h := ez_ifp h s_33_42
        refine lv_tableIn (tgt := 1522) hx hb dL_law_33 (by rw [s_33_42]; decide) (by rw [s_33_42]; decide) (by first | (rw [s_33_42]; done) | (rw [s_33_42]; rfl)) (by decide) ?_
        refine lv_aload_n hx hb dL_law_1522 rfl (lv_at hl 1 rfl) ?_
        refine lv_aload_n hx hb dL_law_1523 rfl (lv_at hl 0 rfl) ?_
        refine lv_iload_n hx hb dL_law_1524 rfl (lv_at hl 3 rfl) ?_
        refine lv_iconst (v := 1) hx hb dL_law_1525 (by decide) ?_
        refine lv_iadd hx hb dL_law_1526 ?_
        refine ez_top h (fun t_1526 h => ?_)
        refine ez_sld hC hX hbl hS h dL_law_1527 (fun t_1527 h => ?_)
        refine ez_cVi (As := [.int t_1527]) (rest := []) h (fun _ q => c_X11_book q) hC k_X11_book ql_RL_187 rfl (by decide) hS (fun _ q => ez_rcv q) rfl hl.1 rfl (Nat.le_of_ble_eq_true rfl) ⟨Nat.le_trans (by decide) hR.1, Nat.le_trans (by decide) hR.2⟩ dL_law_1528 (fun t_1528 σ H locs hS h => ?_)
        refine lv_pop hx hb dL_law_1531 rfl ?_
        refine lv_aload_n hx hb dL_law_1532 rfl (lv_at hl 2 rfl) ?_
        refine lv_aload_n hx hb dL_law_1533 rfl (lv_at hl 0 rfl) ?_
        refine lv_iload_n hx hb dL_law_1534 rfl (lv_at hl 3 rfl) ?_
        refine lv_iconst (v := 1) hx hb dL_law_1535 (by decide) ?_
        refine lv_iadd hx hb dL_law_1536 ?_
        refine ez_top h (fun t_1536 h => ?_)
        refine ez_sld hC hX hbl hS h dL_law_1537 (fun t_1537 h => ?_)
        refine ez_cVi (As := [.int t_1537]) (rest := []) h (fun _ q => c_X12_book q) hC k_X12_book ql_RL_190 rfl (by decide) hS (fun _ q => ez_rcv q) rfl hl.1 rfl (Nat.le_of_ble_eq_true rfl) ⟨Nat.le_trans (by decide) hR.1, Nat.le_trans (by decide) hR.2⟩ dL_law_1538 (fun t_1538 σ H locs hS h => ?_)
        refine lv_pop hx hb dL_law_1541 rfl ?_
        refine lv_goto (tgt := 1998) hx hb dL_law_1542 (by decide) ?_
        exact K_1998 k_18 hk_18 σ h1 h2 x3 _ _ _ hS h (lv_sub hl [0, 1, 2, 3] rfl)
      replace h := ez_ifn h s_33_42
      by_cases s_33_43 : t_32 = 43
      · replace h := ez_ifp h s_33_43
        refine lv_tableIn (tgt := 1545) hx hb dL_law_33 (by rw [s_33_43]; decide) (by rw [s_33_43]; decide) (by first | (rw [s_33_43]; done) | (rw [s_33_43]; rfl)) (by decide) ?_
        refine lv_aload_n hx hb dL_law_1545 rfl (lv_at hl 1 rfl) ?_
        refine lv_aload_n hx hb dL_law_1546 rfl (lv_at hl 0 rfl) ?_
        refine lv_iload_n hx hb dL_law_1547 rfl (lv_at hl 3 rfl) ?_
        refine lv_iconst (v := 1) hx hb dL_law_1548 (by decide) ?_
        refine lv_iadd hx hb dL_law_1549 ?_
        refine ez_top h (fun t_1549 h => ?_)
        refine ez_sld hC hX hbl hS h dL_law_1550 (fun t_1550 h => ?_)
        refine lv_aload_n hx hb dL_law_1551 rfl (lv_at hl 0 rfl) ?_
        refine lv_iload_n hx hb dL_law_1552 rfl (lv_at hl 3 rfl) ?_
        refine lv_iconst (v := 2) hx hb dL_law_1553 (by decide) ?_
        refine lv_iadd hx hb dL_law_1554 ?_
        refine ez_top h (fun t_1554 h => ?_)
        refine ez_sld hC hX hbl hS h dL_law_1555 (fun t_1555 h => ?_)
        refine ez_cVi (As := [.int t_1550, .int t_1555]) (rest := []) h (fun _ q => c_X11_lasts q) hC k_X11_lasts ql_RL_191 rfl (by decide) hS (fun _ q => ez_rcv q) rfl hl.1 rfl (Nat.le_of_ble_eq_true rfl) ⟨Nat.le_trans (by decide) hR.1, Nat.le_trans (by decide) hR.2⟩ dL_law_1556 (fun t_1556 σ H locs hS h => ?_)
        refine lv_pop hx hb dL_law_1559 rfl ?_
        refine lv_aload_n hx hb dL_law_1560 rfl (lv_at hl 2 rfl) ?_
        refine lv_aload_n hx hb dL_law_1561 rfl (lv_at hl 0 rfl) ?_
        refine lv_iload_n hx hb dL_law_1562 rfl (lv_at hl 3 rfl) ?_
        refine lv_iconst (v := 1) hx hb dL_law_1563 (by decide) ?_
        refine lv_iadd hx hb dL_law_1564 ?_
        refine ez_top h (fun t_1564 h => ?_)
        refine ez_sld hC hX hbl hS h dL_law_1565 (fun t_1565 h => ?_)
        refine lv_aload_n hx hb dL_law_1566 rfl (lv_at hl 0 rfl) ?_
        refine lv_iload_n hx hb dL_law_1567 rfl (lv_at hl 3 rfl) ?_
        refine lv_iconst (v := 2) hx hb dL_law_1568 (by decide) ?_
        refine lv_iadd hx hb dL_law_1569 ?_
        refine ez_top h (fun t_1569 h => ?_)
        refine ez_sld hC hX hbl hS h dL_law_1570 (fun t_1570 h => ?_)
        refine ez_cVi (As := [.int t_1565, .int t_1570]) (rest := []) h (fun _ q => c_X12_lasts q) hC k_X12_lasts ql_RL_194 rfl (by decide) hS (fun _ q => ez_rcv q) rfl hl.1 rfl (Nat.le_of_ble_eq_true rfl) ⟨Nat.le_trans (by decide) hR.1, Nat.le_trans (by decide) hR.2⟩ dL_law_1571 (fun t_1571 σ H locs hS h => ?_)
        refine lv_pop hx hb dL_law_1574 rfl ?_
        refine lv_goto (tgt := 1998) hx hb dL_law_1575 (by decide) ?_
        exact K_1998 k_18 hk_18 σ h1 h2 x3 _ _ _ hS h (lv_sub hl [0, 1, 2, 3] rfl)
      replace h := ez_ifn h s_33_43
      by_cases s_33_44 : t_32 = 44
      · replace h := ez_ifp h s_33_44
        refine lv_tableIn (tgt := 1578) hx hb dL_law_33 (by rw [s_33_44]; decide) (by rw [s_33_44]; decide) (by first | (rw [s_33_44]; done) | (rw [s_33_44]; rfl)) (by decide) ?_
        refine lv_aload_n hx hb dL_law_1578 rfl (lv_at hl 1 rfl) ?_
        refine ez_cVi (As := []) (rest := []) h (fun _ q => c_X11_blanks q) hC k_X11_blanks ql_RL_195 rfl (by decide) hS (fun _ q => ez_rcv q) rfl hl.1 rfl (Nat.le_of_ble_eq_true rfl) ⟨Nat.le_trans (by decide) hR.1, Nat.le_trans (by decide) hR.2⟩ dL_law_1579 (fun t_1579 σ H locs hS h => ?_)
        refine lv_pop hx hb dL_law_1582 rfl ?_
        refine lv_aload_n hx hb dL_law_1583 rfl (lv_at hl 2 rfl) ?_
        refine ez_cVpi (As := []) (rest := []) h (fun _ q => c_X12_blanks q) hC k_X12_blanks ql_RL_198 rfl (by decide) hS (fun _ q => ez_rcv q) rfl hl.1 rfl (Nat.le_of_ble_eq_true rfl) ⟨Nat.le_trans (by decide) hR.1, Nat.le_trans (by decide) hR.2⟩ dL_law_1584 (fun t_1584 H locs hS h => ?_)
        refine lv_pop hx hb dL_law_1587 rfl ?_
        refine lv_goto (tgt := 1998) hx hb dL_law_1588 (by decide) ?_
        exact K_1998 k_18 hk_18 σ h1 h2 x3 _ _ _ hS h (lv_sub hl [0, 1, 2, 3] rfl)
      replace h := ez_ifn h s_33_44
      by_cases s_33_45 : t_32 = 45
      · replace h := ez_ifp h s_33_45
        refine lv_tableIn (tgt := 1591) hx hb dL_law_33 (by rw [s_33_45]; decide) (by rw [s_33_45]; decide) (by first | (rw [s_33_45]; done) | (rw [s_33_45]; rfl)) (by decide) ?_
        refine lv_aload_n hx hb dL_law_1591 rfl (lv_at hl 1 rfl) ?_
        refine ez_cVpi (As := []) (rest := []) h (fun _ q => c_X11_stuck q) hC k_X11_stuck ql_RL_199 rfl (by decide) hS (fun _ q => ez_rcv q) rfl hl.1 rfl (Nat.le_of_ble_eq_true rfl) ⟨Nat.le_trans (by decide) hR.1, Nat.le_trans (by decide) hR.2⟩ dL_law_1592 (fun t_1592 H locs hS h => ?_)
        refine lv_pop hx hb dL_law_1595 rfl ?_
        refine lv_aload_n hx hb dL_law_1596 rfl (lv_at hl 2 rfl) ?_
        refine ez_cVpi (As := []) (rest := []) h (fun _ q => c_X12_stuck q) hC k_X12_stuck ql_RL_202 rfl (by decide) hS (fun _ q => ez_rcv q) rfl hl.1 rfl (Nat.le_of_ble_eq_true rfl) ⟨Nat.le_trans (by decide) hR.1, Nat.le_trans (by decide) hR.2⟩ dL_law_1597 (fun t_1597 H locs hS h => ?_)
        refine lv_pop hx hb dL_law_1600 rfl ?_
        refine lv_goto (tgt := 1998) hx hb dL_law_1601 (by decide) ?_
        exact K_1998 k_18 hk_18 σ h1 h2 x3 _ _ _ hS h (lv_sub hl [0, 1, 2, 3] rfl)
      replace h := ez_ifn h s_33_45
      by_cases s_33_46 : t_32 = 46
      · replace h := ez_ifp h s_33_46
        refine lv_tableIn (tgt := 1604) hx hb dL_law_33 (by rw [s_33_46]; decide) (by rw [s_33_46]; decide) (by first | (rw [s_33_46]; done) | (rw [s_33_46]; rfl)) (by decide) ?_
        refine lv_aload_n hx hb dL_law_1604 rfl (lv_at hl 1 rfl) ?_
        refine ez_cVpi (As := []) (rest := []) h (fun _ q => c_X11_barred q) hC k_X11_barred ql_RL_203 rfl (by decide) hS (fun _ q => ez_rcv q) rfl hl.1 rfl (Nat.le_of_ble_eq_true rfl) ⟨Nat.le_trans (by decide) hR.1, Nat.le_trans (by decide) hR.2⟩ dL_law_1605 (fun t_1605 H locs hS h => ?_)
        refine lv_pop hx hb dL_law_1608 rfl ?_
        refine lv_aload_n hx hb dL_law_1609 rfl (lv_at hl 2 rfl) ?_
        refine ez_cVpi (As := []) (rest := []) h (fun _ q => c_X12_barred q) hC k_X12_barred ql_RL_206 rfl (by decide) hS (fun _ q => ez_rcv q) rfl hl.1 rfl (Nat.le_of_ble_eq_true rfl) ⟨Nat.le_trans (by decide) hR.1, Nat.le_trans (by decide) hR.2⟩ dL_law_1610 (fun t_1610 H locs hS h => ?_)
        refine lv_pop hx hb dL_law_1613 rfl ?_
        refine lv_goto (tgt := 1998) hx hb dL_law_1614 (by decide) ?_
        exact K_1998 k_18 hk_18 σ h1 h2 x3 _ _ _ hS h (lv_sub hl [0, 1, 2, 3] rfl)
      replace h := ez_ifn h s_33_46
      by_cases s_33_47 : t_32 = 47
      · replace h := ez_ifp h s_33_47
        refine lv_tableIn (tgt := 1617) hx hb dL_law_33 (by rw [s_33_47]; decide) (by rw [s_33_47]; decide) (by first | (rw [s_33_47]; done) | (rw [s_33_47]; rfl)) (by decide) ?_
        refine lv_aload_n hx hb dL_law_1617 rfl (lv_at hl 1 rfl) ?_
        refine ez_cVi (As := []) (rest := []) h (fun _ q => c_X11_haunted q) hC k_X11_haunted ql_RL_207 rfl (by decide) hS (fun _ q => ez_rcv q) rfl hl.1 rfl (Nat.le_of_ble_eq_true rfl) ⟨Nat.le_trans (by decide) hR.1, Nat.le_trans (by decide) hR.2⟩ dL_law_1618 (fun t_1618 σ H locs hS h => ?_)
        refine lv_pop hx hb dL_law_1621 rfl ?_
        refine lv_aload_n hx hb dL_law_1622 rfl (lv_at hl 2 rfl) ?_
        refine ez_cVpi (As := []) (rest := []) h (fun _ q => c_X12_haunted q) hC k_X12_haunted ql_RL_210 rfl (by decide) hS (fun _ q => ez_rcv q) rfl hl.1 rfl (Nat.le_of_ble_eq_true rfl) ⟨Nat.le_trans (by decide) hR.1, Nat.le_trans (by decide) hR.2⟩ dL_law_1623 (fun t_1623 H locs hS h => ?_)
        refine lv_pop hx hb dL_law_1626 rfl ?_
        refine lv_goto (tgt := 1998) hx hb dL_law_1627 (by decide) ?_
        exact K_1998 k_18 hk_18 σ h1 h2 x3 _ _ _ hS h (lv_sub hl [0, 1, 2, 3] rfl)
      replace h := ez_ifn h s_33_47
      by_cases s_33_48 : t_32 = 48
      · replace h := ez_ifp h s_33_48
        refine lv_tableIn (tgt := 1630) hx hb dL_law_33 (by rw [s_33_48]; decide) (by rw [s_33_48]; decide) (by first | (rw [s_33_48]; done) | (rw [s_33_48]; rfl)) (by decide) ?_
        refine lv_aload_n hx hb dL_law_1630 rfl (lv_at hl 1 rfl) ?_
        refine ez_cVpi (As := []) (rest := []) h (fun _ q => c_X11_best q) hC k_X11_best ql_RL_211 rfl (by decide) hS (fun _ q => ez_rcv q) rfl hl.1 rfl (Nat.le_of_ble_eq_true rfl) ⟨Nat.le_trans (by decide) hR.1, Nat.le_trans (by decide) hR.2⟩ dL_law_1631 (fun t_1631 H locs hS h => ?_)
        refine lv_pop hx hb dL_law_1634 rfl ?_
        refine lv_aload_n hx hb dL_law_1635 rfl (lv_at hl 2 rfl) ?_
        refine ez_cVpi (As := []) (rest := []) h (fun _ q => c_X12_best q) hC k_X12_best ql_RL_214 rfl (by decide) hS (fun _ q => ez_rcv q) rfl hl.1 rfl (Nat.le_of_ble_eq_true rfl) ⟨Nat.le_trans (by decide) hR.1, Nat.le_trans (by decide) hR.2⟩ dL_law_1636 (fun t_1636 H locs hS h => ?_)
        refine lv_pop hx hb dL_law_1639 rfl ?_
        refine lv_goto (tgt := 1998) hx hb dL_law_1640 (by decide) ?_
        exact K_1998 k_18 hk_18 σ h1 h2 x3 _ _ _ hS h (lv_sub hl [0, 1, 2, 3] rfl)
      replace h := ez_ifn h s_33_48
      by_cases s_33_49 : t_32 = 49
      · replace h := ez_ifp h s_33_49
        refine lv_tableIn (tgt := 1643) hx hb dL_law_33 (by rw [s_33_49]; decide) (by rw [s_33_49]; decide) (by first | (rw [s_33_49]; done) | (rw [s_33_49]; rfl)) (by decide) ?_
        refine lv_aload_n hx hb dL_law_1643 rfl (lv_at hl 1 rfl) ?_
        refine lv_aload_n hx hb dL_law_1644 rfl (lv_at hl 0 rfl) ?_
        refine lv_iload_n hx hb dL_law_1645 rfl (lv_at hl 3 rfl) ?_
        refine lv_iconst (v := 1) hx hb dL_law_1646 (by decide) ?_
        refine lv_iadd hx hb dL_law_1647 ?_
        refine ez_top h (fun t_1647 h => ?_)
        refine ez_sld hC hX hbl hS h dL_law_1648 (fun t_1648 h => ?_)
        refine ez_cVpi (As := [.int t_1648]) (rest := []) h (fun _ q => c_X11_idle q) hC k_X11_idle ql_RL_215 rfl (by decide) hS (fun _ q => ez_rcv q) rfl hl.1 rfl (Nat.le_of_ble_eq_true rfl) ⟨Nat.le_trans (by decide) hR.1, Nat.le_trans (by decide) hR.2⟩ dL_law_1649 (fun t_1649 H locs hS h => ?_)
        refine lv_pop hx hb dL_law_1652 rfl ?_
        refine lv_aload_n hx hb dL_law_1653 rfl (lv_at hl 2 rfl) ?_
        refine lv_aload_n hx hb dL_law_1654 rfl (lv_at hl 0 rfl) ?_
        refine lv_iload_n hx hb dL_law_1655 rfl (lv_at hl 3 rfl) ?_
        refine lv_iconst (v := 1) hx hb dL_law_1656 (by decide) ?_
        refine lv_iadd hx hb dL_law_1657 ?_
        refine ez_top h (fun t_1657 h => ?_)
        refine ez_sld hC hX hbl hS h dL_law_1658 (fun t_1658 h => ?_)
        refine ez_cVpi (As := [.int t_1658]) (rest := []) h (fun _ q => c_X12_idle q) hC k_X12_idle ql_RL_218 rfl (by decide) hS (fun _ q => ez_rcv q) rfl hl.1 rfl (Nat.le_of_ble_eq_true rfl) ⟨Nat.le_trans (by decide) hR.1, Nat.le_trans (by decide) hR.2⟩ dL_law_1659 (fun t_1659 H locs hS h => ?_)
        refine lv_pop hx hb dL_law_1662 rfl ?_
        refine lv_goto (tgt := 1998) hx hb dL_law_1663 (by decide) ?_
        exact K_1998 k_18 hk_18 σ h1 h2 x3 _ _ _ hS h (lv_sub hl [0, 1, 2, 3] rfl)
      replace h := ez_ifn h s_33_49
      by_cases s_33_50 : t_32 = 50
      · replace h := ez_ifp h s_33_50
        refine lv_tableIn (tgt := 1666) hx hb dL_law_33 (by rw [s_33_50]; decide) (by rw [s_33_50]; decide) (by first | (rw [s_33_50]; done) | (rw [s_33_50]; rfl)) (by decide) ?_
        refine lv_aload_n hx hb dL_law_1666 rfl (lv_at hl 1 rfl) ?_
        refine lv_aload_n hx hb dL_law_1667 rfl (lv_at hl 0 rfl) ?_
        refine lv_iload_n hx hb dL_law_1668 rfl (lv_at hl 3 rfl) ?_
        refine lv_iconst (v := 1) hx hb dL_law_1669 (by decide) ?_
        refine lv_iadd hx hb dL_law_1670 ?_
        refine ez_top h (fun t_1670 h => ?_)
        refine ez_sld hC hX hbl hS h dL_law_1671 (fun t_1671 h => ?_)
        refine ez_cVi (As := [.int t_1671]) (rest := []) h (fun _ q => c_X11_law q) hC k_X11_law ql_RL_219 rfl (by decide) hS (fun _ q => ez_rcv q) rfl hl.1 rfl (Nat.le_of_ble_eq_true rfl) ⟨Nat.le_trans (by decide) hR.1, Nat.le_trans (by decide) hR.2⟩ dL_law_1672 (fun t_1672 σ H locs hS h => ?_)
        refine lv_pop hx hb dL_law_1675 rfl ?_
        refine lv_aload_n hx hb dL_law_1676 rfl (lv_at hl 2 rfl) ?_
        refine lv_aload_n hx hb dL_law_1677 rfl (lv_at hl 0 rfl) ?_
        refine lv_iload_n hx hb dL_law_1678 rfl (lv_at hl 3 rfl) ?_
        refine lv_iconst (v := 1) hx hb dL_law_1679 (by decide) ?_
        refine lv_iadd hx hb dL_law_1680 ?_
        refine ez_top h (fun t_1680 h => ?_)
        refine ez_sld hC hX hbl hS h dL_law_1681 (fun t_1681 h => ?_)
        refine ez_cVpi (As := [.int t_1681]) (rest := []) h (fun _ q => c_X12_law q) hC k_X12_law ql_RL_222 rfl (by decide) hS (fun _ q => ez_rcv q) rfl hl.1 rfl (Nat.le_of_ble_eq_true rfl) ⟨Nat.le_trans (by decide) hR.1, Nat.le_trans (by decide) hR.2⟩ dL_law_1682 (fun t_1682 H locs hS h => ?_)
        refine lv_pop hx hb dL_law_1685 rfl ?_
        refine lv_goto (tgt := 1998) hx hb dL_law_1686 (by decide) ?_
        exact K_1998 k_18 hk_18 σ h1 h2 x3 _ _ _ hS h (lv_sub hl [0, 1, 2, 3] rfl)
      replace h := ez_ifn h s_33_50
      by_cases s_33_51 : t_32 = 51
      · replace h := ez_ifp h s_33_51
        refine lv_tableIn (tgt := 1689) hx hb dL_law_33 (by rw [s_33_51]; decide) (by rw [s_33_51]; decide) (by first | (rw [s_33_51]; done) | (rw [s_33_51]; rfl)) (by decide) ?_
        refine lv_aload_n hx hb dL_law_1689 rfl (lv_at hl 1 rfl) ?_
        refine lv_aload_n hx hb dL_law_1690 rfl (lv_at hl 0 rfl) ?_
        refine lv_iload_n hx hb dL_law_1691 rfl (lv_at hl 3 rfl) ?_
        refine lv_iconst (v := 1) hx hb dL_law_1692 (by decide) ?_
        refine lv_iadd hx hb dL_law_1693 ?_
        refine ez_top h (fun t_1693 h => ?_)
        refine ez_sld hC hX hbl hS h dL_law_1694 (fun t_1694 h => ?_)
        refine lv_aload_n hx hb dL_law_1695 rfl (lv_at hl 0 rfl) ?_
        refine lv_iload_n hx hb dL_law_1696 rfl (lv_at hl 3 rfl) ?_
        refine lv_iconst (v := 2) hx hb dL_law_1697 (by decide) ?_
        refine lv_iadd hx hb dL_law_1698 ?_
        refine ez_top h (fun t_1698 h => ?_)
        refine ez_sld hC hX hbl hS h dL_law_1699 (fun t_1699 h => ?_)
        refine ez_cVi (As := [.int t_1694, .int t_1699]) (rest := []) h (fun _ q => c_X11_odds q) hC k_X11_odds ql_RL_223 rfl (by decide) hS (fun _ q => ez_rcv q) rfl hl.1 rfl (Nat.le_of_ble_eq_true rfl) ⟨Nat.le_trans (by decide) hR.1, Nat.le_trans (by decide) hR.2⟩ dL_law_1700 (fun t_1700 σ H locs hS h => ?_)
        refine lv_pop hx hb dL_law_1703 rfl ?_
        refine lv_aload_n hx hb dL_law_1704 rfl (lv_at hl 2 rfl) ?_
        refine lv_aload_n hx hb dL_law_1705 rfl (lv_at hl 0 rfl) ?_
        refine lv_iload_n hx hb dL_law_1706 rfl (lv_at hl 3 rfl) ?_
        refine lv_iconst (v := 1) hx hb dL_law_1707 (by decide) ?_
        refine lv_iadd hx hb dL_law_1708 ?_
        refine ez_top h (fun t_1708 h => ?_)
        refine ez_sld hC hX hbl hS h dL_law_1709 (fun t_1709 h => ?_)
        refine lv_aload_n hx hb dL_law_1710 rfl (lv_at hl 0 rfl) ?_
        refine lv_iload_n hx hb dL_law_1711 rfl (lv_at hl 3 rfl) ?_
        refine lv_iconst (v := 2) hx hb dL_law_1712 (by decide) ?_
        refine lv_iadd hx hb dL_law_1713 ?_
        refine ez_top h (fun t_1713 h => ?_)
        refine ez_sld hC hX hbl hS h dL_law_1714 (fun t_1714 h => ?_)
        refine ez_cVpi (As := [.int t_1709, .int t_1714]) (rest := []) h (fun _ q => c_X12_odds q) hC k_X12_odds ql_RL_226 rfl (by decide) hS (fun _ q => ez_rcv q) rfl hl.1 rfl (Nat.le_of_ble_eq_true rfl) ⟨Nat.le_trans (by decide) hR.1, Nat.le_trans (by decide) hR.2⟩ dL_law_1715 (fun t_1715 H locs hS h => ?_)
        refine lv_pop hx hb dL_law_1718 rfl ?_
        refine lv_goto (tgt := 1998) hx hb dL_law_1719 (by decide) ?_
        exact K_1998 k_18 hk_18 σ h1 h2 x3 _ _ _ hS h (lv_sub hl [0, 1, 2, 3] rfl)
      replace h := ez_ifn h s_33_51
      by_cases s_33_52 : t_32 = 52
      · replace h := ez_ifp h s_33_52
        refine lv_tableIn (tgt := 1722) hx hb dL_law_33 (by rw [s_33_52]; decide) (by rw [s_33_52]; decide) (by first | (rw [s_33_52]; done) | (rw [s_33_52]; rfl)) (by decide) ?_
        refine lv_aload_n hx hb dL_law_1722 rfl (lv_at hl 1 rfl) ?_
        refine lv_aload_n hx hb dL_law_1723 rfl (lv_at hl 0 rfl) ?_
        refine lv_iload_n hx hb dL_law_1724 rfl (lv_at hl 3 rfl) ?_
        refine lv_iconst (v := 1) hx hb dL_law_1725 (by decide) ?_
        refine lv_iadd hx hb dL_law_1726 ?_
        refine ez_top h (fun t_1726 h => ?_)
        refine ez_sld hC hX hbl hS h dL_law_1727 (fun t_1727 h => ?_)
        refine ez_cVpi (As := [.int t_1727]) (rest := []) h (fun _ q => c_X11_lies q) hC k_X11_lies ql_RL_227 rfl (by decide) hS (fun _ q => ez_rcv q) rfl hl.1 rfl (Nat.le_of_ble_eq_true rfl) ⟨Nat.le_trans (by decide) hR.1, Nat.le_trans (by decide) hR.2⟩ dL_law_1728 (fun t_1728 H locs hS h => ?_)
        refine lv_pop hx hb dL_law_1731 rfl ?_
        refine lv_aload_n hx hb dL_law_1732 rfl (lv_at hl 2 rfl) ?_
        refine lv_aload_n hx hb dL_law_1733 rfl (lv_at hl 0 rfl) ?_
        refine lv_iload_n hx hb dL_law_1734 rfl (lv_at hl 3 rfl) ?_
        refine lv_iconst (v := 1) hx hb dL_law_1735 (by decide) ?_
        refine lv_iadd hx hb dL_law_1736 ?_
        refine ez_top h (fun t_1736 h => ?_)
        refine ez_sld hC hX hbl hS h dL_law_1737 (fun t_1737 h => ?_)
        refine ez_cVpi (As := [.int t_1737]) (rest := []) h (fun _ q => c_X12_lies q) hC k_X12_lies ql_RL_230 rfl (by decide) hS (fun _ q => ez_rcv q) rfl hl.1 rfl (Nat.le_of_ble_eq_true rfl) ⟨Nat.le_trans (by decide) hR.1, Nat.le_trans (by decide) hR.2⟩ dL_law_1738 (fun t_1738 H locs hS h => ?_)
        refine lv_pop hx hb dL_law_1741 rfl ?_
        refine lv_goto (tgt := 1998) hx hb dL_law_1742 (by decide) ?_
        exact K_1998 k_18 hk_18 σ h1 h2 x3 _ _ _ hS h (lv_sub hl [0, 1, 2, 3] rfl)
      replace h := ez_ifn h s_33_52
      by_cases s_33_53 : t_32 = 53
      · replace h := ez_ifp h s_33_53
        refine lv_tableIn (tgt := 1745) hx hb dL_law_33 (by rw [s_33_53]; decide) (by rw [s_33_53]; decide) (by first | (rw [s_33_53]; done) | (rw [s_33_53]; rfl)) (by decide) ?_
        refine lv_aload_n hx hb dL_law_1745 rfl (lv_at hl 1 rfl) ?_
        refine lv_aload_n hx hb dL_law_1746 rfl (lv_at hl 0 rfl) ?_
        refine lv_iload_n hx hb dL_law_1747 rfl (lv_at hl 3 rfl) ?_
        refine lv_iconst (v := 1) hx hb dL_law_1748 (by decide) ?_
        refine lv_iadd hx hb dL_law_1749 ?_
        refine ez_top h (fun t_1749 h => ?_)
        refine ez_sld hC hX hbl hS h dL_law_1750 (fun t_1750 h => ?_)
        refine lv_aload_n hx hb dL_law_1751 rfl (lv_at hl 0 rfl) ?_
        refine lv_iload_n hx hb dL_law_1752 rfl (lv_at hl 3 rfl) ?_
        refine lv_iconst (v := 2) hx hb dL_law_1753 (by decide) ?_
        refine lv_iadd hx hb dL_law_1754 ?_
        refine ez_top h (fun t_1754 h => ?_)
        refine ez_sld hC hX hbl hS h dL_law_1755 (fun t_1755 h => ?_)
        refine lv_if_eq (tgt := 1763) hx hb dL_law_1756 (by decide) (fun c_1756 => ?_) (fun c_1756 => ?_)
        · replace h := ez_ifp h c_1756
          refine lv_iconst (v := 0) hx hb dL_law_1763 (by decide) ?_
          exact K_1764 k_18 hk_18 σ h1 h2 x3 h1 t_1750 (0 : Int32) _ _ _ hS h (lv_sub hl [0, 1, 2, 3] rfl)
        · replace h := ez_ifn h c_1756
          refine lv_iconst (v := 1) hx hb dL_law_1759 (by decide) ?_
          refine lv_goto (tgt := 1764) hx hb dL_law_1760 (by decide) ?_
          exact K_1764 k_18 hk_18 σ h1 h2 x3 h1 t_1750 (1 : Int32) _ _ _ hS h (lv_sub hl [0, 1, 2, 3] rfl)
      replace h := ez_ifn h s_33_53
      by_cases s_33_54 : t_32 = 54
      · replace h := ez_ifp h s_33_54
        refine lv_tableIn (tgt := 1794) hx hb dL_law_33 (by rw [s_33_54]; decide) (by rw [s_33_54]; decide) (by first | (rw [s_33_54]; done) | (rw [s_33_54]; rfl)) (by decide) ?_
        refine lv_aload_n hx hb dL_law_1794 rfl (lv_at hl 1 rfl) ?_
        refine lv_aload_n hx hb dL_law_1795 rfl (lv_at hl 0 rfl) ?_
        refine lv_iload_n hx hb dL_law_1796 rfl (lv_at hl 3 rfl) ?_
        refine lv_iconst (v := 1) hx hb dL_law_1797 (by decide) ?_
        refine lv_iadd hx hb dL_law_1798 ?_
        refine ez_top h (fun t_1798 h => ?_)
        refine ez_sld hC hX hbl hS h dL_law_1799 (fun t_1799 h => ?_)
        refine ez_cVi (As := [.int t_1799]) (rest := []) h (fun _ q => c_X11_untell q) hC k_X11_untell ql_RL_236 rfl (by decide) hS (fun _ q => ez_rcv q) rfl hl.1 rfl (Nat.le_of_ble_eq_true rfl) ⟨Nat.le_trans (by decide) hR.1, Nat.le_trans (by decide) hR.2⟩ dL_law_1800 (fun t_1800 σ H locs hS h => ?_)
        refine lv_pop hx hb dL_law_1803 rfl ?_
        refine lv_aload_n hx hb dL_law_1804 rfl (lv_at hl 2 rfl) ?_
        refine lv_aload_n hx hb dL_law_1805 rfl (lv_at hl 0 rfl) ?_
        refine lv_iload_n hx hb dL_law_1806 rfl (lv_at hl 3 rfl) ?_
        refine lv_iconst (v := 1) hx hb dL_law_1807 (by decide) ?_
        refine lv_iadd hx hb dL_law_1808 ?_
        refine ez_top h (fun t_1808 h => ?_)
        refine ez_sld hC hX hbl hS h dL_law_1809 (fun t_1809 h => ?_)
        refine ez_cVi (As := [.int t_1809]) (rest := []) h (fun _ q => c_X12_untell q) hC k_X12_untell ql_RL_240 rfl (by decide) hS (fun _ q => ez_rcv q) rfl hl.1 rfl (Nat.le_of_ble_eq_true rfl) ⟨Nat.le_trans (by decide) hR.1, Nat.le_trans (by decide) hR.2⟩ dL_law_1810 (fun t_1810 σ H locs hS h => ?_)
        refine lv_pop hx hb dL_law_1813 rfl ?_
        refine lv_goto (tgt := 1998) hx hb dL_law_1814 (by decide) ?_
        exact K_1998 k_18 hk_18 σ h1 h2 x3 _ _ _ hS h (lv_sub hl [0, 1, 2, 3] rfl)
      replace h := ez_ifn h s_33_54
      by_cases s_33_55 : t_32 = 55
      · replace h := ez_ifp h s_33_55
        refine lv_tableIn (tgt := 1817) hx hb dL_law_33 (by rw [s_33_55]; decide) (by rw [s_33_55]; decide) (by first | (rw [s_33_55]; done) | (rw [s_33_55]; rfl)) (by decide) ?_
        refine lv_aload_n hx hb dL_law_1817 rfl (lv_at hl 1 rfl) ?_
        refine lv_aload_n hx hb dL_law_1818 rfl (lv_at hl 0 rfl) ?_
        refine lv_iload_n hx hb dL_law_1819 rfl (lv_at hl 3 rfl) ?_
        refine lv_iconst (v := 1) hx hb dL_law_1820 (by decide) ?_
        refine lv_iadd hx hb dL_law_1821 ?_
        refine ez_top h (fun t_1821 h => ?_)
        refine ez_sld hC hX hbl hS h dL_law_1822 (fun t_1822 h => ?_)
        refine ez_cVi (As := [.int t_1822]) (rest := []) h (fun _ q => c_X11_later q) hC k_X11_later ql_RL_241 rfl (by decide) hS (fun _ q => ez_rcv q) rfl hl.1 rfl (Nat.le_of_ble_eq_true rfl) ⟨Nat.le_trans (by decide) hR.1, Nat.le_trans (by decide) hR.2⟩ dL_law_1823 (fun t_1823 σ H locs hS h => ?_)
        refine lv_aload_n hx hb dL_law_1826 rfl (lv_at hl 2 rfl) ?_
        refine lv_aload_n hx hb dL_law_1827 rfl (lv_at hl 0 rfl) ?_
        refine lv_iload_n hx hb dL_law_1828 rfl (lv_at hl 3 rfl) ?_
        refine lv_iconst (v := 1) hx hb dL_law_1829 (by decide) ?_
        refine lv_iadd hx hb dL_law_1830 ?_
        refine ez_top h (fun t_1830 h => ?_)
        refine ez_sld hC hX hbl hS h dL_law_1831 (fun t_1831 h => ?_)
        refine ez_cVi (As := [.int t_1831]) (rest := [.int t_1823]) h (fun _ q => c_X12_later q) hC k_X12_later ql_RL_244 rfl (by decide) hS (fun _ q => ez_rcv q) rfl hl.1 rfl (Nat.le_of_ble_eq_true rfl) ⟨Nat.le_trans (by decide) hR.1, Nat.le_trans (by decide) hR.2⟩ dL_law_1832 (fun t_1832 σ H locs hS h => ?_)
        refine lv_icmp_eq (tgt := 1998) hx hb dL_law_1835 (by decide) (fun c_1835 => ?_) (fun c_1835 => ?_)
        · replace h := ez_ifp h c_1835
          exact K_1998 k_18 hk_18 σ h1 h2 x3 _ _ _ hS h (lv_sub hl [0, 1, 2, 3] rfl)
        · replace h := ez_ifn h c_1835
          refine lv_iconst (v := 0) hx hb dL_law_1838 (by decide) ?_
          exact hret _ _ _ _ _ _ (Option.some.inj h) hS dL_law_1839
      replace h := ez_ifn h s_33_55
      by_cases s_33_56 : t_32 = 56
      · replace h := ez_ifp h s_33_56
        refine lv_tableIn (tgt := 1840) hx hb dL_law_33 (by rw [s_33_56]; decide) (by rw [s_33_56]; decide) (by first | (rw [s_33_56]; done) | (rw [s_33_56]; rfl)) (by decide) ?_
        refine lv_aload_n hx hb dL_law_1840 rfl (lv_at hl 1 rfl) ?_
        refine lv_aload_n hx hb dL_law_1841 rfl (lv_at hl 0 rfl) ?_
        refine lv_iload_n hx hb dL_law_1842 rfl (lv_at hl 3 rfl) ?_
        refine lv_iconst (v := 1) hx hb dL_law_1843 (by decide) ?_
        refine lv_iadd hx hb dL_law_1844 ?_
        refine ez_top h (fun t_1844 h => ?_)
        refine ez_sld hC hX hbl hS h dL_law_1845 (fun t_1845 h => ?_)
        refine ez_cVi (As := [.int t_1845]) (rest := []) h (fun _ q => c_X11_fits q) hC k_X11_fits ql_RL_245 rfl (by decide) hS (fun _ q => ez_rcv q) rfl hl.1 rfl (Nat.le_of_ble_eq_true rfl) ⟨Nat.le_trans (by decide) hR.1, Nat.le_trans (by decide) hR.2⟩ dL_law_1846 (fun t_1846 σ H locs hS h => ?_)
        refine lv_pop hx hb dL_law_1849 rfl ?_
        refine lv_aload_n hx hb dL_law_1850 rfl (lv_at hl 2 rfl) ?_
        refine lv_aload_n hx hb dL_law_1851 rfl (lv_at hl 0 rfl) ?_
        refine lv_iload_n hx hb dL_law_1852 rfl (lv_at hl 3 rfl) ?_
        refine lv_iconst (v := 1) hx hb dL_law_1853 (by decide) ?_
        refine lv_iadd hx hb dL_law_1854 ?_
        refine ez_top h (fun t_1854 h => ?_)
        refine ez_sld hC hX hbl hS h dL_law_1855 (fun t_1855 h => ?_)
        refine ez_cVpi (As := [.int t_1855]) (rest := []) h (fun _ q => c_X12_fits q) hC k_X12_fits ql_RL_248 rfl (by decide) hS (fun _ q => ez_rcv q) rfl hl.1 rfl (Nat.le_of_ble_eq_true rfl) ⟨Nat.le_trans (by decide) hR.1, Nat.le_trans (by decide) hR.2⟩ dL_law_1856 (fun t_1856 H locs hS h => ?_)
        refine lv_pop hx hb dL_law_1859 rfl ?_
        refine lv_goto (tgt := 1998) hx hb dL_law_1860 (by decide) ?_
        exact K_1998 k_18 hk_18 σ h1 h2 x3 _ _ _ hS h (lv_sub hl [0, 1, 2, 3] rfl)
      replace h := ez_ifn h s_33_56
      by_cases s_33_57 : t_32 = 57
      · replace h := ez_ifp h s_33_57
        refine lv_tableIn (tgt := 1863) hx hb dL_law_33 (by rw [s_33_57]; decide) (by rw [s_33_57]; decide) (by first | (rw [s_33_57]; done) | (rw [s_33_57]; rfl)) (by decide) ?_
        refine lv_aload_n hx hb dL_law_1863 rfl (lv_at hl 1 rfl) ?_
        refine lv_aload_n hx hb dL_law_1864 rfl (lv_at hl 0 rfl) ?_
        refine lv_iload_n hx hb dL_law_1865 rfl (lv_at hl 3 rfl) ?_
        refine lv_iconst (v := 1) hx hb dL_law_1866 (by decide) ?_
        refine lv_iadd hx hb dL_law_1867 ?_
        refine ez_top h (fun t_1867 h => ?_)
        refine ez_sld hC hX hbl hS h dL_law_1868 (fun t_1868 h => ?_)
        refine lv_aload_n hx hb dL_law_1869 rfl (lv_at hl 0 rfl) ?_
        refine lv_iload_n hx hb dL_law_1870 rfl (lv_at hl 3 rfl) ?_
        refine lv_iconst (v := 2) hx hb dL_law_1871 (by decide) ?_
        refine lv_iadd hx hb dL_law_1872 ?_
        refine ez_top h (fun t_1872 h => ?_)
        refine ez_sld hC hX hbl hS h dL_law_1873 (fun t_1873 h => ?_)
        refine ez_cVi (As := [.int t_1868, .int t_1873]) (rest := []) h (fun _ q => c_X11_sure q) hC k_X11_sure ql_RL_249 rfl (by decide) hS (fun _ q => ez_rcv q) rfl hl.1 rfl (Nat.le_of_ble_eq_true rfl) ⟨Nat.le_trans (by decide) hR.1, Nat.le_trans (by decide) hR.2⟩ dL_law_1874 (fun t_1874 σ H locs hS h => ?_)
        refine lv_pop hx hb dL_law_1877 rfl ?_
        refine lv_aload_n hx hb dL_law_1878 rfl (lv_at hl 2 rfl) ?_
        refine lv_aload_n hx hb dL_law_1879 rfl (lv_at hl 0 rfl) ?_
        refine lv_iload_n hx hb dL_law_1880 rfl (lv_at hl 3 rfl) ?_
        refine lv_iconst (v := 1) hx hb dL_law_1881 (by decide) ?_
        refine lv_iadd hx hb dL_law_1882 ?_
        refine ez_top h (fun t_1882 h => ?_)
        refine ez_sld hC hX hbl hS h dL_law_1883 (fun t_1883 h => ?_)
        refine lv_aload_n hx hb dL_law_1884 rfl (lv_at hl 0 rfl) ?_
        refine lv_iload_n hx hb dL_law_1885 rfl (lv_at hl 3 rfl) ?_
        refine lv_iconst (v := 2) hx hb dL_law_1886 (by decide) ?_
        refine lv_iadd hx hb dL_law_1887 ?_
        refine ez_top h (fun t_1887 h => ?_)
        refine ez_sld hC hX hbl hS h dL_law_1888 (fun t_1888 h => ?_)
        refine ez_cVpi (As := [.int t_1883, .int t_1888]) (rest := []) h (fun _ q => c_X12_sure q) hC k_X12_sure ql_RL_252 rfl (by decide) hS (fun _ q => ez_rcv q) rfl hl.1 rfl (Nat.le_of_ble_eq_true rfl) ⟨Nat.le_trans (by decide) hR.1, Nat.le_trans (by decide) hR.2⟩ dL_law_1889 (fun t_1889 H locs hS h => ?_)
        refine lv_pop hx hb dL_law_1892 rfl ?_
        refine lv_goto (tgt := 1998) hx hb dL_law_1893 (by decide) ?_
        exact K_1998 k_18 hk_18 σ h1 h2 x3 _ _ _ hS h (lv_sub hl [0, 1, 2, 3] rfl)
      replace h := ez_ifn h s_33_57
      by_cases s_33_58 : t_32 = 58
      · replace h := ez_ifp h s_33_58
        refine lv_tableIn (tgt := 1896) hx hb dL_law_33 (by rw [s_33_58]; decide) (by rw [s_33_58]; decide) (by first | (rw [s_33_58]; done) | (rw [s_33_58]; rfl)) (by decide) ?_
        refine lv_aload_n hx hb dL_law_1896 rfl (lv_at hl 1 rfl) ?_
        refine lv_aload_n hx hb dL_law_1897 rfl (lv_at hl 0 rfl) ?_
        refine lv_iload_n hx hb dL_law_1898 rfl (lv_at hl 3 rfl) ?_
        refine lv_iconst (v := 1) hx hb dL_law_1899 (by decide) ?_
        refine lv_iadd hx hb dL_law_1900 ?_
        refine ez_top h (fun t_1900 h => ?_)
        refine ez_sld hC hX hbl hS h dL_law_1901 (fun t_1901 h => ?_)
        refine lv_aload_n hx hb dL_law_1902 rfl (lv_at hl 0 rfl) ?_
        refine lv_iload_n hx hb dL_law_1903 rfl (lv_at hl 3 rfl) ?_
        refine lv_iconst (v := 2) hx hb dL_law_1904 (by decide) ?_
        refine lv_iadd hx hb dL_law_1905 ?_
        refine ez_top h (fun t_1905 h => ?_)
        refine ez_sld hC hX hbl hS h dL_law_1906 (fun t_1906 h => ?_)
        refine ez_cVi (As := [.int t_1901, .int t_1906]) (rest := []) h (fun _ q => c_X11_ask q) hC k_X11_ask ql_RL_253 rfl (by decide) hS (fun _ q => ez_rcv q) rfl hl.1 rfl (Nat.le_of_ble_eq_true rfl) ⟨Nat.le_trans (by decide) hR.1, Nat.le_trans (by decide) hR.2⟩ dL_law_1907 (fun t_1907 σ H locs hS h => ?_)
        refine lv_pop hx hb dL_law_1910 rfl ?_
        refine lv_aload_n hx hb dL_law_1911 rfl (lv_at hl 2 rfl) ?_
        refine lv_aload_n hx hb dL_law_1912 rfl (lv_at hl 0 rfl) ?_
        refine lv_iload_n hx hb dL_law_1913 rfl (lv_at hl 3 rfl) ?_
        refine lv_iconst (v := 1) hx hb dL_law_1914 (by decide) ?_
        refine lv_iadd hx hb dL_law_1915 ?_
        refine ez_top h (fun t_1915 h => ?_)
        refine ez_sld hC hX hbl hS h dL_law_1916 (fun t_1916 h => ?_)
        refine lv_aload_n hx hb dL_law_1917 rfl (lv_at hl 0 rfl) ?_
        refine lv_iload_n hx hb dL_law_1918 rfl (lv_at hl 3 rfl) ?_
        refine lv_iconst (v := 2) hx hb dL_law_1919 (by decide) ?_
        refine lv_iadd hx hb dL_law_1920 ?_
        refine ez_top h (fun t_1920 h => ?_)
        refine ez_sld hC hX hbl hS h dL_law_1921 (fun t_1921 h => ?_)
        refine ez_cVpi (As := [.int t_1916, .int t_1921]) (rest := []) h (fun _ q => c_X12_ask q) hC k_X12_ask ql_RL_256 rfl (by decide) hS (fun _ q => ez_rcv q) rfl hl.1 rfl (Nat.le_of_ble_eq_true rfl) ⟨Nat.le_trans (by decide) hR.1, Nat.le_trans (by decide) hR.2⟩ dL_law_1922 (fun t_1922 H locs hS h => ?_)
        refine lv_pop hx hb dL_law_1925 rfl ?_
        refine lv_goto (tgt := 1998) hx hb dL_law_1926 (by decide) ?_
        exact K_1998 k_18 hk_18 σ h1 h2 x3 _ _ _ hS h (lv_sub hl [0, 1, 2, 3] rfl)
      replace h := ez_ifn h s_33_58
      by_cases s_33_59 : t_32 = 59
      · replace h := ez_ifp h s_33_59
        refine lv_tableIn (tgt := 1929) hx hb dL_law_33 (by rw [s_33_59]; decide) (by rw [s_33_59]; decide) (by first | (rw [s_33_59]; done) | (rw [s_33_59]; rfl)) (by decide) ?_
        refine lv_aload_n hx hb dL_law_1929 rfl (lv_at hl 1 rfl) ?_
        refine lv_aload_n hx hb dL_law_1930 rfl (lv_at hl 0 rfl) ?_
        refine lv_iload_n hx hb dL_law_1931 rfl (lv_at hl 3 rfl) ?_
        refine lv_iconst (v := 1) hx hb dL_law_1932 (by decide) ?_
        refine lv_iadd hx hb dL_law_1933 ?_
        refine ez_top h (fun t_1933 h => ?_)
        refine ez_sld hC hX hbl hS h dL_law_1934 (fun t_1934 h => ?_)
        refine ez_cVi (As := [.int t_1934]) (rest := []) h (fun _ q => c_X11_image q) hC k_X11_image ql_RL_257 rfl (by decide) hS (fun _ q => ez_rcv q) rfl hl.1 rfl (Nat.le_of_ble_eq_true rfl) ⟨Nat.le_trans (by decide) hR.1, Nat.le_trans (by decide) hR.2⟩ dL_law_1935 (fun t_1935 σ H locs hS h => ?_)
        refine lv_pop hx hb dL_law_1938 rfl ?_
        refine lv_aload_n hx hb dL_law_1939 rfl (lv_at hl 2 rfl) ?_
        refine lv_aload_n hx hb dL_law_1940 rfl (lv_at hl 0 rfl) ?_
        refine lv_iload_n hx hb dL_law_1941 rfl (lv_at hl 3 rfl) ?_
        refine lv_iconst (v := 1) hx hb dL_law_1942 (by decide) ?_
        refine lv_iadd hx hb dL_law_1943 ?_
        refine ez_top h (fun t_1943 h => ?_)
        refine ez_sld hC hX hbl hS h dL_law_1944 (fun t_1944 h => ?_)
        refine ez_cVi (As := [.int t_1944]) (rest := []) h (fun _ q => c_X12_image q) hC k_X12_image ql_RL_260 rfl (by decide) hS (fun _ q => ez_rcv q) rfl hl.1 rfl (Nat.le_of_ble_eq_true rfl) ⟨Nat.le_trans (by decide) hR.1, Nat.le_trans (by decide) hR.2⟩ dL_law_1945 (fun t_1945 σ H locs hS h => ?_)
        refine lv_pop hx hb dL_law_1948 rfl ?_
        refine lv_goto (tgt := 1998) hx hb dL_law_1949 (by decide) ?_
        exact K_1998 k_18 hk_18 σ h1 h2 x3 _ _ _ hS h (lv_sub hl [0, 1, 2, 3] rfl)
      replace h := ez_ifn h s_33_59
      by_cases s_33_60 : t_32 = 60
      · replace h := ez_ifp h s_33_60
        refine lv_tableIn (tgt := 1952) hx hb dL_law_33 (by rw [s_33_60]; decide) (by rw [s_33_60]; decide) (by first | (rw [s_33_60]; done) | (rw [s_33_60]; rfl)) (by decide) ?_
        refine lv_aload_n hx hb dL_law_1952 rfl (lv_at hl 1 rfl) ?_
        refine lv_aload_n hx hb dL_law_1953 rfl (lv_at hl 0 rfl) ?_
        refine lv_iload_n hx hb dL_law_1954 rfl (lv_at hl 3 rfl) ?_
        refine lv_iconst (v := 1) hx hb dL_law_1955 (by decide) ?_
        refine lv_iadd hx hb dL_law_1956 ?_
        refine ez_top h (fun t_1956 h => ?_)
        refine ez_sld hC hX hbl hS h dL_law_1957 (fun t_1957 h => ?_)
        refine ez_cVi (As := [.int t_1957]) (rest := []) h (fun _ q => c_X11_back q) hC k_X11_back ql_RL_261 rfl (by decide) hS (fun _ q => ez_rcv q) rfl hl.1 rfl (Nat.le_of_ble_eq_true rfl) ⟨Nat.le_trans (by decide) hR.1, Nat.le_trans (by decide) hR.2⟩ dL_law_1958 (fun t_1958 σ H locs hS h => ?_)
        refine lv_pop hx hb dL_law_1961 rfl ?_
        refine lv_aload_n hx hb dL_law_1962 rfl (lv_at hl 2 rfl) ?_
        refine lv_aload_n hx hb dL_law_1963 rfl (lv_at hl 0 rfl) ?_
        refine lv_iload_n hx hb dL_law_1964 rfl (lv_at hl 3 rfl) ?_
        refine lv_iconst (v := 1) hx hb dL_law_1965 (by decide) ?_
        refine lv_iadd hx hb dL_law_1966 ?_
        refine ez_top h (fun t_1966 h => ?_)
        refine ez_sld hC hX hbl hS h dL_law_1967 (fun t_1967 h => ?_)
        refine ez_cVi (As := [.int t_1967]) (rest := []) h (fun _ q => c_X12_back q) hC k_X12_back ql_RL_264 rfl (by decide) hS (fun _ q => ez_rcv q) rfl hl.1 rfl (Nat.le_of_ble_eq_true rfl) ⟨Nat.le_trans (by decide) hR.1, Nat.le_trans (by decide) hR.2⟩ dL_law_1968 (fun t_1968 σ H locs hS h => ?_)
        refine lv_pop hx hb dL_law_1971 rfl ?_
        refine lv_goto (tgt := 1998) hx hb dL_law_1972 (by decide) ?_
        exact K_1998 k_18 hk_18 σ h1 h2 x3 _ _ _ hS h (lv_sub hl [0, 1, 2, 3] rfl)
      replace h := ez_ifn h s_33_60
      by_cases s_33_61 : t_32 = 61
      · replace h := ez_ifp h s_33_61
        refine lv_tableIn (tgt := 1975) hx hb dL_law_33 (by rw [s_33_61]; decide) (by rw [s_33_61]; decide) (by first | (rw [s_33_61]; done) | (rw [s_33_61]; rfl)) (by decide) ?_
        refine lv_aload_n hx hb dL_law_1975 rfl (lv_at hl 1 rfl) ?_
        refine lv_aload_n hx hb dL_law_1976 rfl (lv_at hl 0 rfl) ?_
        refine lv_iload_n hx hb dL_law_1977 rfl (lv_at hl 3 rfl) ?_
        refine lv_iconst (v := 1) hx hb dL_law_1978 (by decide) ?_
        refine lv_iadd hx hb dL_law_1979 ?_
        refine ez_top h (fun t_1979 h => ?_)
        refine ez_sld hC hX hbl hS h dL_law_1980 (fun t_1980 h => ?_)
        refine ez_cVpi (As := [.int t_1980]) (rest := []) h (fun _ q => c_X11_about q) hC k_X11_about ql_RL_265 rfl (by decide) hS (fun _ q => ez_rcv q) rfl hl.1 rfl (Nat.le_of_ble_eq_true rfl) ⟨Nat.le_trans (by decide) hR.1, Nat.le_trans (by decide) hR.2⟩ dL_law_1981 (fun t_1981 H locs hS h => ?_)
        refine lv_pop hx hb dL_law_1984 rfl ?_
        refine lv_aload_n hx hb dL_law_1985 rfl (lv_at hl 2 rfl) ?_
        refine lv_aload_n hx hb dL_law_1986 rfl (lv_at hl 0 rfl) ?_
        refine lv_iload_n hx hb dL_law_1987 rfl (lv_at hl 3 rfl) ?_
        refine lv_iconst (v := 1) hx hb dL_law_1988 (by decide) ?_
        refine lv_iadd hx hb dL_law_1989 ?_
        refine ez_top h (fun t_1989 h => ?_)
        refine ez_sld hC hX hbl hS h dL_law_1990 (fun t_1990 h => ?_)
        refine ez_cVpi (As := [.int t_1990]) (rest := []) h (fun _ q => c_X12_about q) hC k_X12_about ql_RL_268 rfl (by decide) hS (fun _ q => ez_rcv q) rfl hl.1 rfl (Nat.le_of_ble_eq_true rfl) ⟨Nat.le_trans (by decide) hR.1, Nat.le_trans (by decide) hR.2⟩ dL_law_1991 (fun t_1991 H locs hS h => ?_)
        refine lv_pop hx hb dL_law_1994 rfl ?_
        refine lv_goto (tgt := 1998) hx hb dL_law_1995 (by decide) ?_
        exact K_1998 k_18 hk_18 σ h1 h2 x3 _ _ _ hS h (lv_sub hl [0, 1, 2, 3] rfl)
      replace h := ez_ifn h s_33_61
      have w_33 : Int32.toInt t_32 < 0 ∨ 61 < Int32.toInt t_32 := by
        have q_0 := ez_toNe (k := 0) s_33_0 (by decide)
        have q_1 := ez_toNe (k := 1) s_33_1 (by decide)
        have q_2 := ez_toNe (k := 2) s_33_2 (by decide)
        have q_3 := ez_toNe (k := 3) s_33_3 (by decide)
        have q_4 := ez_toNe (k := 4) s_33_4 (by decide)
        have q_5 := ez_toNe (k := 5) s_33_5 (by decide)
        have q_6 := ez_toNe (k := 6) s_33_6 (by decide)
        have q_7 := ez_toNe (k := 7) s_33_7 (by decide)
        have q_8 := ez_toNe (k := 8) s_33_8 (by decide)
        have q_9 := ez_toNe (k := 9) s_33_9 (by decide)
        have q_10 := ez_toNe (k := 10) s_33_10 (by decide)
        have q_11 := ez_toNe (k := 11) s_33_11 (by decide)
        have q_12 := ez_toNe (k := 12) s_33_12 (by decide)
        have q_13 := ez_toNe (k := 13) s_33_13 (by decide)
        have q_14 := ez_toNe (k := 14) s_33_14 (by decide)
        have q_15 := ez_toNe (k := 15) s_33_15 (by decide)
        have q_16 := ez_toNe (k := 16) s_33_16 (by decide)
        have q_17 := ez_toNe (k := 17) s_33_17 (by decide)
        have q_18 := ez_toNe (k := 18) s_33_18 (by decide)
        have q_19 := ez_toNe (k := 19) s_33_19 (by decide)
        have q_20 := ez_toNe (k := 20) s_33_20 (by decide)
        have q_21 := ez_toNe (k := 21) s_33_21 (by decide)
        have q_22 := ez_toNe (k := 22) s_33_22 (by decide)
        have q_23 := ez_toNe (k := 23) s_33_23 (by decide)
        have q_24 := ez_toNe (k := 24) s_33_24 (by decide)
        have q_25 := ez_toNe (k := 25) s_33_25 (by decide)
        have q_26 := ez_toNe (k := 26) s_33_26 (by decide)
        have q_27 := ez_toNe (k := 27) s_33_27 (by decide)
        have q_28 := ez_toNe (k := 28) s_33_28 (by decide)
        have q_29 := ez_toNe (k := 29) s_33_29 (by decide)
        have q_30 := ez_toNe (k := 30) s_33_30 (by decide)
        have q_31 := ez_toNe (k := 31) s_33_31 (by decide)
        have q_32 := ez_toNe (k := 32) s_33_32 (by decide)
        have q_33 := ez_toNe (k := 33) s_33_33 (by decide)
        have q_34 := ez_toNe (k := 34) s_33_34 (by decide)
        have q_35 := ez_toNe (k := 35) s_33_35 (by decide)
        have q_36 := ez_toNe (k := 36) s_33_36 (by decide)
        have q_37 := ez_toNe (k := 37) s_33_37 (by decide)
        have q_38 := ez_toNe (k := 38) s_33_38 (by decide)
        have q_39 := ez_toNe (k := 39) s_33_39 (by decide)
        have q_40 := ez_toNe (k := 40) s_33_40 (by decide)
        have q_41 := ez_toNe (k := 41) s_33_41 (by decide)
        have q_42 := ez_toNe (k := 42) s_33_42 (by decide)
        have q_43 := ez_toNe (k := 43) s_33_43 (by decide)
        have q_44 := ez_toNe (k := 44) s_33_44 (by decide)
        have q_45 := ez_toNe (k := 45) s_33_45 (by decide)
        have q_46 := ez_toNe (k := 46) s_33_46 (by decide)
        have q_47 := ez_toNe (k := 47) s_33_47 (by decide)
        have q_48 := ez_toNe (k := 48) s_33_48 (by decide)
        have q_49 := ez_toNe (k := 49) s_33_49 (by decide)
        have q_50 := ez_toNe (k := 50) s_33_50 (by decide)
        have q_51 := ez_toNe (k := 51) s_33_51 (by decide)
        have q_52 := ez_toNe (k := 52) s_33_52 (by decide)
        have q_53 := ez_toNe (k := 53) s_33_53 (by decide)
        have q_54 := ez_toNe (k := 54) s_33_54 (by decide)
        have q_55 := ez_toNe (k := 55) s_33_55 (by decide)
        have q_56 := ez_toNe (k := 56) s_33_56 (by decide)
        have q_57 := ez_toNe (k := 57) s_33_57 (by decide)
        have q_58 := ez_toNe (k := 58) s_33_58 (by decide)
        have q_59 := ez_toNe (k := 59) s_33_59 (by decide)
        have q_60 := ez_toNe (k := 60) s_33_60 (by decide)
        have q_61 := ez_toNe (k := 61) s_33_61 (by decide)
        omega
      refine lv_tableOut (tgt := 1998) hx hb dL_law_33 w_33 (by decide) ?_
      exact K_1998 k_18 hk_18 σ h1 h2 x3 _ _ _ hS h (lv_sub hl [0, 1, 2, 3] rfl)
  have E_18 : ∀ (σ : ez_H) (h1 : Nat) (h2 : Nat) (x3 : Int32) (H : Heap) (locs : List Loc) (ls : Array Slot), ez_S X B s.heap (217) σ H locs → (ez_fix (fun _ _ _ _ => none) (z_law_18 L xs) ez_N) σ h1 h2 x3 = some z → lv_has ls 4 [(0, .ref b), (1, .ref (B + h1)), (2, .ref (B + h2)), (3, .int x3)] → W p l e room_1 s m #[Value.ref b] below meth c H locs 217 20578 Q (F0 m 18 ls []) := ez_fix_ind (fun k_18 : ez_H → Nat → Nat → Int32 → Option (Int32 × ez_H) => ∀ (σ : ez_H) (h1 : Nat) (h2 : Nat) (x3 : Int32) (H : Heap) (locs : List Loc) (ls : Array Slot), ez_S X B s.heap (217) σ H locs → k_18 σ h1 h2 x3 = some z → lv_has ls 4 [(0, .ref b), (1, .ref (B + h1)), (2, .ref (B + h2)), (3, .int x3)] → W p l e room_1 s m #[Value.ref b] below meth c H locs 217 20578 Q (F0 m 18 ls [])) (fun _ _ _ _ _ _ _ _ h _ => by cases h) (fun k_18 hk_18 => K_18 k_18 hk_18) ez_N
  refine ez_new (ci := 11) (fs := [.inr (.inr none), .inl 0, .inr (.inr none), .inr (.inr none), .inr (.inr none), .inr (.inr none), .inr (.inr none), .inr (.inr none), .inr (.inr none), .inl 0, .inr (.inr none), .inr (.inr none), .inr (.inr none), .inr (.inr none), .inr (.inr none), .inr (.inr none)]) (c1 := 1) (s1 := 16) (n1 := 1) tyX11 hC hB hS hsz rfl inq_11 tyX11_ok qk_RL_7 qn_11 qi_11 (fun j hj => by rcases (show j = 0 ∨ j = 1 ∨ j = 2 ∨ j = 3 ∨ j = 4 ∨ j = 5 ∨ j = 6 ∨ j = 7 ∨ j = 8 ∨ j = 9 ∨ j = 10 ∨ j = 11 ∨ j = 12 ∨ j = 13 ∨ j = 14 ∨ j = 15 by omega) with rfl | rfl | rfl | rfl | rfl | rfl | rfl | rfl | rfl | rfl | rfl | rfl | rfl | rfl | rfl | rfl <;> rfl) rfl rfl rfl (Nat.le_trans (by decide) hR.1) (Nat.le_trans (by decide) hR.2) h dL_law_0 (fun t_0 σ H hS hsz h => ?_)
  refine lv_dup hx hb dL_law_3 rfl ?_
  refine ez_cI (As := []) (rest := [.ref (B + t_0)]) (n' := 0) (c1 := 170) (s1 := 10103) (n1 := 170) h (fun _ q => c_X11_init q) hC ki_X11_init rfl (by decide +kernel) ql_RL_9 rfl (by decide) hS (Nat.succ_pos _) hsz hl.1 rfl (Nat.le_of_ble_eq_true rfl) rfl rfl rfl ⟨Nat.le_trans (by decide) hR.1, Nat.le_trans (by decide) hR.2⟩ dL_law_4 (fun σ H locs hS hsz h => ?_)
  refine lv_astore_n (lv' := [(1, .ref (B + t_0)), (0, .ref b)]) hx hb dL_law_7 rfl hl (by decide) rfl (fun ls hl => ?_)
  refine ez_new (ci := 12) (fs := [.inr (.inr none), .inr (.inr none), .inl 0, .inl 0, .inl 0, .inl 0, .inl 0, .inl 0, .inl 0, .inl 0, .inr (.inl 0), .inr (.inr none), .inr (.inr none), .inr (.inr none), .inr (.inr none), .inr (.inr none), .inr (.inr none), .inr (.inr none), .inr (.inr none), .inr (.inr none), .inr (.inr none), .inr (.inr none), .inr (.inr none), .inr (.inr none), .inr (.inr none), .inr (.inr none), .inr (.inr none), .inr (.inr none), .inr (.inr none), .inr (.inr none), .inr (.inr none), .inr (.inr none), .inr (.inr none), .inr (.inr none), .inr (.inr none), .inr (.inr none), .inr (.inr none), .inr (.inr none), .inr (.inr none), .inr (.inr none), .inr (.inr none), .inr (.inr none), .inr (.inr none), .inl 0, .inl 0, .inl 0, .inl 0, .inl 0, .inl 0, .inl 0, .inl 0, .inl 0, .inl 0, .inr (.inr none), .inr (.inr none), .inr (.inr none), .inr (.inr none), .inl 0, .inr (.inr none), .inr (.inr none), .inl 0, .inl 0, .inr (.inr none), .inr (.inr none), .inr (.inr none), .inr (.inr none), .inl 0, .inl 0, .inr (.inr none), .inr (.inr none)]) (c1 := 171) (s1 := 10173) (n1 := 171) tyX12 hC hB hS hsz rfl inq_12 tyX12_ok qk_RL_10 qn_12 qi_12 (fun j hj => by rcases (show j = 0 ∨ j = 1 ∨ j = 2 ∨ j = 3 ∨ j = 4 ∨ j = 5 ∨ j = 6 ∨ j = 7 ∨ j = 8 ∨ j = 9 ∨ j = 10 ∨ j = 11 ∨ j = 12 ∨ j = 13 ∨ j = 14 ∨ j = 15 ∨ j = 16 ∨ j = 17 ∨ j = 18 ∨ j = 19 ∨ j = 20 ∨ j = 21 ∨ j = 22 ∨ j = 23 ∨ j = 24 ∨ j = 25 ∨ j = 26 ∨ j = 27 ∨ j = 28 ∨ j = 29 ∨ j = 30 ∨ j = 31 ∨ j = 32 ∨ j = 33 ∨ j = 34 ∨ j = 35 ∨ j = 36 ∨ j = 37 ∨ j = 38 ∨ j = 39 ∨ j = 40 ∨ j = 41 ∨ j = 42 ∨ j = 43 ∨ j = 44 ∨ j = 45 ∨ j = 46 ∨ j = 47 ∨ j = 48 ∨ j = 49 ∨ j = 50 ∨ j = 51 ∨ j = 52 ∨ j = 53 ∨ j = 54 ∨ j = 55 ∨ j = 56 ∨ j = 57 ∨ j = 58 ∨ j = 59 ∨ j = 60 ∨ j = 61 ∨ j = 62 ∨ j = 63 ∨ j = 64 ∨ j = 65 ∨ j = 66 ∨ j = 67 ∨ j = 68 ∨ j = 69 by omega) with rfl | rfl | rfl | rfl | rfl | rfl | rfl | rfl | rfl | rfl | rfl | rfl | rfl | rfl | rfl | rfl | rfl | rfl | rfl | rfl | rfl | rfl | rfl | rfl | rfl | rfl | rfl | rfl | rfl | rfl | rfl | rfl | rfl | rfl | rfl | rfl | rfl | rfl | rfl | rfl | rfl | rfl | rfl | rfl | rfl | rfl | rfl | rfl | rfl | rfl | rfl | rfl | rfl | rfl | rfl | rfl | rfl | rfl | rfl | rfl | rfl | rfl | rfl | rfl | rfl | rfl | rfl | rfl | rfl | rfl <;> rfl) rfl rfl rfl (Nat.le_trans (by decide) hR.1) (Nat.le_trans (by decide) hR.2) h dL_law_8 (fun t_8 σ H hS hsz h => ?_)
  refine lv_dup hx hb dL_law_11 rfl ?_
  refine ez_cI (As := []) (rest := [.ref (B + t_8)]) (n' := 0) (c1 := 217) (s1 := 20578) (n1 := 217) h (fun _ q => c_X12_init q) hC ki_X12_init rfl (by decide +kernel) ql_RL_12 rfl (by decide) hS (Nat.succ_pos _) hsz hl.1 rfl (Nat.le_of_ble_eq_true rfl) rfl rfl rfl ⟨Nat.le_trans (by decide) hR.1, Nat.le_trans (by decide) hR.2⟩ dL_law_12 (fun σ H locs hS hsz h => ?_)
  refine lv_astore_n (lv' := [(2, .ref (B + t_8)), (1, .ref (B + t_0)), (0, .ref b)]) hx hb dL_law_15 rfl hl (by decide) rfl (fun ls hl => ?_)
  refine lv_iconst (v := 0) hx hb dL_law_16 (by decide) ?_
  refine lv_istore_n (lv' := [(3, .int 0), (2, .ref (B + t_8)), (1, .ref (B + t_0)), (0, .ref b)]) hx hb dL_law_17 rfl hl (by decide) rfl (fun ls hl => ?_)
  exact E_18  σ t_0 t_8 (0 : Int32) _ _ _ hS h (lv_sub hl [3, 2, 1, 0] rfl)
