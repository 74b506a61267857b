/-- a row of so many rows of longs: the outer one first -/
def ez_mn {β : Type} (σ : ez_H) (A N : Nat) (g : Nat → ez_H → Option β) : Option β := g σ.length (σ ++ (.inr (.inr (.inl (5, A, (List.range A).map (fun i => (i, some (σ.length + 1 + i))))))) :: List.replicate A (.inr (.inl (N, []))))
section EZM
variable {p : Program} {l : Launch} {e : Env} {R : Room} {s : State} {m : MethodId} {args : Array Value} {below : List Frame} {meth : Method} {c : Code} {H : Heap} {locs : List Loc} {cells slots : Nat} {Q : State → Prop}
variable {cc : ByteArray} {pc : Nat} {ls : Array Slot} {rest : List Value} {X : ez_X} {B : Nat} {a : Nat} {own : String} {nL h : Nat} {H0 : Heap} {n c1 s1 n1 : Nat} {σ : ez_H} {β : Type} {z : β}
theorem ez_mna {N1 N2 index : Nat} {x1 x2 : Int32} (hC : ez_C p R s m args c X B own cc nL h) (hB : B ≤ s.heap.size) (hS : ez_S X B s.heap n σ H locs) (hsz : s.heap.size + cells = B + n) (hlk : Cond.classLink own index "[[J" ∈ tq_tbl) (ec : cells + (1 + N1) = c1) (es : slots + (N1 + N1 * N2) = s1) (en : n + (1 + N1) = n1) (hcells : c1 ≤ R.cells) (hslots : s1 ≤ R.slots) {g : Nat → ez_H → Option β} (h : ez_mn σ N1 N2 g = some z) (hdg : decode cc pc = .ok (.multianewarray index 2, 4))
    (kk : ∀ (a : Nat) (σ1 : ez_H) (H1 : Heap), ez_S X B s.heap n1 σ1 H1 locs → s.heap.size + c1 = B + n1 → g a σ1 = some z → W p l e R s m args below meth c H1 locs c1 s1 Q (F0 m (pc + 4) ls (.ref (B + a) :: rest))) : W p l e R s m args below meth c H locs cells slots Q (F0 m pc ls (.int x2 :: .int x1 :: rest)) := by
  sorry
end EZM
