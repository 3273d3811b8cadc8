section JRB
variable {p : Program} {l : Launch} {e : Env} {R0 : Room} {s : State} {m : MethodId} {args : Array Value} {below : List Frame} {meth : Method} {c : Code} {H : Heap} {locs : List Loc} {cells slots : Nat} {Qf : State → Prop}
variable {cc : ByteArray} {nL base d' : Nat} {D : va_G} {cA : Nat → ClassId} {g : Nat → Nat → Nat} {M : jM} {pc : Nat} {ls : Array Slot} {rest : List Value}
/-- new Body(): NOT PROVED YET -/
theorem jr_newBody (C : jCx p l s m args meth c RX8 cc nL D cA base g) (G : jG base D cA g M s H locs) (hnb : jnb M + 1 < 2 ^ 31) (hc : cells + 15 ≤ R0.cells) (hs : slots + 361 ≤ R0.slots) (hR0 : R0.frames = d' ∧ R0.locals = 50 * d') (hd : 3 ≤ d') (hsz : ls.size = nL) (hrest : (rest.map fun v => v.category).sum ≤ 6)
    (d0 : decode cc pc = .ok (.new 25, 3)) (d3 : decode cc (pc + 3) = .ok (.dup, 1)) (d4 : decode cc (pc + 4) = .ok (.invokespecial 27, 3))
    (kk : ∀ (g1 : Nat → Nat → Nat) (H : Heap) (locs : List Loc), jX (jnb M) g g1 → jG base D cA g1 (jnB M) s H locs → W p l e R0 s m args below meth c H locs (cells + 15) (slots + 361) Qf (F0 m (pc + 7) ls (.ref (g1 0 (jnb M)) :: rest))) : W p l e R0 s m args below meth c H locs cells slots Qf (F0 m pc ls rest) := by
  sorry
end JRB
