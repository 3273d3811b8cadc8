section JRNE
variable {p : Program} {l : Launch} {e : Env} {R0 : Room} {s : State} {m : MethodId} {args : Array Value} {below : List Frame} {meth : Method} {c : Code} {H : Heap} {locs : List Loc} {cells slots : Nat} {Qf : State → Prop}
variable {cc : ByteArray} {nL base : Nat} {D : va_G} {cA : Nat → ClassId} {g : Nat → Nat → Nat} {M : jM} {pc : Nat} {ls : Array Slot}
variable {Q : Int32 → Nat → jM → Prop} {X : String → jM → Prop} {rk mc0 ms0 : Nat}
/-- throw new NoSuchElementException("text"): its constructor has another pool: NOT PROVED YET -/
theorem jr_throwNE (C : jCx p l s m args meth c RX11 cc nL D cA base g) (htb : ∀ x ∈ c.exceptionTable.toList, False) (G : jG base D cA g M s H locs) {text : String} {is : Nat} (h : X "java/util/NoSuchElementException" M) (k : Nat) (hk : jStrs[k]? = some (RX11, is, text))
    (hf : 5 < R0.frames) (hlo : 82 ≤ R0.locals) (hc : cells + 1 ≤ R0.cells) (hs : slots + 6 ≤ R0.slots) (hc0 : cells + 1 ≤ mc0) (hs0 : slots + 6 ≤ ms0) (hsz : ls.size = nL)
    (d0 : decode cc pc = .ok (.new 230, 3)) (d3 : decode cc (pc + 3) = .ok (.dup, 1)) (d4 : decode cc (pc + 4) = .ok (.ldc is, 2)) (d6 : decode cc (pc + 6) = .ok (.invokespecial 234, 3)) (d9 : decode cc (pc + 9) = .ok (.athrow, 1)) :
    W p l e R0 s m args below meth c H locs cells slots (vx_MQ below (jQ rk Q base D cA g) (jXC X base D cA g) args s mc0 ms0 (jA base)) (F0 m pc ls []) := by
  sorry
theorem jr_throwWNE (C : jCx p l s m args meth c RX11 cc nL D cA base g) (htb : ∀ x ∈ c.exceptionTable.toList, False) (G : jG base D cA g M s H locs) {text : String} {is : Nat} (h : X "java/util/NoSuchElementException" M) (k : Nat) (hk : jStrs[k]? = some (RX11, is, text))
    (hf : 5 < R0.frames) (hlo : 82 ≤ R0.locals) (hc : cells + 1 ≤ R0.cells) (hs : slots + 6 ≤ R0.slots) (hc0 : cells + 1 ≤ mc0) (hs0 : slots + 6 ≤ ms0) (hsz : ls.size = nL)
    (d0 : decode cc pc = .ok (.new 230, 3)) (d3 : decode cc (pc + 3) = .ok (.dup, 1)) (d4 : decode cc (pc + 4) = .ok (.ldc_w is, 3)) (d7 : decode cc (pc + 7) = .ok (.invokespecial 234, 3)) (d10 : decode cc (pc + 10) = .ok (.athrow, 1)) :
    W p l e R0 s m args below meth c H locs cells slots (vx_MQ below (jQ rk Q base D cA g) (jXC X base D cA g) args s mc0 ms0 (jA base)) (F0 m pc ls []) := by
  sorry
end JRNE
