/-! ===== one row more ===== -/
theorem y_lstore_n {Z : yZ} {g : yG} {R : Room} {k n : Nat} {L : List va_W} {lv : List (Nat × Value)} {st : List Value} {cc : ByteArray} {nL : Nat} {Ts : List Cond} {own : String} {pc : Nat} {q : Fin 4} {i : Nat} {x : Int64} {lv' : List (Nat × Value)} (C : yC Z g cc nL Ts own) (hdg : decode cc pc = .ok (.lstore_n q, 1)) (hq : (q : Nat) = i) (hn : i + 1 < nL) (hl' : (i, Value.long x) :: lv.filter (fun q => !(q.1 == i) && (!(q.1 == i + 1) && !(q.1 + 1 == i && q.2.category == 2))) = lv') (K : yJ Z R k n L (pc + 1) lv' (st)) : yJ Z R k n L pc lv (.long x :: st) := by
  obtain ⟨p, l, e, s, m, args, below, meth, c, Q, D, tys, A, nL'⟩ := Z
  obtain ⟨rfl, rfl, rfl, rfl, hx, hb, hml, hown, hts, hlk, hK, hN, hA⟩ := C
  intro H locs ls hP hD hS hl
  exact lv_lstore_n hx hb hdg hq hl hn hl' (fun ls' hl' => K H locs ls' hP hD hS hl')
