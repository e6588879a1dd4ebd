/-! ===== rows that the reference needs besides ===== -/
theorem y_dup2 {Z : yZ} {g : yG} {R : Room} {k n : Nat} {L : List va_W} {lv : List (Nat × Value)} {st : List Value} {cc : ByteArray} {nL : Nat} {Ts : List Cond} {own : String} {pc : Nat} {va vb : Value} (C : yC Z g cc nL Ts own) (hdg : decode cc pc = .ok (.dup2, 1)) (hva : va.category = 1) (hvb : vb.category = 1) (K : yJ Z R k n L (pc + 1) lv (va :: vb :: va :: vb :: st)) : yJ Z R k n L pc lv (va :: vb :: st) := by
  obtain ⟨p, l, e, s, m, args, below, meth, c, Q, D, tys, A, nL'⟩ := Z
  obtain ⟨rfl, rfl, rfl, rfl, hx, hb, hml, hown, hts, hlk, hK, hN, hA⟩ := C
  intro H locs ls hP hD hS hl
  exact lv_dup2_11 hx hb hdg hva hvb (K H locs ls hP hD hS hl)
