/-! ===== the law: its script, its words ===== -/
def ySc : yZ → Nat → Nat → (Nat → Int32) → Prop
  | (_, _, _, s, _, _, _, _, _, _, _, _, A, _), b, L, sx => va_X b L sx s s.heap ∧ b < s.heap.size ∧ ¬ A b
theorem y_sld {Z : yZ} {g : yG} {R : Room} {k n : Nat} {W0 : List va_W} {lv : List (Nat × Value)} {st : List Value} {cc : ByteArray} {nL : Nat} {Ts : List Cond} {own : String} {pc b L : Nat} {sx : Nat → Int32} {i : Int32} (C : yC Z g cc nL Ts own) (HX : ySc Z b L sx) (hdg : decode cc pc = .ok (.iaload, 1)) (hin : vp_in i L) (K : yJ Z R k n W0 (pc + 1) lv (.int (sx i.toNatClampNeg) :: st)) : yJ Z R k n W0 pc lv (.int i :: .ref b :: st) := by
  obtain ⟨p, l, e, s, m, args, below, meth, c, Q, D, tys, A, nL'⟩ := Z
  obtain ⟨rfl, rfl, rfl, rfl, hx, hb, hml, hown, hts, hlk, hK, hN, hA⟩ := C
  obtain ⟨h1, h2, h3⟩ := HX
  intro H locs ls hP hD hS hl
  exact va_sld hx hb h1 h2 h3 hS hin hdg (K H locs ls hP hD hS hl)
theorem y_slen {Z : yZ} {g : yG} {R : Room} {k n : Nat} {W0 : List va_W} {lv : List (Nat × Value)} {st : List Value} {cc : ByteArray} {nL : Nat} {Ts : List Cond} {own : String} {pc b L : Nat} {sx : Nat → Int32} (C : yC Z g cc nL Ts own) (HX : ySc Z b L sx) (hdg : decode cc pc = .ok (.arraylength, 1)) (K : yJ Z R k n W0 (pc + 1) lv (.int (nI L) :: st)) : yJ Z R k n W0 pc lv (.ref b :: st) := by
  obtain ⟨p, l, e, s, m, args, below, meth, c, Q, D, tys, A, nL'⟩ := Z
  obtain ⟨rfl, rfl, rfl, rfl, hx, hb, hml, hown, hts, hlk, hK, hN, hA⟩ := C
  obtain ⟨h1, h2, h3⟩ := HX
  intro H locs ls hP hD hS hl
  exact va_slen hx hb h1 h2 h3 hS hdg (K H locs ls hP hD hS hl)
/-! ===== the contracts of the slots' methods, told as the others ===== -/
theorem k_X6_save (g : yG) (x rt rs rp rh : Nat) (A : Nat → Nat) (d : RV) (G : Nat → Nat → Int32) (sl : Nat) (o : SL × SL) (i : Int32) : yM g yX6_save wsX6_save ({ frames := 3, cells := 25, slots := 236, locals := 140 } : Room) [.ref x, .int i] ([mnC x (A 0) rt rs rp rh sl, dayC A d] ++ (dayR g A d G ++ [slW g sl o.1 o.2]) : List va_W) (fun r w => ∃ o' : SL × SL, (r, slA o'.1, slA o'.2) = fSave (slA o.1) (slA o.2) d i ∧ w = ([mnC x (A 0) rt rs rp rh sl, dayC A d] ++ (dayR g A d G ++ [slW g sl o'.1 o'.2]) : List va_W)) 25 236 :=
  yM.conv (c_X6_save g x rt rs rp rh sl A d G o.1 o.2 i) rfl (fun r w h => by
    obtain ⟨a, b, h1, h2⟩ := h
    exact ⟨w, rfl, (a, b), h1, h2⟩)
theorem k_X6_restore (g : yG) (x rt rs rp : Nat) (A : Nat → Nat) (d : RV) (G : Nat → Nat → Int32) (hst arr : Nat) (xs : List RV) (R : HRt) (sl : Nat) (o : SL × SL) (i : Int32) : yM g yX6_restore wsX6_restore ({ frames := 4, cells := 25, slots := 236, locals := 142 } : Room) [.ref x, .int i] ([mnC x (A 0) rt rs rp hst sl, dayC A d] ++ (dayR g A d G ++ ([histW g hst arr xs R] ++ [slW g sl o.1 o.2])) : List va_W) (fun r w => ∃ (d' : RV) (xs' : List RV) (G' : Nat → Nat → Int32) (R' : HRt), (r, d', xs') = fRestore (slA o.1) (slA o.2) d xs i ∧ w = ([mnC x (A 0) rt rs rp hst sl, dayC A d'] ++ (dayR g A d' G' ++ ([histW g hst arr xs' R'] ++ [slW g sl o.1 o.2])) : List va_W)) 25 236 :=
  yM.conv (c_X6_restore g x rt rs rp sl A d G hst arr xs R o.1 o.2 i) rfl (fun r w h => by
    obtain ⟨d', G', xs', R', h1, h2⟩ := h
    exact ⟨w, rfl, d', xs', G', R', h1, h2⟩)
theorem k_X6_undo (g : yG) (x rt rs rp rl : Nat) (A : Nat → Nat) (d : RV) (G : Nat → Nat → Int32) (hst arr : Nat) (xs : List RV) (R : HRt) : yM g yX6_undo wsX6_undo ({ frames := 4, cells := 0, slots := 0, locals := 86 } : Room) [.ref x] ([mnC x (A 0) rt rs rp hst rl, dayC A d] ++ (dayR g A d G ++ [histW g hst arr xs R]) : List va_W) (fun r w => ∃ (d' : RV) (xs' : List RV) (G' : Nat → Nat → Int32) (R' : HRt), (r, d', xs') = fUndo d xs ∧ w = ([mnC x (A 0) rt rs rp hst rl, dayC A d'] ++ (dayR g A d' G' ++ [histW g hst arr xs' R']) : List va_W)) 0 0 :=
  yM.conv (c_X6_undo g x rt rs rp rl A d G hst arr xs R) rfl (fun r w h => by
    obtain ⟨d', G', xs', R', h1, h2⟩ := h
    exact ⟨w, rfl, d', xs', G', R', h1, h2⟩)
