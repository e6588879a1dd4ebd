/-! ===== the contracts of the slots' methods, told as the others ===== -/
theorem k_X6_save (g : yG) (x rt rs rp rh : Nat) (A : Nat → Nat) (d : RV) (G : Nat → Nat → Int32) (sl : Nat) (o : SL × SL) (i : Int32) : yM g yX6_save wsX6_save ({ frames := 3, cells := 25, slots := 236, locals := 140 } : Room) [.ref x, .int i] ([mnC x (A 0) rt rs rp rh sl, dayC A d] ++ (dayR g A d G ++ [slW g sl o.1 o.2]) : List va_W) (fun r w => ∃ o' : SL × SL, (r, slA o'.1, slA o'.2) = fSave (slA o.1) (slA o.2) d i ∧ w = ([mnC x (A 0) rt rs rp rh sl, dayC A d] ++ (dayR g A d G ++ [slW g sl o'.1 o'.2]) : List va_W)) 25 236 :=
  yM.conv (c_X6_save g x rt rs rp rh sl A d G o.1 o.2 i) rfl (fun r w h => by
    obtain ⟨a, b, h1, h2⟩ := h
    exact ⟨w, rfl, (a, b), h1, h2⟩)
theorem k_X6_restore (g : yG) (x rt rs rp : Nat) (A : Nat → Nat) (d : RV) (G : Nat → Nat → Int32) (hst arr : Nat) (xs : List RV) (R : HRt) (sl : Nat) (o : SL × SL) (i : Int32) : yM g yX6_restore wsX6_restore ({ frames := 4, cells := 25, slots := 236, locals := 142 } : Room) [.ref x, .int i] ([mnC x (A 0) rt rs rp hst sl, dayC A d] ++ (dayR g A d G ++ ([histW g hst arr xs R] ++ [slW g sl o.1 o.2])) : List va_W) (fun r w => ∃ (d' : RV) (xs' : List RV) (G' : Nat → Nat → Int32) (R' : HRt), (r, d', xs') = fRestore (slA o.1) (slA o.2) d xs i ∧ w = ([mnC x (A 0) rt rs rp hst sl, dayC A d'] ++ (dayR g A d' G' ++ ([histW g hst arr xs' R'] ++ [slW g sl o.1 o.2])) : List va_W)) 25 236 :=
  yM.conv (c_X6_restore g x rt rs rp sl A d G hst arr xs R o.1 o.2 i) rfl (fun r w h => by
    obtain ⟨d', G', xs', R', h1, h2⟩ := h
    exact ⟨w, rfl, d', xs', G', R', h1, h2⟩)
theorem k_X6_undo (g : yG) (x rt rs rp rl : Nat) (A : Nat → Nat) (d : RV) (G : Nat → Nat → Int32) (hst arr : Nat) (xs : List RV) (R : HRt) : yM g yX6_undo wsX6_undo ({ frames := 4, cells := 0, slots := 0, locals := 86 } : Room) [.ref x] ([mnC x (A 0) rt rs rp hst rl, dayC A d] ++ (dayR g A d G ++ [histW g hst arr xs R]) : List va_W) (fun r w => ∃ (d' : RV) (xs' : List RV) (G' : Nat → Nat → Int32) (R' : HRt), (r, d', xs') = fUndo d xs ∧ w = ([mnC x (A 0) rt rs rp hst rl, dayC A d'] ++ (dayR g A d' G' ++ [histW g hst arr xs' R']) : List va_W)) 0 0 :=
  yM.conv (c_X6_undo g x rt rs rp rl A d G hst arr xs R) rfl (fun r w h => by
    obtain ⟨d', G', xs', R', h1, h2⟩ := h
    exact ⟨w, rfl, d', xs', G', R', h1, h2⟩)
