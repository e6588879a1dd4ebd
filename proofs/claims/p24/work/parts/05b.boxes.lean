/-! ===== whole objects as one block ===== -/
def dayW (g : yG) (A : Nat → Nat) (d : RV) (G : Nat → Nat → Int32) : va_W := (dayC A d :: dayR g A d G).flatten
def tabW (g : yG) (A : Nat → Nat) (d : RV) (G : Nat → Nat → Int32) : va_W := (tabC A d :: tabR g A d G).flatten
def padW (g : yG) (A : Nat → Nat) (d : RV) (G : Nat → Nat → Int32) : va_W := (padC A d :: padR g A d G).flatten
/-- a new day -/
def D0 : RV := (fun k => if k = 0 then [3, 10, 1] else [], fun _ => 0)
/-- the bus's own cell: its day, table, search, pad, history, slots -/
def mnC (x a t s p h l : Nat) : va_W := [(x, .inr (6, [.ref a, .ref t, .ref s, .ref p, .ref h, .ref l]))]
