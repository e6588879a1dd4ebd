/-! ===== what the cells hold: rows as lists (what lies behind a list's end is hidden), days, timetables, the reference ===== -/
def rowf (xs : List Int32) (g : Nat → Int32) : Nat → Int32 := fun j => xs.getD j (g j)
/-- a Row of room cap that holds xs; where xs is too long there is no such world -/
def rowW (cI : ClassId) (r a cap : Nat) (xs : List Int32) (g : Nat → Int32) : va_W := if xs.length ≤ cap then [(r, .inr (3, [.ref a, .int (nI xs.length)])), (a, .inl (cI, cap, .inl (rowf xs g)))] else [(r, .inr (3, [])), (r, .inr (3, []))]
theorem rowW_len {cI : ClassId} {r a cap : Nat} {xs : List Int32} {g : Nat → Int32} {A : Nat → Prop} (h : va_D A (rowW cI r a cap xs g)) : xs.length ≤ cap := by
  unfold rowW at h
  split at h
  · assumption
  · exact absurd (h.1 0 1 _ _ rfl rfl rfl) (by decide)
theorem rowW_pos {cI : ClassId} {r a cap : Nat} {xs : List Int32} {g : Nat → Int32} (h : xs.length ≤ cap) : rowW cI r a cap xs g = [(r, .inr (3, [.ref a, .int (nI xs.length)])), (a, .inl (cI, cap, .inl (rowf xs g)))] := if_pos h
theorem rowW_recv {cI : ClassId} {r a cap : Nat} {xs : List Int32} {g : Nat → Int32} {B : List va_W} (hB : ∃ B', B = rowW cI r a cap xs g :: B') : yRecv B r RX3 := by
  obtain ⟨B', rfl⟩ := hB
  intro D A H _ hD
  have hl : xs.length ≤ cap := rowW_len (yD_app hD).1
  refine ⟨0, 3, [.ref a, .int (nI xs.length)], (RX3, TX3, 2), ?_, rfl, rfl⟩
  rw [List.flatten_cons, rowW_pos hl]
  rfl
/-- rows and numbers -/
abbrev RV : Type := (Nat → List Int32) × (Nat → Int32)
def rvR (v : RV) (k : Nat) (xs : List Int32) : RV := (fun j => if j = k then xs else v.1 j, v.2)
def rvI (v : RV) (k : Nat) (x : Int32) : RV := (v.1, fun j => if j = k then x else v.2 j)
def gs (G : Nat → Nat → Int32) (k : Nat) (g : Nat → Int32) : Nat → Nat → Int32 := fun j => if j = k then g else G j
def dayC (A : Nat → Nat) (d : RV) : va_W := [(A 0, .inr (0, [.ref (A 1), .ref (A 3), .ref (A 5), .ref (A 7), .ref (A 9), .ref (A 11), .ref (A 13), .ref (A 15), .ref (A 17), .ref (A 19), .ref (A 21), .ref (A 23), .int (d.2 0), .int (d.2 1), .int (d.2 2)]))]
def dayR (g : yG) (A : Nat → Nat) (d : RV) (G : Nat → Nat → Int32) : List va_W := [rowW g.2.2.1 (A 1) (A 2) 3 (d.1 0) (G 0), rowW g.2.2.1 (A 3) (A 4) 12 (d.1 1) (G 1), rowW g.2.2.1 (A 5) (A 6) 12 (d.1 2) (G 2), rowW g.2.2.1 (A 7) (A 8) 17 (d.1 3) (G 3), rowW g.2.2.1 (A 9) (A 10) 17 (d.1 4) (G 4), rowW g.2.2.1 (A 11) (A 12) 17 (d.1 5) (G 5), rowW g.2.2.1 (A 13) (A 14) 17 (d.1 6) (G 6), rowW g.2.2.1 (A 15) (A 16) 17 (d.1 7) (G 7), rowW g.2.2.1 (A 17) (A 18) 17 (d.1 8) (G 8), rowW g.2.2.1 (A 19) (A 20) 17 (d.1 9) (G 9), rowW g.2.2.1 (A 21) (A 22) 17 (d.1 10) (G 10), rowW g.2.2.1 (A 23) (A 24) 34 (d.1 11) (G 11)]
def tabC (A : Nat → Nat) (d : RV) : va_W := [(A 0, .inr (5, [.ref (A 1), .ref (A 3), .ref (A 5), .ref (A 7), .ref (A 9), .int (d.2 0), .int (d.2 1), .int (d.2 2), .int (d.2 3), .int (d.2 4)]))]
def tabR (g : yG) (A : Nat → Nat) (d : RV) (G : Nat → Nat → Int32) : List va_W := [rowW g.2.2.1 (A 1) (A 2) 34 (d.1 0) (G 0), rowW g.2.2.1 (A 3) (A 4) 34 (d.1 1) (G 1), rowW g.2.2.1 (A 5) (A 6) 34 (d.1 2) (G 2), rowW g.2.2.1 (A 7) (A 8) 17 (d.1 3) (G 3), rowW g.2.2.1 (A 9) (A 10) 17 (d.1 4) (G 4)]
def padC (A : Nat → Nat) (d : RV) : va_W := [(A 0, .inr (2, [.ref (A 1), .ref (A 3)]))]
def padR (g : yG) (A : Nat → Nat) (d : RV) (G : Nat → Nat → Int32) : List va_W := [rowW g.2.2.1 (A 1) (A 2) 60 (d.1 0) (G 0), rowW g.2.2.1 (A 3) (A 4) 31 (d.1 1) (G 1)]
/-- a Search: its own cell; its day at a, its table at t -/
def seaC (s a t : Nat) (d : RV) : va_W := [(s, .inr (4, [.ref a, .ref t, .int (d.2 0), .int (d.2 1), .int (d.2 2), .int (d.2 3), .int (d.2 4), .int (d.2 5), .int (d.2 6)]))]
/-- the reference: numbers by field, arrays by field -/
abbrev MV : Type := (Nat → Int32) × (Nat → Nat → Int32)
def mI (v : MV) (k : Nat) (x : Int32) : MV := (fun j => if j = k then x else v.1 j, v.2)
def mA (v : MV) (k : Nat) (i : Nat) (x : Int32) : MV := (v.1, fun j => if j = k then upd (v.2 k) i x else v.2 j)
def modW (g : yG) (A : Nat → Nat) (d : MV) : va_W := [(A 0, .inr (7, [.int (d.1 0), .ref (A 1), .ref (A 2), .ref (A 3), .int (d.1 4), .ref (A 4), .ref (A 5), .ref (A 6), .int (d.1 8), .ref (A 7), .int (d.1 10), .ref (A 8), .ref (A 9), .ref (A 10), .int (d.1 14), .int (d.1 15), .int (d.1 16), .int (d.1 17), .int (d.1 18), .int (d.1 19), .int (d.1 20), .int (d.1 21), .int (d.1 22), .int (d.1 23), .ref (A 11), .int (d.1 25)])), (A 1, .inl (g.2.2.1, 186, .inl (d.2 1))), (A 2, .inl (g.2.2.1, 186, .inl (d.2 2))), (A 3, .inl (g.2.2.1, 1116, .inl (d.2 3))), (A 4, .inl (g.2.2.1, 372, .inl (d.2 5))), (A 5, .inl (g.2.2.2.1, 2, .inl (d.2 6))), (A 6, .inl (g.2.2.1, 60, .inl (d.2 7))), (A 7, .inl (g.2.2.1, 36, .inl (d.2 9))), (A 8, .inl (g.2.2.1, 36, .inl (d.2 11))), (A 9, .inl (g.2.2.1, 36, .inl (d.2 12))), (A 10, .inl (g.2.2.1, 36, .inl (d.2 13))), (A 11, .inl (g.2.2.1, 64, .inl (d.2 24)))]
/-! ===== what the Row's methods do to a list ===== -/
def rAt (xs : List Int32) (p : Int32) : Int32 := if p < 0 then 0 else xs.getD p.toNatClampNeg 0
def rLen (xs : List Int32) : Int32 := nI xs.length
def rSet (xs : List Int32) (p v : Int32) : List Int32 := if p < 0 then xs else xs.set p.toNatClampNeg v
def rIns (cap : Nat) (xs : List Int32) (p v : Int32) : List Int32 := if p < 0 ∨ xs.length < p.toNatClampNeg ∨ cap ≤ xs.length then xs else xs.take p.toNatClampNeg ++ v :: xs.drop p.toNatClampNeg
def rAdd (cap : Nat) (xs : List Int32) (v : Int32) : List Int32 := if cap ≤ xs.length then xs else xs ++ [v]
def rDel (xs : List Int32) (p : Int32) : List Int32 := if p < 0 then xs else xs.eraseIdx p.toNatClampNeg
def rCopy (cap : Nat) (xs : List Int32) : List Int32 := xs.take cap
