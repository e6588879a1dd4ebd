/-! ===== what is made ===== -/
theorem y_fl (L : List va_W) (x : Nat × va_E) : (L ++ [[x]]).flatten = L.flatten ++ [x] := by simp [List.flatten_append]
theorem y_new {Z : yZ} {g : yG} {R : Room} {k n : Nat} {L : List va_W} {lv : List (Nat × Value)} {st : List Value} {cc : ByteArray} {nL : Nat} {Ts : List Cond} {own : String} {pc : Nat} {index N ci : Nat} {Cn : String} {T : u_T} {fs : List Value} {ty0 : Nat → FieldType} (C : yC Z g cc nL Ts own) (hdg : decode cc pc = .ok (.new index, 3)) (hin : ∀ w ∈ u_ws Cn T N, w ∈ Ts) (hty : ∀ k, k < N → parseFieldDescriptor (T k).2.2.1 = some (ty0 k)) (hcl : Cond.classLink own index Cn ∈ Ts) (hinst : Cond.instantiable Cn N ∈ Ts) (hini : Cond.initialized Cn ∈ Ts) (hc : vwCl[ci]? = some (Cn, T, N)) (hfs : ∀ j, j < N → defaultValue (ty0 j) = vp_V fs j) (hcells : k + 1 ≤ R.cells) (hslots : n + N ≤ R.slots) (K : ∀ q : Nat, yJ Z R (k + 1) (n + N) (L ++ [[(q, .inr (ci, fs))]]) (pc + 3) lv (.ref q :: st)) : yJ Z R k n L pc lv st := by
  obtain ⟨p, l, e, s, m, args, below, meth, c, Q, D, tys, A, nL'⟩ := Z
  obtain ⟨rfl, rfl, rfl, rfl, hx, hb, hml, hown, hts, hlk, hK, hN, hA⟩ := C
  intro H locs ls hP hD hS hl
  exact va_new hx hb hts hin ty0 hty hown (hts _ hcl) (hts _ hinst) (hts _ hini) hK hP hD hS hA hc hfs hcells hslots hdg (fun q H1 hP1 hD1 hS1 => K q H1 locs ls (by rw [y_fl]; exact hP1) (by rw [y_fl]; exact hD1) hS1 hl)
theorem y_newI {Z : yZ} {g : yG} {R : Room} {k n : Nat} {L : List va_W} {lv : List (Nat × Value)} {st : List Value} {cc : ByteArray} {nL : Nat} {Ts : List Cond} {own : String} {pc : Nat} {i : Int32} {N : Nat} (C : yC Z g cc nL Ts own) (hdg : decode cc pc = .ok (.newarray .int, 2)) (harr : Cond.arrayClass .int ∈ Ts) (hi : i = nI N) (hN : N ≤ 100000) (hcells : k + 1 ≤ R.cells) (hslots : n + N ≤ R.slots) (K : ∀ q : Nat, yJ Z R (k + 1) (n + N) (L ++ [[(q, .inl (g.2.2.1, N, .inl (fun _ => 0)))]]) (pc + 2) lv (.ref q :: st)) : yJ Z R k n L pc lv (.int i :: st) := by
  subst hi
  obtain ⟨p, l, e, s, m, args, below, meth, c, Q, D, tys, A, nL'⟩ := Z
  obtain ⟨rfl, rfl, rfl, rfl, hx, hb, hml, hown, hts, hlk, hK, hNw, hA⟩ := C
  intro H locs ls hP hD hS hl
  refine va_newa (atype := .int) (ty := .int) (a0 := (N, .inl (fun _ => 0))) hx hb (hts _ harr) rfl hK hP hD hS hA (fun _ => rfl) (nI_pos (by omega)) (nI_clamp (by omega)) (by show N * 4 ≤ _; omega) hcells hslots hdg (fun q cA H1 hK1 hP1 hD1 hS1 => ?_)
  have e1 : s.vm.findClass ("[" ++ FieldType.int.toString) = some cA := (hK1.2 2 _ rfl).2
  have e2 : s.vm.findClass ("[" ++ FieldType.int.toString) = some g.2.2.1 := (hK.2 0 _ rfl).2
  have e : cA = g.2.2.1 := Option.some.inj (e1.symm.trans e2)
  subst e
  exact K q H1 locs ls (by rw [y_fl]; exact hP1) (by rw [y_fl]; exact hD1) hS1 hl
theorem y_anew {Z : yZ} {g : yG} {R : Room} {k n : Nat} {L : List va_W} {lv : List (Nat × Value)} {st : List Value} {cc : ByteArray} {nL : Nat} {Ts : List Cond} {own : String} {pc : Nat} {i : Int32} {N index : Nat} (C : yC Z g cc nL Ts own) (hdg : decode cc pc = .ok (.anewarray index, 3)) (hcl : Cond.classLink own index RX0 ∈ Ts) (hi : i = nI N) (hN : N ≤ 100000) (hcells : k + 1 ≤ R.cells) (hslots : n + N ≤ R.slots) (K : ∀ q : Nat, yJ Z R (k + 1) (n + N) (L ++ [[(q, .inl (g.2.2.2.2, N, .inr (.inr (.inr (.inr (fun _ => none))))))]]) (pc + 3) lv (.ref q :: st)) : yJ Z R k n L pc lv (.int i :: st) := by
  subst hi
  obtain ⟨p, l, e, s, m, args, below, meth, c, Q, D, tys, A, nL'⟩ := Z
  obtain ⟨rfl, rfl, rfl, rfl, hx, hb, hml, hown, hts, hlk, hK, hNw, hA⟩ := C
  intro H locs ls hP hD hS hl
  refine va_newq (C := RX0) hx hb hown (hts _ hcl) hNw.2 hK hP hD hS hA (nI_pos (by omega)) (nI_clamp (by omega)) (by omega) hcells hslots hdg (fun q cA H1 hK1 hP1 hD1 hS1 => ?_)
  obtain ⟨-, -, -, -, -, e1⟩ := (hK1.2 2 _ rfl).2
  obtain ⟨-, -, -, -, -, e2⟩ := (hK.2 1 _ rfl).2
  have e : cA = g.2.2.2.2 := Option.some.inj (e1.symm.trans e2)
  subst e
  exact K q H1 locs ls (by rw [y_fl]; exact hP1) (by rw [y_fl]; exact hD1) hS1 hl
