/-! ===== the history: rooms for days, of which the first ones are taken ===== -/
abbrev HR : Type := List ((Nat → Nat) × RV × (Nat → Nat → Int32))
def rmF (R : HR) : Nat → Option Nat := fun j => (R[j]?).map (fun x => x.1 0)
def rmW (g : yG) (R : HR) : va_W := (R.map (fun x => dayW g x.1 x.2.1 x.2.2)).flatten
def hcC (h arr : Nat) (n : Int32) : va_W := [(h, .inr (1, [.ref arr, .int n]))]
def acC (g : yG) (arr N : Nat) (f : Nat → Option Nat) : va_W := [(arr, .inl (g.2.2.2.2, N, .inr (.inr (.inr (.inr f)))))]
def hOk (xs : List RV) (R : HR) : Prop := xs.length ≤ R.length ∧ R.length ≤ 6 ∧ xs = (R.take xs.length).map (fun x => x.2.1)
noncomputable def histW (g : yG) (h arr : Nat) (xs : List RV) (R : HR) : va_W := @ite _ (hOk xs R) (Classical.propDecidable _) (hcC h arr (nI xs.length) ++ (acC g arr 6 (rmF R) ++ rmW g R)) [(h, .inr (1, [])), (h, .inr (1, []))]
theorem histW_pos {g : yG} {h arr : Nat} {xs : List RV} {R : HR} (ok : hOk xs R) : histW g h arr xs R = hcC h arr (nI xs.length) ++ (acC g arr 6 (rmF R) ++ rmW g R) := if_pos ok
theorem histW_ok {g : yG} {h arr : Nat} {xs : List RV} {R : HR} {A : Nat → Prop} (hD : va_D A (histW g h arr xs R)) : hOk xs R := by
  by_cases ok : hOk xs R
  · exact ok
  · unfold histW at hD
    rw [if_neg ok] at hD
    exact absurd (hD.1 0 1 _ _ rfl rfl rfl) (by decide)
theorem hist_mem {g : yG} {h arr : Nat} {xs : List RV} {R : HR} {B : List va_W} {A : Nat → Prop} (hm : histW g h arr xs R ∈ B) (hD : va_D A B.flatten) : hOk xs R := by
  obtain ⟨B1, B2, rfl⟩ := List.append_of_mem hm
  rw [List.flatten_append, List.flatten_cons] at hD
  exact histW_ok (yD_app (yD_app hD).2.1).1
theorem hist_recv {g : yG} {h arr : Nat} {xs : List RV} {R : HR} {B : List va_W} (hm : histW g h arr xs R ∈ B) : yRecv B h RX1 := by
  intro D A H _ hD
  have ok := hist_mem hm hD
  have hq : (h, (.inr (1, [.ref arr, .int (nI xs.length)]) : va_E)) ∈ B.flatten := by
    obtain ⟨B1, B2, rfl⟩ := List.append_of_mem hm
    rw [List.flatten_append, List.flatten_cons, histW_pos ok]
    refine List.mem_append_right _ (List.mem_append_left _ (List.mem_append_left _ ?_))
    exact List.mem_singleton.mpr rfl
  obtain ⟨i, hi⟩ := List.getElem?_of_mem hq
  exact ⟨i, 1, _, (RX1, TX1, 2), hi, rfl, rfl⟩
theorem y_perm {Z : yZ} {R : Room} {k n : Nat} {L L1 : List va_W} {lv : List (Nat × Value)} {st : List Value} {pc : Nat} (h : L.flatten.Perm L1.flatten) (K : yJ Z R k n L1 pc lv st) : yJ Z R k n L pc lv st := by
  obtain ⟨p, l, e, s, m, args, below, meth, c, Q, D, tys, A, nL'⟩ := Z
  intro H locs ls hP hD hS hl
  exact K H locs ls (yP_perm hP h) (yD_perm hD h) hS hl
/-- the blocks in another order -/
theorem y_reord {Z : yZ} {R : Room} {k n nB : Nat} {L L1 : List va_W} {lv : List (Nat × Value)} {st : List Value} {pc : Nat} (is : List Nat) (hnB : L.length = nB) (hp : is.isPerm (List.range nB) = true) (hL : yPick L is = L1) (K : yJ Z R k n L1 pc lv st) : yJ Z R k n L pc lv st := by
  subst hnB
  refine y_perm ?_ K
  have h := y_permOf L is [] (by rw [List.append_nil]; exact hp)
  rw [hL] at h
  simpa [yPick] using h
theorem y_aaldS {Z : yZ} {g : yG} {R : Room} {k n : Nat} {L : List va_W} {lv : List (Nat × Value)} {st : List Value} {cc : ByteArray} {nL : Nat} {Ts : List Cond} {own : String} {pc a N v : Nat} {f : Nat → Option Nat} {i : Int32} (C : yC Z g cc nL Ts own) (hdg : decode cc pc = .ok (.aaload, 1)) (q0 : Nat) (he : L.flatten[q0]? = some (a, .inl (g.2.2.2.2, N, .inr (.inr (.inr (.inr f)))))) (hin : vp_in i N) (hf : f i.toNatClampNeg = some v) (K : yJ Z R k n L (pc + 1) lv (.ref v :: st)) : yJ Z R k n L pc lv (.int i :: .ref a :: st) := by
  refine y_aald C hdg q0 he hin ?_
  rw [hf]
  exact K
theorem y_aaldN {Z : yZ} {g : yG} {R : Room} {k n : Nat} {L : List va_W} {lv : List (Nat × Value)} {st : List Value} {cc : ByteArray} {nL : Nat} {Ts : List Cond} {own : String} {pc a N : Nat} {f : Nat → Option Nat} {i : Int32} (C : yC Z g cc nL Ts own) (hdg : decode cc pc = .ok (.aaload, 1)) (q0 : Nat) (he : L.flatten[q0]? = some (a, .inl (g.2.2.2.2, N, .inr (.inr (.inr (.inr f)))))) (hin : vp_in i N) (hf : f i.toNatClampNeg = none) (K : yJ Z R k n L (pc + 1) lv (.null :: st)) : yJ Z R k n L pc lv (.int i :: .ref a :: st) := by
  refine y_aald C hdg q0 he hin ?_
  rw [hf]
  exact K
theorem y_astoreN_n {Z : yZ} {g : yG} {R : Room} {k n : Nat} {L : List va_W} {lv lv' : List (Nat × Value)} {st : List Value} {cc : ByteArray} {nL : Nat} {Ts : List Cond} {own : String} {pc i : Nat} {q : Fin 4} (C : yC Z g cc nL Ts own) (hdg : decode cc pc = .ok (.astore_n q, 1)) (hq : (q : Nat) = i) (hn : i < nL) (hl' : (i, Value.null) :: lv.filter (fun q => !(q.1 == i) && !(q.1 + 1 == i && q.2.category == 2)) = lv') (K : yJ Z R k n L (pc + 1) lv' st) : yJ Z R k n L pc lv (.null :: st) := by
  obtain ⟨p, l, e, s, m, args, below, meth, c, Q, D, tys, A, nL'⟩ := Z
  obtain ⟨rfl, rfl, rfl, rfl, hx, hb, hml, hown, hts, hlk, hK, hN, hA⟩ := C
  intro H locs ls hP hD hS hl
  exact lv_astore_nN hx hb hdg hq hl hn hl' (fun ls' hl' => K H locs ls' hP hD hS hl')
theorem y_aloadN_n {Z : yZ} {g : yG} {R : Room} {k n : Nat} {L : List va_W} {lv : List (Nat × Value)} {st : List Value} {cc : ByteArray} {nL : Nat} {Ts : List Cond} {own : String} {pc i : Nat} {q : Fin 4} (C : yC Z g cc nL Ts own) (hdg : decode cc pc = .ok (.aload_n q, 1)) (j : Nat) (hq : (q : Nat) = i) (hj : lv[j]? = some (i, .null)) (K : yJ Z R k n L (pc + 1) lv (.null :: st)) : yJ Z R k n L pc lv st := by
  obtain ⟨p, l, e, s, m, args, below, meth, c, Q, D, tys, A, nL'⟩ := Z
  obtain ⟨rfl, rfl, rfl, rfl, hx, hb, hml, hown, hts, hlk, hK, hN, hA⟩ := C
  intro H locs ls hP hD hS hl
  exact lv_aload_nN hx hb hdg hq (lv_at hl j hj) (K H locs ls hP hD hS hl)
/-- storing an object of class Day that is somewhere in the world -/
theorem y_aastM {Z : yZ} {g : yG} {R : Room} {k n : Nat} {L L1 : List va_W} {lv : List (Nat × Value)} {st : List Value} {cc : ByteArray} {nL : Nat} {Ts : List Cond} {own : String} {pc a N v : Nat} {f : Nat → Option Nat} {vs : List Value} {i : Int32} (C : yC Z g cc nL Ts own) (hdg : decode cc pc = .ok (.aastore, 1)) (q0 : Nat) (he : L.flatten[q0]? = some (a, .inl (g.2.2.2.2, N, .inr (.inr (.inr (.inr f)))))) (hv : (v, (.inr (0, vs) : va_E)) ∈ L.flatten) (hin : vp_in i N) (hL : L.flatten.set q0 (a, .inl (g.2.2.2.2, N, .inr (.inr (.inr (.inr (va_up f i.toNatClampNeg (some v))))))) = L1.flatten) (K : yJ Z R k n L1 (pc + 1) lv st) : yJ Z R k n L pc lv (.ref v :: .int i :: .ref a :: st) := by
  obtain ⟨qk, hk⟩ := List.getElem?_of_mem hv
  exact y_aast (ci := 0) C hdg q0 qk he hk hin hL K
