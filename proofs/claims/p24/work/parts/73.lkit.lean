/-! ===== the law: its script, its words ===== -/
def ySc : yZ → Nat → Nat → (Nat → Int32) → Prop
  | (_, _, _, s, _, _, _, _, _, _, _, _, A, _), b, L, sx => va_X b L sx s s.heap ∧ b < s.heap.size ∧ ¬ A b
theorem y_sld {Z : yZ} {g : yG} {R : Room} {k n : Nat} {W0 : List va_W} {lv : List (Nat × Value)} {st : List Value} {cc : ByteArray} {nL : Nat} {Ts : List Cond} {own : String} {pc b L : Nat} {sx : Nat → Int32} {i : Int32} (C : yC Z g cc nL Ts own) (HX : ySc Z b L sx) (hdg : decode cc pc = .ok (.iaload, 1)) (hin : vp_in i L) (K : yJ Z R k n W0 (pc + 1) lv (.int (sx i.toNatClampNeg) :: st)) : yJ Z R k n W0 pc lv (.int i :: .ref b :: st) := by
  obtain ⟨p, l, e, s, m, args, below, meth, c, Q, D, tys, A, nL'⟩ := Z
  obtain ⟨rfl, rfl, rfl, rfl, hx, hb, hml, hown, hts, hlk, hK, hN, hA⟩ := C
  obtain ⟨h1, h2, h3⟩ := HX
  intro H locs ls hP hD hS hl
  exact va_sld hx hb h1 h2 h3 hS hin hdg (K H locs ls hP hD hS hl)
theorem y_slen {Z : yZ} {g : yG} {R : Room} {k n : Nat} {W0 : List va_W} {lv : List (Nat × Value)} {st : List Value} {cc : ByteArray} {nL : Nat} {Ts : List Cond} {own : String} {pc b L : Nat} {sx : Nat → Int32} (C : yC Z g cc nL Ts own) (HX : ySc Z b L sx) (hdg : decode cc pc = .ok (.arraylength, 1)) (K : yJ Z R k n W0 (pc + 1) lv (.int (nI L) :: st)) : yJ Z R k n W0 pc lv (.ref b :: st) := by
  obtain ⟨p, l, e, s, m, args, below, meth, c, Q, D, tys, A, nL'⟩ := Z
  obtain ⟨rfl, rfl, rfl, rfl, hx, hb, hml, hown, hts, hlk, hK, hN, hA⟩ := C
  obtain ⟨h1, h2, h3⟩ := HX
  intro H locs ls hP hD hS hl
  exact va_slen hx hb h1 h2 h3 hS hdg (K H locs ls hP hD hS hl)
/-! ===== rows that the law needs besides: longs, contracts that answer a long, a part of a world set aside ===== -/
theorem y_ladd {Z : yZ} {g : yG} {R : Room} {k n : Nat} {L : List va_W} {lv : List (Nat × Value)} {st : List Value} {cc : ByteArray} {nL : Nat} {Ts : List Cond} {own : String} {pc : Nat} {x y : Int64} (C : yC Z g cc nL Ts own) (hdg : decode cc pc = .ok (.ladd, 1)) (K : yJ Z R k n L (pc + 1) lv (.long (x + y) :: st)) : yJ Z R k n L pc lv (.long y :: .long x :: st) := by
  obtain ⟨p, l, e, s, m, args, below, meth, c, Q, D, tys, A, nL'⟩ := Z
  obtain ⟨rfl, rfl, rfl, rfl, hx, hb, hml, hown, hts, hlk, hK, hN, hA⟩ := C
  intro H locs ls hP hD hS hl
  exact lv_ladd hx hb hdg (K H locs ls hP hD hS hl)
theorem y_lmul {Z : yZ} {g : yG} {R : Room} {k n : Nat} {L : List va_W} {lv : List (Nat × Value)} {st : List Value} {cc : ByteArray} {nL : Nat} {Ts : List Cond} {own : String} {pc : Nat} {x y : Int64} (C : yC Z g cc nL Ts own) (hdg : decode cc pc = .ok (.lmul, 1)) (K : yJ Z R k n L (pc + 1) lv (.long (x * y) :: st)) : yJ Z R k n L pc lv (.long y :: .long x :: st) := by
  obtain ⟨p, l, e, s, m, args, below, meth, c, Q, D, tys, A, nL'⟩ := Z
  obtain ⟨rfl, rfl, rfl, rfl, hx, hb, hml, hown, hts, hlk, hK, hN, hA⟩ := C
  intro H locs ls hP hD hS hl
  exact lv_lmul hx hb hdg (K H locs ls hP hD hS hl)
theorem y_ldc {Z : yZ} {g : yG} {R : Room} {k n : Nat} {L : List va_W} {lv : List (Nat × Value)} {st : List Value} {cc : ByteArray} {nL : Nat} {Ts : List Cond} {own : String} {pc : Nat} {index : Nat} {v : Int32} (C : yC Z g cc nL Ts own) (hdg : decode cc pc = .ok (.ldc index, 2)) (hc : Cond.constant own index v ∈ Ts) (K : yJ Z R k n L (pc + 2) lv (.int v :: st)) : yJ Z R k n L pc lv st := by
  obtain ⟨p, l, e, s, m, args, below, meth, c, Q, D, tys, A, nL'⟩ := Z
  obtain ⟨rfl, rfl, rfl, rfl, hx, hb, hml, hown, hts, hlk, hK, hN, hA⟩ := C
  intro H locs ls hP hD hS hl
  exact lv_ldc hx hb hown (hts _ hc) hdg (K H locs ls hP hD hS hl)
def yMl (g : yG) (y : MethodName) (ws : List Cond) (rm : Room) (As : List Value) (B : List va_W) (post : Int64 → List va_W → Prop) (mc ms : Nat) : Prop := ∀ sz, Met g.1 y ws rm (yPre g As B sz) (va_Ql post (yB g B sz) (va_A B.flatten sz)) mc ms (va_A B.flatten sz)
def yRl (Z : yZ) (R : Room) (cc : ByteArray) (post : Int64 → List va_W → Prop) (mc ms : Nat) : Prop := ∀ (pc : Nat), decode cc pc = .ok (.lreturn, 1) → ∀ (r : Int64) (L : List va_W) (lv : List (Nat × Value)) (k n : Nat), k ≤ mc → n ≤ ms → post r L → yJ Z R k n L pc lv [.long r]
theorem y_entryL {g : yG} {y : MethodName} {ws ws' : List Cond} {rm : Room} {As : List Value} {B : List va_W} {post : Int64 → List va_W → Prop} {mc ms : Nat} {cc : ByteArray} {maxL : Nat} (hy : plainName y.cls = true) (hw : ws = Cond.code y cc maxL (some .long) :: ws') (ha : (lg_sl As).length ≤ maxL) (body : ∀ Z, yC Z g cc maxL ws y.cls → yRl Z rm cc post mc ms → yJ Z rm 0 0 B 0 (lv_args 0 As) []) : yMl g y ws rm As B post mc ms := by
  intro sz
  refine Met.ofW (cc := cc) (maxL := maxL) (ret := some .long) hy hw ?_
  intro p e s m args below meth c s₁ BL hml hv
  obtain ⟨rfl, hsz, hP, ⟨hK, hN⟩, hD0⟩ := hv
  subst hsz
  have hl := lv_entry As ha
  rw [lg_entry_eq]
  refine body (p, g.1, e, s, m, As.toArray, below, meth, c, MQ below (va_Ql post (yB g B s.heap.size) (va_A B.flatten s.heap.size)) As.toArray s mc ms (va_A B.flatten s.heap.size), g.2.1, yTy g, va_A B.flatten s.heap.size, maxL) ⟨rfl, rfl, rfl, rfl, BL.exec, BL.bytes, hml, findClass_of_methodNamed BL.named, atoms_spec (ws := ws) BL.pre, BL.notSynchronized, hK, hN, fun q h => Or.inr h⟩ ?_ s.heap [] _ hP hD0.self va_S.rf hl
  intro pc hdg r L lv k n hk hn hp H locs ls hP hD hS _
  refine W.widen hk hn ?_
  exact W.lret (v := r) BL.exec BL.bytes BL.returns (fun t ht _ => ⟨⟨r, L, rfl, hp, by rw [ht]; exact hP, hD⟩, hS.F ht⟩) hS.2.2 hdg BL.notSynchronized
theorem y_callSWl {Z : yZ} {g : yG} {R : Room} {k n : Nat} {L : List va_W} {lv : List (Nat × Value)} {st : List Value} {cc : ByteArray} {nL : Nat} {Ts : List Cond} {own : String} {pc : Nat} {index mc ms maxL : Nat} {y : MethodName} {bytes : ByteArray} {ret : Option FieldType} {ws ws' : List Cond} {rm : Room} {B : List va_W} {nA nB : Nat} {As rest : List Value} {post : Int64 → List va_W → Prop} (C : yC Z g cc nL Ts own) (hdg : decode cc pc = .ok (.invokestatic index, 3)) (hM : yMl g y ws rm (As) B post mc ms) (hst : st = As.reverse ++ rest) (hw : ws = Cond.code y bytes maxL ret :: ws') (hrc : rm.cells = mc) (hrs : rm.slots = ms) (hR : rm.frames + 1 ≤ R.frames ∧ 8 + (maxL + 11) + rm.locals ≤ R.locals) (hG : GoodIn Ts (va_wsS own index y ws)) (hd : y.cls ≠ "java/lang/invoke/MethodHandle" ∧ y.cls ≠ "java/lang/invoke/VarHandle" ∧ (parseMethodDescriptor y.desc).map (fun d => d.parameters.length) = some nA) (hnA : As.length = nA) (hcat : (rest.map fun v => v.category).sum ≤ 8) (hf : k + mc ≤ R.cells ∧ n + ms ≤ R.slots) (is js : List Nat) (hnB : L.length = nB) (hperm : (is ++ js).isPerm (List.range nB) = true) (hpick : yPick L is = B) (K : ∀ r w, post r w → ∃ L1, (yPick L1 is = w ∧ yPick L1 js = yPick L js ∧ L1.length = L.length) ∧ yJ Z R (k + mc) (n + ms) L1 (pc + 3) lv (.long r :: rest)) : yJ Z R k n L pc lv st := by
  obtain ⟨p, l, e, s, m, args, below, meth, c, Q, D, tys, A, nL'⟩ := Z
  obtain ⟨rfl, rfl, rfl, rfl, hx, hb, hml, hown, hts, hlk, hK, hN, hA⟩ := C
  intro H locs ls hP hD hS hl
  subst hnA hnB
  obtain ⟨hPB, hDB, hPf, hDf, hdis⟩ := y_split hperm hpick hP hD
  refine va_calll (va_runS (As := As) (rest := rest) ⟨hx, hb, hml, hown, hts⟩ (hM H.size) (va_cwS As.length hts hG hw hrc hrs hd hR) ⟨yPre_blind _ _ _ _, fun U hU hW => ⟨rfl, by rw [hU], by rw [hU]; exact hPB, ⟨va_K.moved hW.alike hK, hN.warm hW⟩, hDB.weaken (fun _ _ _ _ => trivial)⟩⟩ rfl rfl hl.1 hst (lv_room hcat) hdg hf) hS (fun q _ h => y_freeOf hDB hS hA q h) (y_freeOf hDB hS hA) (fun r w t H1 locs1 ht hvm hw' hB hz1 hk1 hS1 => ?_)
  obtain ⟨L1, ⟨h1, h2, h3⟩, KK⟩ := K r w hw'
  obtain ⟨hPw, hDw⟩ := hB
  rw [ht] at hPw
  obtain ⟨hP1, hD1⟩ := y_back hperm hPf hDf hdis (y_freeOf hDB hS hA) hk1 hPw hDw h1 h2 h3
  exact KK H1 locs1 ls hP1 hD1 hS1 hl
/-- a contract about the script alone: it answers v -/
def yMc (g : yG) (y : MethodName) (ws : List Cond) (rm : Room) (As : List Value) (b L : Nat) (sx : Nat → Int32) (v : Int32) : Prop := ∀ sz, Met g.1 y ws rm (fun a U => yPre g As [] sz a U ∧ va_X b L sx U U.heap ∧ b < sz) (va_Qi (fun r (_ : List va_W) => r = v) (yB g [] sz) (va_A ([] : List va_W).flatten sz)) 0 0 (va_A ([] : List va_W).flatten sz)
theorem y_entryX {g : yG} {y : MethodName} {ws ws' : List Cond} {rm : Room} {As : List Value} {b L : Nat} {sx : Nat → Int32} {v : Int32} {cc : ByteArray} {maxL : Nat} {ty : FieldType} (hy : plainName y.cls = true) (hw : ws = Cond.code y cc maxL (some ty) :: ws') (ha : (lg_sl As).length ≤ maxL) (body : ∀ Z, yC Z g cc maxL ws y.cls → ySc Z b L sx → yRi Z rm cc ty (fun r _ => r = v) 0 0 → yJ Z rm 0 0 [] 0 (lv_args 0 As) []) : yMc g y ws rm As b L sx v := by
  intro sz
  refine Met.ofW (cc := cc) (maxL := maxL) (ret := some ty) hy hw ?_
  intro p e s m args below meth c s₁ BL hml hv
  obtain ⟨⟨rfl, hsz, hP, ⟨hK, hN⟩, hD0⟩, hX, hbz⟩ := hv
  subst hsz
  have hl := lv_entry As ha
  rw [lg_entry_eq]
  refine body (p, g.1, e, s, m, As.toArray, below, meth, c, MQ below (va_Qi (fun r (_ : List va_W) => r = v) (yB g [] s.heap.size) (va_A ([] : List va_W).flatten s.heap.size)) As.toArray s 0 0 (va_A ([] : List va_W).flatten s.heap.size), g.2.1, yTy g, va_A ([] : List va_W).flatten s.heap.size, maxL) ⟨rfl, rfl, rfl, rfl, BL.exec, BL.bytes, hml, findClass_of_methodNamed BL.named, atoms_spec (ws := ws) BL.pre, BL.notSynchronized, hK, hN, fun q h => Or.inr h⟩ ⟨hX, hbz, ?_⟩ ?_ s.heap [] _ hP hD0.self va_S.rf hl
  · rintro (⟨k, q, h⟩ | h)
    · simp at h
    · omega
  · intro pc hdg r L lv k n hnr hk hn hp H locs ls hP hD hS _
    refine W.widen hk hn ?_
    exact W.zret (v := r) BL.exec BL.bytes BL.returns hnr (fun t ht _ => ⟨⟨r, L, rfl, hp, by rw [ht]; exact hP, hD⟩, hS.F ht⟩) hS.2.2 hdg BL.notSynchronized
theorem y_callSX {Z : yZ} {g : yG} {R : Room} {k n : Nat} {W0 : List va_W} {lv : List (Nat × Value)} {st : List Value} {cc : ByteArray} {nL : Nat} {Ts : List Cond} {own : String} {pc : Nat} {index maxL b L : Nat} {sx : Nat → Int32} {v : Int32} {y : MethodName} {bytes : ByteArray} {ret : Option FieldType} {ws ws' : List Cond} {rm : Room} {nA : Nat} {As rest : List Value} (C : yC Z g cc nL Ts own) (HX : ySc Z b L sx) (hdg : decode cc pc = .ok (.invokestatic index, 3)) (hM : yMc g y ws rm As b L sx v) (hst : st = As.reverse ++ rest) (hw : ws = Cond.code y bytes maxL ret :: ws') (hrc : rm.cells = 0) (hrs : rm.slots = 0) (hR : rm.frames + 1 ≤ R.frames ∧ 8 + (maxL + 11) + rm.locals ≤ R.locals) (hG : GoodIn Ts (va_wsS own index y ws)) (hd : y.cls ≠ "java/lang/invoke/MethodHandle" ∧ y.cls ≠ "java/lang/invoke/VarHandle" ∧ (parseMethodDescriptor y.desc).map (fun d => d.parameters.length) = some nA) (hnA : As.length = nA) (hcat : (rest.map fun v => v.category).sum ≤ 8) (hf : k ≤ R.cells ∧ n ≤ R.slots) (K : yJ Z R k n W0 (pc + 3) lv (.int v :: rest)) : yJ Z R k n W0 pc lv st := by
  obtain ⟨p, l, e, s, m, args, below, meth, c, Q, D, tys, A, nL'⟩ := Z
  obtain ⟨rfl, rfl, rfl, rfl, hx, hb, hml, hown, hts, hlk, hK, hN, hA⟩ := C
  obtain ⟨hX1, hX2, hX3⟩ := HX
  intro H locs ls hP hD hS hl
  subst hnA
  have hPn : va_P g.2.1 vwCl ([] : List va_W).flatten H := fun k q h => by simp at h
  have hDn : ∀ A1 : Nat → Prop, va_D A1 ([] : List va_W).flatten := fun _ => ⟨fun i j p q h => by simp at h, fun k q h => by simp at h⟩
  have hblind : FrameBlind (fun a U => yPre g As [] H.size a U ∧ va_X b L sx U U.heap ∧ b < H.size) := by
    rintro a U f mk ⟨h1, h2, h3⟩
    exact ⟨yPre_blind g As [] H.size a U f mk h1, va_X.moved (u := U) (U := U.calling f mk a) (Vm.Alike.refl U.vm) h2, h3⟩
  have hnone : ∀ q : Nat, q < H.size → ¬ va_A ([] : List va_W).flatten H.size q := by
    rintro q hq (⟨k, e, h⟩ | h)
    · simp at h
    · omega
  refine va_calli (va_runS (As := As) (rest := rest) ⟨hx, hb, hml, hown, hts⟩ (hM H.size) (va_cwS As.length hts hG hw hrc hrs hd hR) ⟨hblind, fun U hU hW => ⟨⟨rfl, by rw [hU], by rw [hU]; exact hPn, ⟨va_K.moved hW.alike hK, hN.warm hW⟩, hDn _⟩, by rw [hU]; exact (hX1.moved hW.alike).kept (hS.2.1 b hX2 hX3), Nat.lt_of_lt_of_le hX2 hS.1⟩⟩ rfl rfl hl.1 hst (lv_room hcat) hdg ⟨by omega, by omega⟩) hS (fun q h1 h => absurd h (hnone q h1)) (fun q h => y_freeOf (hDn _) hS hA q h) (fun r w t H1 locs1 ht hvm hw' hB hz1 hk1 hS1 => ?_)
  have hw'' : r = v := hw'
  subst hw''
  exact K H1 locs1 ls (hP.kept (fun k q hk => hk1 q.1 (hP k q hk).lt (hnone q.1 (hP k q hk).lt))) hD hS1 hl
theorem yM.frame {g : yG} {y : MethodName} {ws : List Cond} {rm : Room} {As : List Value} {B F L : List va_W} {post post' : Int32 → List va_W → Prop} {mc ms : Nat} (h : yM g y ws rm As B post mc ms) (hL : L.flatten.Perm (B ++ F).flatten) (hp : ∀ r w, post r w → ∃ w' : List va_W, (w ++ F).flatten.Perm w'.flatten ∧ post' r w') : yM g y ws rm As L post' mc ms := by
  intro sz p e ha hf hc s m args below hfr happ hpre hk
  obtain ⟨q0, qsz, qP, qK, qD⟩ := hpre
  have qP2 := yP_perm qP hL
  have qD2 := yD_perm qD hL
  rw [List.flatten_append] at qP2 qD2
  obtain ⟨d1, d2, d3⟩ := yD_app qD2
  have pB : va_P g.2.1 vwCl B.flatten s.heap := fun k q hk => by
    obtain ⟨i, hi⟩ := List.getElem?_of_mem (List.mem_append_left F.flatten (List.mem_of_getElem? hk))
    exact qP2 i q hi
  have pF : va_P g.2.1 vwCl F.flatten s.heap := fun k q hk => by
    obtain ⟨i, hi⟩ := List.getElem?_of_mem (List.mem_append_right B.flatten (List.mem_of_getElem? hk))
    exact qP2 i q hi
  obtain ⟨n, o, h1, h2, h3, ⟨⟨r, u, a1, a2, c1, c2⟩, a4⟩, Ls, f1, f2⟩ := h sz p e ha hf hc s m args below hfr happ ⟨q0, qsz, pB, qK, d1⟩ hk
  obtain ⟨u', b1, b2⟩ := hp r u a2
  have hAm : ∀ q, va_A B.flatten sz q → va_A L.flatten sz q := by
    rintro q (⟨k, e, hk⟩ | hk)
    · have hm := hL.mem_iff.mpr (show (q, e) ∈ (B ++ F).flatten by rw [List.flatten_append]; exact List.mem_append_left _ (List.mem_of_getElem? hk))
      obtain ⟨i, hi⟩ := List.getElem?_of_mem hm
      exact Or.inl ⟨i, e, hi⟩
    · exact Or.inr hk
  have out : ∀ q ∈ F.flatten, q.1 < sz ∧ ¬ va_A B.flatten sz q.1 := by
    intro q hq
    obtain ⟨i, hi⟩ := List.getElem?_of_mem hq
    have hl := (pF i q hi).lt
    rw [qsz] at hl
    refine ⟨hl, ?_⟩
    rintro (⟨k, e, hk⟩ | hk)
    · exact d3 (q.1, e) (List.mem_of_getElem? hk) q hq rfl
    · omega
  have pF1 := pF.kept (fun k q hk => a4.2 q.1 (by rw [qsz]; exact (out q (List.mem_of_getElem? hk)).1) (out q (List.mem_of_getElem? hk)).2)
  refine ⟨n, o, h1, h2, h3, ⟨⟨r, u', a1, b2, ?_, ?_⟩, a4.1, fun q hq hn => a4.2 q hq (fun z => hn (hAm q z))⟩, Ls, f1, fun q hq => hAm _ (f2 q hq)⟩
  · refine yP_perm ?_ b1
    rw [List.flatten_append]
    exact va_P.app c1 pF1
  · refine yD_perm ?_ b1
    rw [List.flatten_append]
    refine yD_mk (c2.weaken (fun k q _ h => hAm q.1 h)) ⟨d2.1, fun k q hk => ?_⟩ (fun p hp q hq e => ?_)
    · have hm := hL.mem_iff.mpr (show q ∈ (B ++ F).flatten by rw [List.flatten_append]; exact List.mem_append_right _ (List.mem_of_getElem? hk))
      obtain ⟨i, hi⟩ := List.getElem?_of_mem hm
      exact Or.inl ⟨i, q.2, hi⟩
    · obtain ⟨i, hi⟩ := List.getElem?_of_mem hp
      exact (out q hq).2 (by rw [← e]; exact c2.2 i p hi)
/-! ===== count, with the history closed ===== -/
theorem cnt_perm (cs r1 r2 r3 : List va_W) (a b c : va_W) (h : a = b ++ c) : (cs ++ (r1 ++ (r2 ++ (r3 ++ [a])))).flatten.Perm (((cs ++ [b]) ++ (r1 ++ (r2 ++ r3))) ++ [c]).flatten := by
  subst h
  have hp : ∀ X b c : va_W, (X ++ (b ++ c)).Perm (b ++ (X ++ c)) := fun X b c => by
    rw [← List.append_assoc, ← List.append_assoc]
    exact List.Perm.append_right _ List.perm_append_comm
  have := hp (r1.flatten ++ (r2.flatten ++ r3.flatten)) b c
  simp only [List.flatten_append, List.flatten_cons, List.flatten_nil, List.append_nil, List.append_assoc] at this ⊢
  exact List.Perm.append_left _ this
set_option maxHeartbeats 4000000 in
set_option maxRecDepth 100000 in
theorem k_X6_count (g : yG) (x rs rl : Nat) (A : Nat → Nat) (d : RV) (G : Nat → Nat → Int32) (T : Nat → Nat) (t : RV) (GT : Nat → Nat → Int32) (P : Nat → Nat) (p : RV) (GP : Nat → Nat → Int32) (hst arr : Nat) (xs : List RV) (R : List ((Nat → Nat) × RV × (Nat → Nat → Int32))) (wh : Int32) : yM g yX6_count wsX6_count ({ frames := 5, cells := 0, slots := 0, locals := 115 } : Room) [.ref x, .int wh] ([mnC x (A 0) (T 0) rs (P 0) hst rl, dayC A d, tabC T t, padC P p] ++ (dayR g A d G ++ (tabR g T t GT ++ (padR g P p GP ++ [histW g hst arr xs R]))) : List va_W) (fun r w => r = (f_X6_count d t p (nI xs.length) wh).1 ∧ ∃ t' : RV, ∃ GT' : Nat → Nat → Int32, t' = (f_X6_count d t p (nI xs.length) wh).2 ∧ w = ([mnC x (A 0) (T 0) rs (P 0) hst rl, dayC A d, tabC T t', padC P p] ++ (dayR g A d G ++ (tabR g T t' GT' ++ (padR g P p GP ++ [histW g hst arr xs R]))) : List va_W)) 0 0 := by
  refine yM_fact (F := hOk xs R) (fun A9 hD => hist_mem (g := g) (h := hst) (arr := arr) (List.mem_append_right _ (List.mem_append_right _ (List.mem_append_right _ (List.mem_append_right _ (List.mem_singleton.mpr rfl))))) hD) (fun ok => ?_)
  refine yM.frame (F := [acC g arr 6 (rmF R) ++ rmW g R]) (c_X6_count g x rs rl A d G T t GT P p GP hst arr (nI xs.length) wh) (cnt_perm [mnC x (A 0) (T 0) rs (P 0) hst rl, dayC A d, tabC T t, padC P p] (dayR g A d G) (tabR g T t GT) (padR g P p GP) _ _ _ (histW_pos ok)) ?_
  rintro r w ⟨h1, t', GT', h2, rfl⟩
  exact ⟨_, (cnt_perm [mnC x (A 0) (T 0) rs (P 0) hst rl, dayC A d, tabC T t', padC P p] (dayR g A d G) (tabR g T t' GT') (padR g P p GP) _ _ _ (histW_pos ok)).symm, h1, t', GT', h2, rfl⟩
/-! ===== low, cell ===== -/
def fLow (v n : Int32) : Int32 := (v &&& 2147483647) - (v &&& 2147483647) / n * n
def fCell (L : Nat) (sx : Nat → Int32) (k : Int32) : Int32 := if nI L ≤ k then 7919 * (k + 3) * (k + 11) else sx k.toNatClampNeg
theorem dL_low_0 : decode cL_low 0 = .ok (.iload_n 0, 1) := by decide +kernel
theorem dL_low_1 : decode cL_low 1 = .ok (.ldc 7, 2) := by decide +kernel
theorem dL_low_3 : decode cL_low 3 = .ok (.iand, 1) := by decide +kernel
theorem dL_low_4 : decode cL_low 4 = .ok (.iload_n 1, 1) := by decide +kernel
theorem dL_low_5 : decode cL_low 5 = .ok (.irem, 1) := by decide +kernel
theorem dL_low_6 : decode cL_low 6 = .ok (.ireturn, 1) := by decide +kernel
theorem dL_cell_0 : decode cL_cell 0 = .ok (.iload_n 1, 1) := by decide +kernel
theorem dL_cell_1 : decode cL_cell 1 = .ok (.aload_n 0, 1) := by decide +kernel
theorem dL_cell_2 : decode cL_cell 2 = .ok (.arraylength, 1) := by decide +kernel
theorem dL_cell_3 : decode cL_cell 3 = .ok (.if_icmp .ge 9, 3) := by decide +kernel
theorem dL_cell_6 : decode cL_cell 6 = .ok (.aload_n 0, 1) := by decide +kernel
theorem dL_cell_7 : decode cL_cell 7 = .ok (.iload_n 1, 1) := by decide +kernel
theorem dL_cell_8 : decode cL_cell 8 = .ok (.iaload, 1) := by decide +kernel
theorem dL_cell_9 : decode cL_cell 9 = .ok (.goto 15, 3) := by decide +kernel
theorem dL_cell_12 : decode cL_cell 12 = .ok (.sipush 7919, 3) := by decide +kernel
theorem dL_cell_15 : decode cL_cell 15 = .ok (.iload_n 1, 1) := by decide +kernel
theorem dL_cell_16 : decode cL_cell 16 = .ok (.iconst 3, 1) := by decide +kernel
theorem dL_cell_17 : decode cL_cell 17 = .ok (.iadd, 1) := by decide +kernel
theorem dL_cell_18 : decode cL_cell 18 = .ok (.imul, 1) := by decide +kernel
theorem dL_cell_19 : decode cL_cell 19 = .ok (.iload_n 1, 1) := by decide +kernel
theorem dL_cell_20 : decode cL_cell 20 = .ok (.bipush 11, 2) := by decide +kernel
theorem dL_cell_22 : decode cL_cell 22 = .ok (.iadd, 1) := by decide +kernel
theorem dL_cell_23 : decode cL_cell 23 = .ok (.imul, 1) := by decide +kernel
theorem dL_cell_24 : decode cL_cell 24 = .ok (.ireturn, 1) := by decide +kernel
theorem kL_low_1 : Cond.constant RL 7 2147483647 ∈ wsL_low := List.mem_of_getElem? (i := 1) (by decide +kernel)
theorem c_L_low (g : yG) (v n : Int32) (hn : ¬ n = 0) : yM g yL_low wsL_low ({ frames := 0, cells := 0, slots := 0, locals := 0 } : Room) [.int v, .int n] ([] : List va_W) (fun r w => r = (fLow v n) ∧ w = ([] : List va_W)) 0 0 := by
  refine y_entryI (cc := cL_low) (maxL := 2) (by decide +kernel) rfl (Nat.le_of_ble_eq_true rfl) (fun Z C HR => ?_)
  have C : yC Z g cL_low 2 wsL_low RL := C
  show yJ Z _ 0 0 _ 0 [(0, .int v), (1, .int n)] []
  refine y_iload_n C dL_low_0 0 rfl rfl ?_
  refine y_ldc (v := 2147483647) C dL_low_1 kL_low_1 ?_
  refine y_iand C dL_low_3 ?_
  refine y_iload_n C dL_low_4 1 rfl rfl ?_
  refine y_irem C dL_low_5 hn ?_
  exact HR 6 dL_low_6 _ _ _ _ _ rfl (Nat.le_of_ble_eq_true rfl) (Nat.le_of_ble_eq_true rfl) ⟨rfl, rfl⟩
theorem c_L_cell (g : yG) (b L : Nat) (sx : Nat → Int32) (k : Int32) (h0 : ¬ k < 0) (hL : L < 2147483648) : yMc g yL_cell wsL_cell ({ frames := 0, cells := 0, slots := 0, locals := 0 } : Room) [.ref b, .int k] b L sx (fCell L sx k) := by
  refine y_entryX (cc := cL_cell) (maxL := 2) (by decide +kernel) rfl (Nat.le_of_ble_eq_true rfl) (fun Z C HX HR => ?_)
  have C : yC Z g cL_cell 2 wsL_cell RL := C
  show yJ Z _ 0 0 _ 0 [(0, .ref b), (1, .int k)] []
  refine y_iload_n C dL_cell_0 1 rfl rfl ?_
  refine y_aload_n C dL_cell_1 0 rfl rfl ?_
  refine y_slen C HX dL_cell_2 ?_
  refine y_icmp_ge (tgt := 12) C dL_cell_3 rfl (y_same (c := nI L ≤ k) trivial) (fun c _ => ?_) (fun c _ => ?_)
  · refine y_sipush (v := 7919) C dL_cell_12 (by decide) ?_
    refine y_iload_n C dL_cell_15 1 rfl rfl ?_
    refine y_iconst (v := 3) C dL_cell_16 (by decide) ?_
    refine y_iadd C dL_cell_17 ?_
    refine y_imul C dL_cell_18 ?_
    refine y_iload_n C dL_cell_19 1 rfl rfl ?_
    refine y_bipush (v := 11) C dL_cell_20 (by decide) ?_
    refine y_iadd C dL_cell_22 ?_
    refine y_imul C dL_cell_23 ?_
    exact HR 24 dL_cell_24 _ _ _ _ _ rfl (Nat.le_of_ble_eq_true rfl) (Nat.le_of_ble_eq_true rfl) (if_pos c).symm
  · refine y_aload_n C dL_cell_6 0 rfl rfl ?_
    refine y_iload_n C dL_cell_7 1 rfl rfl ?_
    have hin : vp_in k L := by
      obtain ⟨j, hj, rfl⟩ := nI_of h0
      have hjl : j < L := Nat.not_le.mp (fun z => c ((nI_leI (by omega) hj).mpr z))
      exact vp_in_nI hjl (by omega)
    refine y_sld C HX dL_cell_8 hin ?_
    refine y_goto (tgt := 24) C dL_cell_9 rfl ?_
    exact HR 24 dL_cell_24 _ _ _ _ _ rfl (Nat.le_of_ble_eq_true rfl) (Nat.le_of_ble_eq_true rfl) (if_neg c).symm
