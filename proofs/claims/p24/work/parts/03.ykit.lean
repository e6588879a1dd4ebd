/-! ===== a judgement over worlds that are lists of blocks: the machine's own things in one name Z ===== -/
/-- launch, class numbers, the classes of int[], boolean[], Day[] -/
abbrev yG : Type := Launch × va_G × ClassId × ClassId × ClassId
abbrev yZ : Type := Program × Launch × Env × State × MethodId × Array Value × List Frame × Method × Code × (State → Prop) × va_G × List (ClassId × FieldType) × (Nat → Prop) × Nat
def yTy (g : yG) : List (ClassId × FieldType) := [(g.2.2.1, .int), (g.2.2.2.2, .object RX0)]
/-- the links to private members of nest mates -/
def yN : List Cond := [.methodLinkNest RX6 18 yX5_init RX6, .methodLinkNest RX6 25 yX4_init RX6, .methodLinkNest RX6 32 yX2_init RX6, .methodLinkNest RX6 39 yX1_init RX6, .methodLinkNest RX0 83 yX6_rideOf RX6, .methodLinkNest RX0 86 yX6_setsDown RX6, .methodLinkNest RX4 104 yX6_pickUp RX6, .methodLinkNest RX4 113 yX6_setDown RX6, .methodLinkNest RX4 18 yX5_init RX6, .methodLinkNest RX5 87 yX6_rideOf RX6, .methodLinkNest RX5 90 yX6_setsDown RX6]
theorem yN_form : ∀ w ∈ yN, ∃ a i x h, w = Cond.methodLinkNest a i x h := by
  intro w h
  simp only [yN, List.mem_cons, List.not_mem_nil, or_false] at h
  rcases h with h | h | h | h | h | h | h | h | h | h | h <;> exact ⟨_, _, _, _, h⟩
def yNw (U : State) : Prop := (∀ w ∈ yN, va_Nw w U) ∧ va_AO RX0 U
theorem yNw.warm {s U : State} (h : yNw s) (hW : s.WarmedH U.vm) : yNw U := ⟨fun w hw => by
  obtain ⟨a, i, x, q, rfl⟩ := yN_form w hw
  exact va_Nw.warmM hW (h.1 _ hw), va_AO.moved hW.alike h.2⟩
theorem yNw.same {u U : State} (h : yNw u) (e : u.vm = U.vm) : yNw U := ⟨fun w hw => by
  obtain ⟨a, i, x, q, rfl⟩ := yN_form w hw
  exact va_Nw.same rfl e (h.1 _ hw), va_AO.moved (by rw [← e]; exact Vm.Alike.refl _) h.2⟩
def yC : yZ → yG → ByteArray → Nat → List Cond → String → Prop
  | (p, l, _, s, m, args, _, meth, c, _, D, tys, A, nL'), g, cc, nL, Ts, own => l = g.1 ∧ D = g.2.1 ∧ tys = yTy g ∧ nL' = nL ∧ p.tables.exec = Jvm.exec ∧ c.code = cc ∧ c.maxLocals = nL ∧ s.vm.findClass own = some m.cls ∧ (∀ w ∈ Ts, w.before args s = true) ∧ meth.locks = false ∧ va_K D vwCl tys s ∧ yNw s ∧ (∀ q, s.heap.size ≤ q → A q)
def yJ : yZ → Room → Nat → Nat → List va_W → Nat → List (Nat × Value) → List Value → Prop
  | (p, l, e, s, m, args, below, meth, c, Q, D, _, A, nL), R, k, n, L, pc, lv, st => ∀ (H : Heap) (locs : List Loc) (ls : Array Slot), va_P D vwCl L.flatten H → va_D A L.flatten → va_S A s.heap H locs → lv_has ls nL lv → W p l e R s m args below meth c H locs k n Q (F0 m pc ls st)
def yIn : yZ → Prop
  | (_, _, _, _, _, _, _, meth, _, _, _, _, _, _) => meth.name = "<init>"
/-- a method's start and end -/
def yPre (g : yG) (As : List Value) (B : List va_W) (sz : Nat) : Array Value → State → Prop := va_Pc As (fun U => U.heap.size = sz ∧ va_P g.2.1 vwCl B.flatten U.heap ∧ (va_K g.2.1 vwCl (yTy g) U ∧ yNw U) ∧ va_D (fun _ => True) B.flatten)
def yB (g : yG) (B : List va_W) (sz : Nat) (w : List va_W) (t : State) : Prop := va_P g.2.1 vwCl w.flatten t.heap ∧ va_D (va_A B.flatten sz) w.flatten
def yM (g : yG) (y : MethodName) (ws : List Cond) (rm : Room) (As : List Value) (B : List va_W) (post : Int32 → List va_W → Prop) (mc ms : Nat) : Prop := ∀ sz, Met g.1 y ws rm (yPre g As B sz) (va_Qi post (yB g B sz) (va_A B.flatten sz)) mc ms (va_A B.flatten sz)
def yMv (g : yG) (y : MethodName) (ws : List Cond) (rm : Room) (As : List Value) (B : List va_W) (post : List va_W → Prop) (mc ms : Nat) : Prop := ∀ sz, Met g.1 y ws rm (yPre g As B sz) (va_Qv post (yB g B sz) (va_A B.flatten sz)) mc ms (va_A B.flatten sz)
/-- what a return needs -/
def yRi (Z : yZ) (R : Room) (cc : ByteArray) (ty : FieldType) (post : Int32 → List va_W → Prop) (mc ms : Nat) : Prop := ∀ (pc : Nat), decode cc pc = .ok (.ireturn, 1) → ∀ (r : Int32) (L : List va_W) (lv : List (Nat × Value)) (k n : Nat), narrow ty (.int r) = .int r → k ≤ mc → n ≤ ms → post r L → yJ Z R k n L pc lv [.int r]
def yRv (Z : yZ) (R : Room) (cc : ByteArray) (post : List va_W → Prop) (mc ms : Nat) : Prop := ∀ (pc : Nat), decode cc pc = .ok (.return_, 1) → ∀ (L : List va_W) (lv : List (Nat × Value)) (k n : Nat), k ≤ mc → n ≤ ms → post L → yJ Z R k n L pc lv []
theorem yM.conv {g : yG} {y : MethodName} {ws : List Cond} {rm : Room} {As : List Value} {B B' : List va_W} {post post' : Int32 → List va_W → Prop} {mc ms : Nat} (h : yM g y ws rm As B post mc ms) (hB : B'.flatten = B.flatten) (hp : ∀ r w, post r w → ∃ w', w'.flatten = w.flatten ∧ post' r w') : yM g y ws rm As B' post' mc ms := by
  intro sz p e ha hf hc s m args below hfr happ hpre hk
  unfold yPre at hpre
  rw [hB] at hpre
  obtain ⟨n, o, h1, h2, h3, ⟨⟨r, u, a1, a2, a3⟩, a4⟩, h5⟩ := h sz p e ha hf hc s m args below hfr happ hpre hk
  obtain ⟨u', b1, b2⟩ := hp r u a2
  refine ⟨n, o, h1, h2, h3, ⟨⟨r, u', a1, b2, ?_⟩, by rw [hB]; exact a4⟩, by rw [hB]; exact h5⟩
  unfold yB at a3 ⊢
  rw [b1, hB]
  exact a3
theorem yMv.conv {g : yG} {y : MethodName} {ws : List Cond} {rm : Room} {As : List Value} {B B' : List va_W} {post post' : List va_W → Prop} {mc ms : Nat} (h : yMv g y ws rm As B post mc ms) (hB : B'.flatten = B.flatten) (hp : ∀ w, post w → ∃ w', w'.flatten = w.flatten ∧ post' w') : yMv g y ws rm As B' post' mc ms := by
  intro sz p e ha hf hc s m args below hfr happ hpre hk
  unfold yPre at hpre
  rw [hB] at hpre
  obtain ⟨n, o, h1, h2, h3, ⟨⟨u, a1, a2, a3⟩, a4⟩, h5⟩ := h sz p e ha hf hc s m args below hfr happ hpre hk
  obtain ⟨u', b1, b2⟩ := hp u a2
  refine ⟨n, o, h1, h2, h3, ⟨⟨u', a1, b2, ?_⟩, by rw [hB]; exact a4⟩, by rw [hB]; exact h5⟩
  unfold yB at a3 ⊢
  rw [b1, hB]
  exact a3
theorem y_entryI {g : yG} {y : MethodName} {ws ws' : List Cond} {rm : Room} {As : List Value} {B : List va_W} {post : Int32 → List va_W → Prop} {mc ms : Nat} {cc : ByteArray} {maxL : Nat} {ty : FieldType} (hy : plainName y.cls = true) (hw : ws = Cond.code y cc maxL (some ty) :: ws') (ha : (lg_sl As).length ≤ maxL) (body : ∀ Z, yC Z g cc maxL ws y.cls → yRi Z rm cc ty post mc ms → yJ Z rm 0 0 B 0 (lv_args 0 As) []) : yM g y ws rm As B post mc ms := by
  intro sz
  refine Met.ofW (cc := cc) (maxL := maxL) (ret := some ty) hy hw ?_
  intro p e s m args below meth c s₁ BL hml hv
  obtain ⟨rfl, hsz, hP, ⟨hK, hN⟩, hD0⟩ := hv
  subst hsz
  have hl := lv_entry As ha
  rw [lg_entry_eq]
  refine body (p, g.1, e, s, m, As.toArray, below, meth, c, MQ below (va_Qi post (yB g B s.heap.size) (va_A B.flatten s.heap.size)) As.toArray s mc ms (va_A B.flatten s.heap.size), g.2.1, yTy g, va_A B.flatten s.heap.size, maxL) ⟨rfl, rfl, rfl, rfl, BL.exec, BL.bytes, hml, findClass_of_methodNamed BL.named, atoms_spec (ws := ws) BL.pre, BL.notSynchronized, hK, hN, fun q h => Or.inr h⟩ ?_ s.heap [] _ hP hD0.self va_S.rf hl
  intro pc hdg r L lv k n hnr hk hn hp H locs ls hP hD hS _
  refine W.widen hk hn ?_
  exact W.zret (v := r) BL.exec BL.bytes BL.returns hnr (fun t ht _ => ⟨⟨r, L, rfl, hp, by rw [ht]; exact hP, hD⟩, hS.F ht⟩) hS.2.2 hdg BL.notSynchronized
theorem y_entryV {g : yG} {y : MethodName} {ws ws' : List Cond} {rm : Room} {As : List Value} {B : List va_W} {post : List va_W → Prop} {mc ms : Nat} {cc : ByteArray} {maxL : Nat} (hy : plainName y.cls = true) (hw : ws = Cond.code y cc maxL none :: ws') (ha : (lg_sl As).length ≤ maxL) (body : ∀ Z, yC Z g cc maxL ws y.cls → (y.name = "<init>" → yIn Z) → yRv Z rm cc post mc ms → yJ Z rm 0 0 B 0 (lv_args 0 As) []) : yMv g y ws rm As B post mc ms := by
  intro sz
  refine Met.ofW (cc := cc) (maxL := maxL) (ret := none) hy hw ?_
  intro p e s m args below meth c s₁ BL hml hv
  obtain ⟨rfl, hsz, hP, ⟨hK, hN⟩, hD0⟩ := hv
  subst hsz
  have hl := lv_entry As ha
  rw [lg_entry_eq]
  refine body (p, g.1, e, s, m, As.toArray, below, meth, c, MQ below (va_Qv post (yB g B s.heap.size) (va_A B.flatten s.heap.size)) As.toArray s mc ms (va_A B.flatten s.heap.size), g.2.1, yTy g, va_A B.flatten s.heap.size, maxL) ⟨rfl, rfl, rfl, rfl, BL.exec, BL.bytes, hml, findClass_of_methodNamed BL.named, atoms_spec (ws := ws) BL.pre, BL.notSynchronized, hK, hN, fun q h => Or.inr h⟩ (fun h => (name_of_methodNamed BL.named BL.method).1.trans h) ?_ s.heap [] _ hP hD0.self va_S.rf hl
  intro pc hdg L lv k n hk hn hp H locs ls hP hD hS _
  refine W.widen hk hn ?_
  exact W.vret BL.exec BL.bytes BL.returns (fun t ht _ => ⟨⟨L, rfl, hp, by rw [ht]; exact hP, hD⟩, hS.F ht⟩) hS.2.2 hdg BL.notSynchronized
theorem y_iconst {Z : yZ} {g : yG} {R : Room} {k n : Nat} {L : List va_W} {lv : List (Nat × Value)} {st : List Value} {cc : ByteArray} {nL : Nat} {Ts : List Cond} {own : String} {pc : Nat} {z : Int} {v : Int32} (C : yC Z g cc nL Ts own) (hdg : decode cc pc = .ok (.iconst z, 1)) (hv : Int32.ofInt z = v) (K : yJ Z R k n L (pc + 1) lv (.int v :: st)) : yJ Z R k n L pc lv (st) := by
  obtain ⟨p, l, e, s, m, args, below, meth, c, Q, D, tys, A, nL'⟩ := Z
  obtain ⟨rfl, rfl, rfl, rfl, hx, hb, hml, hown, hts, hlk, hK, hN, hA⟩ := C
  intro H locs ls hP hD hS hl
  exact lv_iconst hx hb hdg hv (K H locs ls hP hD hS hl)
theorem y_bipush {Z : yZ} {g : yG} {R : Room} {k n : Nat} {L : List va_W} {lv : List (Nat × Value)} {st : List Value} {cc : ByteArray} {nL : Nat} {Ts : List Cond} {own : String} {pc : Nat} {z : Int} {v : Int32} (C : yC Z g cc nL Ts own) (hdg : decode cc pc = .ok (.bipush z, 2)) (hv : (Int8.ofInt z).toInt32 = v) (K : yJ Z R k n L (pc + 2) lv (.int v :: st)) : yJ Z R k n L pc lv (st) := by
  obtain ⟨p, l, e, s, m, args, below, meth, c, Q, D, tys, A, nL'⟩ := Z
  obtain ⟨rfl, rfl, rfl, rfl, hx, hb, hml, hown, hts, hlk, hK, hN, hA⟩ := C
  intro H locs ls hP hD hS hl
  exact lv_bipush hx hb hdg hv (K H locs ls hP hD hS hl)
theorem y_sipush {Z : yZ} {g : yG} {R : Room} {k n : Nat} {L : List va_W} {lv : List (Nat × Value)} {st : List Value} {cc : ByteArray} {nL : Nat} {Ts : List Cond} {own : String} {pc : Nat} {z : Int} {v : Int32} (C : yC Z g cc nL Ts own) (hdg : decode cc pc = .ok (.sipush z, 3)) (hv : (Int16.ofInt z).toInt32 = v) (K : yJ Z R k n L (pc + 3) lv (.int v :: st)) : yJ Z R k n L pc lv (st) := by
  obtain ⟨p, l, e, s, m, args, below, meth, c, Q, D, tys, A, nL'⟩ := Z
  obtain ⟨rfl, rfl, rfl, rfl, hx, hb, hml, hown, hts, hlk, hK, hN, hA⟩ := C
  intro H locs ls hP hD hS hl
  exact lv_sipush hx hb hdg hv (K H locs ls hP hD hS hl)
theorem y_lconst {Z : yZ} {g : yG} {R : Room} {k n : Nat} {L : List va_W} {lv : List (Nat × Value)} {st : List Value} {cc : ByteArray} {nL : Nat} {Ts : List Cond} {own : String} {pc : Nat} {z : Fin 2} {v : Int64} (C : yC Z g cc nL Ts own) (hdg : decode cc pc = .ok (.lconst z, 1)) (hv : Int64.ofNat (z : Nat) = v) (K : yJ Z R k n L (pc + 1) lv (.long v :: st)) : yJ Z R k n L pc lv (st) := by
  obtain ⟨p, l, e, s, m, args, below, meth, c, Q, D, tys, A, nL'⟩ := Z
  obtain ⟨rfl, rfl, rfl, rfl, hx, hb, hml, hown, hts, hlk, hK, hN, hA⟩ := C
  intro H locs ls hP hD hS hl
  exact lv_lconst hx hb hdg hv (K H locs ls hP hD hS hl)
theorem y_iload_n {Z : yZ} {g : yG} {R : Room} {k n : Nat} {L : List va_W} {lv : List (Nat × Value)} {st : List Value} {cc : ByteArray} {nL : Nat} {Ts : List Cond} {own : String} {pc : Nat} {q : Fin 4} {i : Nat} {x : Int32} (C : yC Z g cc nL Ts own) (hdg : decode cc pc = .ok (.iload_n q, 1)) (j : Nat) (hq : (q : Nat) = i) (hj : lv[j]? = some (i, .int x)) (K : yJ Z R k n L (pc + 1) lv (.int x :: st)) : yJ Z R k n L pc lv (st) := by
  obtain ⟨p, l, e, s, m, args, below, meth, c, Q, D, tys, A, nL'⟩ := Z
  obtain ⟨rfl, rfl, rfl, rfl, hx, hb, hml, hown, hts, hlk, hK, hN, hA⟩ := C
  intro H locs ls hP hD hS hl
  exact lv_iload_n hx hb hdg hq (lv_at hl j hj) (K H locs ls hP hD hS hl)
theorem y_iload {Z : yZ} {g : yG} {R : Room} {k n : Nat} {L : List va_W} {lv : List (Nat × Value)} {st : List Value} {cc : ByteArray} {nL : Nat} {Ts : List Cond} {own : String} {pc : Nat} {i : Nat} {x : Int32} (C : yC Z g cc nL Ts own) (hdg : decode cc pc = .ok (.iload i, 2)) (j : Nat) (hj : lv[j]? = some (i, .int x)) (K : yJ Z R k n L (pc + 2) lv (.int x :: st)) : yJ Z R k n L pc lv (st) := by
  obtain ⟨p, l, e, s, m, args, below, meth, c, Q, D, tys, A, nL'⟩ := Z
  obtain ⟨rfl, rfl, rfl, rfl, hx, hb, hml, hown, hts, hlk, hK, hN, hA⟩ := C
  intro H locs ls hP hD hS hl
  exact lv_iload hx hb hdg (lv_at hl j hj) (K H locs ls hP hD hS hl)
theorem y_lload_n {Z : yZ} {g : yG} {R : Room} {k n : Nat} {L : List va_W} {lv : List (Nat × Value)} {st : List Value} {cc : ByteArray} {nL : Nat} {Ts : List Cond} {own : String} {pc : Nat} {q : Fin 4} {i : Nat} {x : Int64} (C : yC Z g cc nL Ts own) (hdg : decode cc pc = .ok (.lload_n q, 1)) (j : Nat) (hq : (q : Nat) = i) (hj : lv[j]? = some (i, .long x)) (K : yJ Z R k n L (pc + 1) lv (.long x :: st)) : yJ Z R k n L pc lv (st) := by
  obtain ⟨p, l, e, s, m, args, below, meth, c, Q, D, tys, A, nL'⟩ := Z
  obtain ⟨rfl, rfl, rfl, rfl, hx, hb, hml, hown, hts, hlk, hK, hN, hA⟩ := C
  intro H locs ls hP hD hS hl
  exact lv_lload_n hx hb hdg hq (lv_at hl j hj) (K H locs ls hP hD hS hl)
theorem y_lload {Z : yZ} {g : yG} {R : Room} {k n : Nat} {L : List va_W} {lv : List (Nat × Value)} {st : List Value} {cc : ByteArray} {nL : Nat} {Ts : List Cond} {own : String} {pc : Nat} {i : Nat} {x : Int64} (C : yC Z g cc nL Ts own) (hdg : decode cc pc = .ok (.lload i, 2)) (j : Nat) (hj : lv[j]? = some (i, .long x)) (K : yJ Z R k n L (pc + 2) lv (.long x :: st)) : yJ Z R k n L pc lv (st) := by
  obtain ⟨p, l, e, s, m, args, below, meth, c, Q, D, tys, A, nL'⟩ := Z
  obtain ⟨rfl, rfl, rfl, rfl, hx, hb, hml, hown, hts, hlk, hK, hN, hA⟩ := C
  intro H locs ls hP hD hS hl
  exact lv_lload hx hb hdg (lv_at hl j hj) (K H locs ls hP hD hS hl)
theorem y_aload_n {Z : yZ} {g : yG} {R : Room} {k n : Nat} {L : List va_W} {lv : List (Nat × Value)} {st : List Value} {cc : ByteArray} {nL : Nat} {Ts : List Cond} {own : String} {pc : Nat} {q : Fin 4} {i : Nat} {x : Nat} (C : yC Z g cc nL Ts own) (hdg : decode cc pc = .ok (.aload_n q, 1)) (j : Nat) (hq : (q : Nat) = i) (hj : lv[j]? = some (i, .ref x)) (K : yJ Z R k n L (pc + 1) lv (.ref x :: st)) : yJ Z R k n L pc lv (st) := by
  obtain ⟨p, l, e, s, m, args, below, meth, c, Q, D, tys, A, nL'⟩ := Z
  obtain ⟨rfl, rfl, rfl, rfl, hx, hb, hml, hown, hts, hlk, hK, hN, hA⟩ := C
  intro H locs ls hP hD hS hl
  exact lv_aload_n hx hb hdg hq (lv_at hl j hj) (K H locs ls hP hD hS hl)
theorem y_aload {Z : yZ} {g : yG} {R : Room} {k n : Nat} {L : List va_W} {lv : List (Nat × Value)} {st : List Value} {cc : ByteArray} {nL : Nat} {Ts : List Cond} {own : String} {pc : Nat} {i : Nat} {x : Nat} (C : yC Z g cc nL Ts own) (hdg : decode cc pc = .ok (.aload i, 2)) (j : Nat) (hj : lv[j]? = some (i, .ref x)) (K : yJ Z R k n L (pc + 2) lv (.ref x :: st)) : yJ Z R k n L pc lv (st) := by
  obtain ⟨p, l, e, s, m, args, below, meth, c, Q, D, tys, A, nL'⟩ := Z
  obtain ⟨rfl, rfl, rfl, rfl, hx, hb, hml, hown, hts, hlk, hK, hN, hA⟩ := C
  intro H locs ls hP hD hS hl
  exact lv_aload hx hb hdg (lv_at hl j hj) (K H locs ls hP hD hS hl)
theorem y_istore_n {Z : yZ} {g : yG} {R : Room} {k n : Nat} {L : List va_W} {lv : List (Nat × Value)} {st : List Value} {cc : ByteArray} {nL : Nat} {Ts : List Cond} {own : String} {pc : Nat} {q : Fin 4} {i : Nat} {x : Int32} {lv' : List (Nat × Value)} (C : yC Z g cc nL Ts own) (hdg : decode cc pc = .ok (.istore_n q, 1)) (hq : (q : Nat) = i) (hn : i < nL) (hl' : (i, Value.int x) :: lv.filter (fun q => !(q.1 == i) && !(q.1 + 1 == i && q.2.category == 2)) = lv') (K : yJ Z R k n L (pc + 1) lv' (st)) : yJ Z R k n L pc lv (.int x :: st) := by
  obtain ⟨p, l, e, s, m, args, below, meth, c, Q, D, tys, A, nL'⟩ := Z
  obtain ⟨rfl, rfl, rfl, rfl, hx, hb, hml, hown, hts, hlk, hK, hN, hA⟩ := C
  intro H locs ls hP hD hS hl
  exact lv_istore_n hx hb hdg hq hl hn hl' (fun ls' hl' => K H locs ls' hP hD hS hl')
theorem y_istore {Z : yZ} {g : yG} {R : Room} {k n : Nat} {L : List va_W} {lv : List (Nat × Value)} {st : List Value} {cc : ByteArray} {nL : Nat} {Ts : List Cond} {own : String} {pc : Nat} {i : Nat} {x : Int32} {lv' : List (Nat × Value)} (C : yC Z g cc nL Ts own) (hdg : decode cc pc = .ok (.istore i, 2)) (hn : i < nL) (hl' : (i, Value.int x) :: lv.filter (fun q => !(q.1 == i) && !(q.1 + 1 == i && q.2.category == 2)) = lv') (K : yJ Z R k n L (pc + 2) lv' (st)) : yJ Z R k n L pc lv (.int x :: st) := by
  obtain ⟨p, l, e, s, m, args, below, meth, c, Q, D, tys, A, nL'⟩ := Z
  obtain ⟨rfl, rfl, rfl, rfl, hx, hb, hml, hown, hts, hlk, hK, hN, hA⟩ := C
  intro H locs ls hP hD hS hl
  exact lv_istore hx hb hdg hl hn hl' (fun ls' hl' => K H locs ls' hP hD hS hl')
theorem y_astore_n {Z : yZ} {g : yG} {R : Room} {k n : Nat} {L : List va_W} {lv : List (Nat × Value)} {st : List Value} {cc : ByteArray} {nL : Nat} {Ts : List Cond} {own : String} {pc : Nat} {q : Fin 4} {i : Nat} {x : Nat} {lv' : List (Nat × Value)} (C : yC Z g cc nL Ts own) (hdg : decode cc pc = .ok (.astore_n q, 1)) (hq : (q : Nat) = i) (hn : i < nL) (hl' : (i, Value.ref x) :: lv.filter (fun q => !(q.1 == i) && !(q.1 + 1 == i && q.2.category == 2)) = lv') (K : yJ Z R k n L (pc + 1) lv' (st)) : yJ Z R k n L pc lv (.ref x :: st) := by
  obtain ⟨p, l, e, s, m, args, below, meth, c, Q, D, tys, A, nL'⟩ := Z
  obtain ⟨rfl, rfl, rfl, rfl, hx, hb, hml, hown, hts, hlk, hK, hN, hA⟩ := C
  intro H locs ls hP hD hS hl
  exact lv_astore_n hx hb hdg hq hl hn hl' (fun ls' hl' => K H locs ls' hP hD hS hl')
theorem y_astore {Z : yZ} {g : yG} {R : Room} {k n : Nat} {L : List va_W} {lv : List (Nat × Value)} {st : List Value} {cc : ByteArray} {nL : Nat} {Ts : List Cond} {own : String} {pc : Nat} {i : Nat} {x : Nat} {lv' : List (Nat × Value)} (C : yC Z g cc nL Ts own) (hdg : decode cc pc = .ok (.astore i, 2)) (hn : i < nL) (hl' : (i, Value.ref x) :: lv.filter (fun q => !(q.1 == i) && !(q.1 + 1 == i && q.2.category == 2)) = lv') (K : yJ Z R k n L (pc + 2) lv' (st)) : yJ Z R k n L pc lv (.ref x :: st) := by
  obtain ⟨p, l, e, s, m, args, below, meth, c, Q, D, tys, A, nL'⟩ := Z
  obtain ⟨rfl, rfl, rfl, rfl, hx, hb, hml, hown, hts, hlk, hK, hN, hA⟩ := C
  intro H locs ls hP hD hS hl
  exact lv_astore hx hb hdg hl hn hl' (fun ls' hl' => K H locs ls' hP hD hS hl')
theorem y_lstore {Z : yZ} {g : yG} {R : Room} {k n : Nat} {L : List va_W} {lv : List (Nat × Value)} {st : List Value} {cc : ByteArray} {nL : Nat} {Ts : List Cond} {own : String} {pc : Nat} {i : Nat} {x : Int64} {lv' : List (Nat × Value)} (C : yC Z g cc nL Ts own) (hdg : decode cc pc = .ok (.lstore i, 2)) (hn : i + 1 < nL) (hl' : (i, Value.long x) :: lv.filter (fun q => !(q.1 == i) && (!(q.1 == i + 1) && !(q.1 + 1 == i && q.2.category == 2))) = lv') (K : yJ Z R k n L (pc + 2) lv' (st)) : yJ Z R k n L pc lv (.long x :: st) := by
  obtain ⟨p, l, e, s, m, args, below, meth, c, Q, D, tys, A, nL'⟩ := Z
  obtain ⟨rfl, rfl, rfl, rfl, hx, hb, hml, hown, hts, hlk, hK, hN, hA⟩ := C
  intro H locs ls hP hD hS hl
  exact lv_lstore hx hb hdg hl hn hl' (fun ls' hl' => K H locs ls' hP hD hS hl')
theorem y_iinc {Z : yZ} {g : yG} {R : Room} {k n : Nat} {L : List va_W} {lv : List (Nat × Value)} {st : List Value} {cc : ByteArray} {nL : Nat} {Ts : List Cond} {own : String} {pc : Nat} {i : Nat} {z : Int} {x v : Int32} {lv' : List (Nat × Value)} (C : yC Z g cc nL Ts own) (hdg : decode cc pc = .ok (.iinc i z, 3)) (j : Nat) (hj : lv[j]? = some (i, .int x)) (hv : x + Int32.ofInt z = v) (hn : i < nL) (hl' : (i, Value.int v) :: lv.filter (fun q => !(q.1 == i) && !(q.1 + 1 == i && q.2.category == 2)) = lv') (K : yJ Z R k n L (pc + 3) lv' (st)) : yJ Z R k n L pc lv (st) := by
  obtain ⟨p, l, e, s, m, args, below, meth, c, Q, D, tys, A, nL'⟩ := Z
  obtain ⟨rfl, rfl, rfl, rfl, hx, hb, hml, hown, hts, hlk, hK, hN, hA⟩ := C
  intro H locs ls hP hD hS hl
  exact lv_iinc hx hb hdg hl hj hv hn hl' (fun ls' hl' => K H locs ls' hP hD hS hl')
theorem y_dup {Z : yZ} {g : yG} {R : Room} {k n : Nat} {L : List va_W} {lv : List (Nat × Value)} {st : List Value} {cc : ByteArray} {nL : Nat} {Ts : List Cond} {own : String} {pc : Nat} {v : Value} (C : yC Z g cc nL Ts own) (hdg : decode cc pc = .ok (.dup, 1)) (hv : v.category = 1) (K : yJ Z R k n L (pc + 1) lv (v :: v :: st)) : yJ Z R k n L pc lv (v :: st) := by
  obtain ⟨p, l, e, s, m, args, below, meth, c, Q, D, tys, A, nL'⟩ := Z
  obtain ⟨rfl, rfl, rfl, rfl, hx, hb, hml, hown, hts, hlk, hK, hN, hA⟩ := C
  intro H locs ls hP hD hS hl
  exact lv_dup hx hb hdg hv (K H locs ls hP hD hS hl)
theorem y_pop {Z : yZ} {g : yG} {R : Room} {k n : Nat} {L : List va_W} {lv : List (Nat × Value)} {st : List Value} {cc : ByteArray} {nL : Nat} {Ts : List Cond} {own : String} {pc : Nat} {v : Value} (C : yC Z g cc nL Ts own) (hdg : decode cc pc = .ok (.pop, 1)) (hv : v.category = 1) (K : yJ Z R k n L (pc + 1) lv (st)) : yJ Z R k n L pc lv (v :: st) := by
  obtain ⟨p, l, e, s, m, args, below, meth, c, Q, D, tys, A, nL'⟩ := Z
  obtain ⟨rfl, rfl, rfl, rfl, hx, hb, hml, hown, hts, hlk, hK, hN, hA⟩ := C
  intro H locs ls hP hD hS hl
  exact lv_pop hx hb hdg hv (K H locs ls hP hD hS hl)
theorem y_iadd {Z : yZ} {g : yG} {R : Room} {k n : Nat} {L : List va_W} {lv : List (Nat × Value)} {st : List Value} {cc : ByteArray} {nL : Nat} {Ts : List Cond} {own : String} {pc : Nat} {x y : Int32} (C : yC Z g cc nL Ts own) (hdg : decode cc pc = .ok (.iadd, 1))  (K : yJ Z R k n L (pc + 1) lv (.int (x + y) :: st)) : yJ Z R k n L pc lv (.int y :: .int x :: st) := by
  obtain ⟨p, l, e, s, m, args, below, meth, c, Q, D, tys, A, nL'⟩ := Z
  obtain ⟨rfl, rfl, rfl, rfl, hx, hb, hml, hown, hts, hlk, hK, hN, hA⟩ := C
  intro H locs ls hP hD hS hl
  exact lv_iadd hx hb hdg (K H locs ls hP hD hS hl)
theorem y_isub {Z : yZ} {g : yG} {R : Room} {k n : Nat} {L : List va_W} {lv : List (Nat × Value)} {st : List Value} {cc : ByteArray} {nL : Nat} {Ts : List Cond} {own : String} {pc : Nat} {x y : Int32} (C : yC Z g cc nL Ts own) (hdg : decode cc pc = .ok (.isub, 1))  (K : yJ Z R k n L (pc + 1) lv (.int (x - y) :: st)) : yJ Z R k n L pc lv (.int y :: .int x :: st) := by
  obtain ⟨p, l, e, s, m, args, below, meth, c, Q, D, tys, A, nL'⟩ := Z
  obtain ⟨rfl, rfl, rfl, rfl, hx, hb, hml, hown, hts, hlk, hK, hN, hA⟩ := C
  intro H locs ls hP hD hS hl
  exact lv_isub hx hb hdg (K H locs ls hP hD hS hl)
theorem y_imul {Z : yZ} {g : yG} {R : Room} {k n : Nat} {L : List va_W} {lv : List (Nat × Value)} {st : List Value} {cc : ByteArray} {nL : Nat} {Ts : List Cond} {own : String} {pc : Nat} {x y : Int32} (C : yC Z g cc nL Ts own) (hdg : decode cc pc = .ok (.imul, 1))  (K : yJ Z R k n L (pc + 1) lv (.int (x * y) :: st)) : yJ Z R k n L pc lv (.int y :: .int x :: st) := by
  obtain ⟨p, l, e, s, m, args, below, meth, c, Q, D, tys, A, nL'⟩ := Z
  obtain ⟨rfl, rfl, rfl, rfl, hx, hb, hml, hown, hts, hlk, hK, hN, hA⟩ := C
  intro H locs ls hP hD hS hl
  exact lv_imul hx hb hdg (K H locs ls hP hD hS hl)
theorem y_iand {Z : yZ} {g : yG} {R : Room} {k n : Nat} {L : List va_W} {lv : List (Nat × Value)} {st : List Value} {cc : ByteArray} {nL : Nat} {Ts : List Cond} {own : String} {pc : Nat} {x y : Int32} (C : yC Z g cc nL Ts own) (hdg : decode cc pc = .ok (.iand, 1))  (K : yJ Z R k n L (pc + 1) lv (.int (x &&& y) :: st)) : yJ Z R k n L pc lv (.int y :: .int x :: st) := by
  obtain ⟨p, l, e, s, m, args, below, meth, c, Q, D, tys, A, nL'⟩ := Z
  obtain ⟨rfl, rfl, rfl, rfl, hx, hb, hml, hown, hts, hlk, hK, hN, hA⟩ := C
  intro H locs ls hP hD hS hl
  exact lv_iand hx hb hdg (K H locs ls hP hD hS hl)
theorem y_ishr {Z : yZ} {g : yG} {R : Room} {k n : Nat} {L : List va_W} {lv : List (Nat × Value)} {st : List Value} {cc : ByteArray} {nL : Nat} {Ts : List Cond} {own : String} {pc : Nat} {x y : Int32} (C : yC Z g cc nL Ts own) (hdg : decode cc pc = .ok (.ishr, 1))  (K : yJ Z R k n L (pc + 1) lv (.int (x >>> (y &&& 31)) :: st)) : yJ Z R k n L pc lv (.int y :: .int x :: st) := by
  obtain ⟨p, l, e, s, m, args, below, meth, c, Q, D, tys, A, nL'⟩ := Z
  obtain ⟨rfl, rfl, rfl, rfl, hx, hb, hml, hown, hts, hlk, hK, hN, hA⟩ := C
  intro H locs ls hP hD hS hl
  exact lv_ishr hx hb hdg (K H locs ls hP hD hS hl)
theorem y_idiv {Z : yZ} {g : yG} {R : Room} {k n : Nat} {L : List va_W} {lv : List (Nat × Value)} {st : List Value} {cc : ByteArray} {nL : Nat} {Ts : List Cond} {own : String} {pc : Nat} {x y : Int32} (C : yC Z g cc nL Ts own) (hdg : decode cc pc = .ok (.idiv, 1)) (hne : ¬ y = 0) (K : yJ Z R k n L (pc + 1) lv (.int (x / y) :: st)) : yJ Z R k n L pc lv (.int y :: .int x :: st) := by
  obtain ⟨p, l, e, s, m, args, below, meth, c, Q, D, tys, A, nL'⟩ := Z
  obtain ⟨rfl, rfl, rfl, rfl, hx, hb, hml, hown, hts, hlk, hK, hN, hA⟩ := C
  intro H locs ls hP hD hS hl
  exact lv_idiv hx hb hdg hne (K H locs ls hP hD hS hl)
theorem y_irem {Z : yZ} {g : yG} {R : Room} {k n : Nat} {L : List va_W} {lv : List (Nat × Value)} {st : List Value} {cc : ByteArray} {nL : Nat} {Ts : List Cond} {own : String} {pc : Nat} {x y : Int32} (C : yC Z g cc nL Ts own) (hdg : decode cc pc = .ok (.irem, 1)) (hne : ¬ y = 0) (K : yJ Z R k n L (pc + 1) lv (.int (x - x / y * y) :: st)) : yJ Z R k n L pc lv (.int y :: .int x :: st) := by
  obtain ⟨p, l, e, s, m, args, below, meth, c, Q, D, tys, A, nL'⟩ := Z
  obtain ⟨rfl, rfl, rfl, rfl, hx, hb, hml, hown, hts, hlk, hK, hN, hA⟩ := C
  intro H locs ls hP hD hS hl
  exact lv_irem hx hb hdg hne (K H locs ls hP hD hS hl)
theorem y_land {Z : yZ} {g : yG} {R : Room} {k n : Nat} {L : List va_W} {lv : List (Nat × Value)} {st : List Value} {cc : ByteArray} {nL : Nat} {Ts : List Cond} {own : String} {pc : Nat} {x y : Int64} (C : yC Z g cc nL Ts own) (hdg : decode cc pc = .ok (.land, 1))  (K : yJ Z R k n L (pc + 1) lv (.long (x &&& y) :: st)) : yJ Z R k n L pc lv (.long y :: .long x :: st) := by
  obtain ⟨p, l, e, s, m, args, below, meth, c, Q, D, tys, A, nL'⟩ := Z
  obtain ⟨rfl, rfl, rfl, rfl, hx, hb, hml, hown, hts, hlk, hK, hN, hA⟩ := C
  intro H locs ls hP hD hS hl
  exact lv_land hx hb hdg (K H locs ls hP hD hS hl)
theorem y_lor {Z : yZ} {g : yG} {R : Room} {k n : Nat} {L : List va_W} {lv : List (Nat × Value)} {st : List Value} {cc : ByteArray} {nL : Nat} {Ts : List Cond} {own : String} {pc : Nat} {x y : Int64} (C : yC Z g cc nL Ts own) (hdg : decode cc pc = .ok (.lor, 1))  (K : yJ Z R k n L (pc + 1) lv (.long (x ||| y) :: st)) : yJ Z R k n L pc lv (.long y :: .long x :: st) := by
  obtain ⟨p, l, e, s, m, args, below, meth, c, Q, D, tys, A, nL'⟩ := Z
  obtain ⟨rfl, rfl, rfl, rfl, hx, hb, hml, hown, hts, hlk, hK, hN, hA⟩ := C
  intro H locs ls hP hD hS hl
  exact lv_lor hx hb hdg (K H locs ls hP hD hS hl)
theorem y_lushr {Z : yZ} {g : yG} {R : Room} {k n : Nat} {L : List va_W} {lv : List (Nat × Value)} {st : List Value} {cc : ByteArray} {nL : Nat} {Ts : List Cond} {own : String} {pc : Nat} {x v : Int64} {y : Int32} (C : yC Z g cc nL Ts own) (hdg : decode cc pc = .ok (.lushr, 1)) (hv : (x.toUInt64 >>> (y.toInt64.toUInt64 &&& Int64.toUInt64 63)).toInt64 = v) (K : yJ Z R k n L (pc + 1) lv (.long v :: st)) : yJ Z R k n L pc lv (.int y :: .long x :: st) := by
  obtain ⟨p, l, e, s, m, args, below, meth, c, Q, D, tys, A, nL'⟩ := Z
  obtain ⟨rfl, rfl, rfl, rfl, hx, hb, hml, hown, hts, hlk, hK, hN, hA⟩ := C
  intro H locs ls hP hD hS hl
  exact lv_lushr hx hb hdg hv (K H locs ls hP hD hS hl)
theorem y_lshl {Z : yZ} {g : yG} {R : Room} {k n : Nat} {L : List va_W} {lv : List (Nat × Value)} {st : List Value} {cc : ByteArray} {nL : Nat} {Ts : List Cond} {own : String} {pc : Nat} {x v : Int64} {y : Int32} (C : yC Z g cc nL Ts own) (hdg : decode cc pc = .ok (.lshl, 1)) (hv : x <<< (y.toInt64 &&& 63) = v) (K : yJ Z R k n L (pc + 1) lv (.long v :: st)) : yJ Z R k n L pc lv (.int y :: .long x :: st) := by
  obtain ⟨p, l, e, s, m, args, below, meth, c, Q, D, tys, A, nL'⟩ := Z
  obtain ⟨rfl, rfl, rfl, rfl, hx, hb, hml, hown, hts, hlk, hK, hN, hA⟩ := C
  intro H locs ls hP hD hS hl
  exact lv_lshl hx hb hdg hv (K H locs ls hP hD hS hl)
theorem y_l2i {Z : yZ} {g : yG} {R : Room} {k n : Nat} {L : List va_W} {lv : List (Nat × Value)} {st : List Value} {cc : ByteArray} {nL : Nat} {Ts : List Cond} {own : String} {pc : Nat} {x : Int64} {v : Int32} (C : yC Z g cc nL Ts own) (hdg : decode cc pc = .ok (.l2i, 1)) (hv : x.toInt32 = v) (K : yJ Z R k n L (pc + 1) lv (.int v :: st)) : yJ Z R k n L pc lv (.long x :: st) := by
  obtain ⟨p, l, e, s, m, args, below, meth, c, Q, D, tys, A, nL'⟩ := Z
  obtain ⟨rfl, rfl, rfl, rfl, hx, hb, hml, hown, hts, hlk, hK, hN, hA⟩ := C
  intro H locs ls hP hD hS hl
  exact lv_l2i hx hb hdg hv (K H locs ls hP hD hS hl)
theorem y_i2l {Z : yZ} {g : yG} {R : Room} {k n : Nat} {L : List va_W} {lv : List (Nat × Value)} {st : List Value} {cc : ByteArray} {nL : Nat} {Ts : List Cond} {own : String} {pc : Nat} {x : Int32} {v : Int64} (C : yC Z g cc nL Ts own) (hdg : decode cc pc = .ok (.i2l, 1)) (hv : x.toInt64 = v) (K : yJ Z R k n L (pc + 1) lv (.long v :: st)) : yJ Z R k n L pc lv (.int x :: st) := by
  obtain ⟨p, l, e, s, m, args, below, meth, c, Q, D, tys, A, nL'⟩ := Z
  obtain ⟨rfl, rfl, rfl, rfl, hx, hb, hml, hown, hts, hlk, hK, hN, hA⟩ := C
  intro H locs ls hP hD hS hl
  exact lv_i2l hx hb hdg hv (K H locs ls hP hD hS hl)
theorem y_lcmp {Z : yZ} {g : yG} {R : Room} {k n : Nat} {L : List va_W} {lv : List (Nat × Value)} {st : List Value} {cc : ByteArray} {nL : Nat} {Ts : List Cond} {own : String} {pc : Nat} {x y : Int64} (C : yC Z g cc nL Ts own) (hdg : decode cc pc = .ok (.lcmp, 1))  (K : yJ Z R k n L (pc + 1) lv (.int (lg_cmp x y) :: st)) : yJ Z R k n L pc lv (.long y :: .long x :: st) := by
  obtain ⟨p, l, e, s, m, args, below, meth, c, Q, D, tys, A, nL'⟩ := Z
  obtain ⟨rfl, rfl, rfl, rfl, hx, hb, hml, hown, hts, hlk, hK, hN, hA⟩ := C
  intro H locs ls hP hD hS hl
  exact W.lcmp hx hb hdg (K H locs ls hP hD hS hl)
theorem y_goto {Z : yZ} {g : yG} {R : Room} {k n : Nat} {L : List va_W} {lv : List (Nat × Value)} {st : List Value} {cc : ByteArray} {nL : Nat} {Ts : List Cond} {own : String} {pc : Nat}  {off : Int} {tgt : Nat} (C : yC Z g cc nL Ts own) (hdg : decode cc pc = .ok (.goto off, 3)) (ht : (pc : Int) + off = (tgt : Int)) (K : yJ Z R k n L tgt lv st) : yJ Z R k n L pc lv (st) := by
  obtain ⟨p, l, e, s, m, args, below, meth, c, Q, D, tys, A, nL'⟩ := Z
  obtain ⟨rfl, rfl, rfl, rfl, hx, hb, hml, hown, hts, hlk, hK, hN, hA⟩ := C
  intro H locs ls hP hD hS hl
  exact lv_goto hx hb hdg ht (K H locs ls hP hD hS hl)
theorem y_icmp_eq {Z : yZ} {g : yG} {R : Room} {k n : Nat} {L : List va_W} {lv : List (Nat × Value)} {st : List Value} {cc : ByteArray} {nL : Nat} {Ts : List Cond} {own : String} {pc : Nat} {x y : Int32} {P F : Prop} {off : Int} {tgt : Nat} (C : yC Z g cc nL Ts own) (hdg : decode cc pc = .ok (.if_icmp .eq off, 3)) (ht : (pc : Int) + off = (tgt : Int)) (h : if x = y then P else F) (KT : x = y → P → yJ Z R k n L tgt lv st) (KF : ¬ x = y → F → yJ Z R k n L (pc + 3) lv st) : yJ Z R k n L pc lv (.int y :: .int x :: st) := by
  obtain ⟨p, l, e, s, m, args, below, meth, c, Q, D, tys, A, nL'⟩ := Z
  obtain ⟨rfl, rfl, rfl, rfl, hx, hb, hml, hown, hts, hlk, hK, hN, hA⟩ := C
  intro H locs ls hP hD hS hl
  exact lv_icmp_eq hx hb hdg ht (fun c => KT c (by rw [if_pos c] at h; exact h) H locs ls hP hD hS hl) (fun c => KF c (by rw [if_neg c] at h; exact h) H locs ls hP hD hS hl)
theorem y_icmp_ne {Z : yZ} {g : yG} {R : Room} {k n : Nat} {L : List va_W} {lv : List (Nat × Value)} {st : List Value} {cc : ByteArray} {nL : Nat} {Ts : List Cond} {own : String} {pc : Nat} {x y : Int32} {P F : Prop} {off : Int} {tgt : Nat} (C : yC Z g cc nL Ts own) (hdg : decode cc pc = .ok (.if_icmp .ne off, 3)) (ht : (pc : Int) + off = (tgt : Int)) (h : if x = y then P else F) (KT : ¬ x = y → F → yJ Z R k n L tgt lv st) (KF : x = y → P → yJ Z R k n L (pc + 3) lv st) : yJ Z R k n L pc lv (.int y :: .int x :: st) := by
  obtain ⟨p, l, e, s, m, args, below, meth, c, Q, D, tys, A, nL'⟩ := Z
  obtain ⟨rfl, rfl, rfl, rfl, hx, hb, hml, hown, hts, hlk, hK, hN, hA⟩ := C
  intro H locs ls hP hD hS hl
  exact lv_icmp_ne hx hb hdg ht (fun c => KT c (by rw [if_neg c] at h; exact h) H locs ls hP hD hS hl) (fun c => KF c (by rw [if_pos c] at h; exact h) H locs ls hP hD hS hl)
theorem y_icmp_lt {Z : yZ} {g : yG} {R : Room} {k n : Nat} {L : List va_W} {lv : List (Nat × Value)} {st : List Value} {cc : ByteArray} {nL : Nat} {Ts : List Cond} {own : String} {pc : Nat} {x y : Int32} {P F : Prop} {off : Int} {tgt : Nat} (C : yC Z g cc nL Ts own) (hdg : decode cc pc = .ok (.if_icmp .lt off, 3)) (ht : (pc : Int) + off = (tgt : Int)) (h : if x < y then P else F) (KT : x < y → P → yJ Z R k n L tgt lv st) (KF : ¬ x < y → F → yJ Z R k n L (pc + 3) lv st) : yJ Z R k n L pc lv (.int y :: .int x :: st) := by
  obtain ⟨p, l, e, s, m, args, below, meth, c, Q, D, tys, A, nL'⟩ := Z
  obtain ⟨rfl, rfl, rfl, rfl, hx, hb, hml, hown, hts, hlk, hK, hN, hA⟩ := C
  intro H locs ls hP hD hS hl
  exact lv_icmp_lt hx hb hdg ht (fun c => KT c (by rw [if_pos c] at h; exact h) H locs ls hP hD hS hl) (fun c => KF c (by rw [if_neg c] at h; exact h) H locs ls hP hD hS hl)
theorem y_icmp_ge {Z : yZ} {g : yG} {R : Room} {k n : Nat} {L : List va_W} {lv : List (Nat × Value)} {st : List Value} {cc : ByteArray} {nL : Nat} {Ts : List Cond} {own : String} {pc : Nat} {x y : Int32} {P F : Prop} {off : Int} {tgt : Nat} (C : yC Z g cc nL Ts own) (hdg : decode cc pc = .ok (.if_icmp .ge off, 3)) (ht : (pc : Int) + off = (tgt : Int)) (h : if y ≤ x then P else F) (KT : y ≤ x → P → yJ Z R k n L tgt lv st) (KF : ¬ y ≤ x → F → yJ Z R k n L (pc + 3) lv st) : yJ Z R k n L pc lv (.int y :: .int x :: st) := by
  obtain ⟨p, l, e, s, m, args, below, meth, c, Q, D, tys, A, nL'⟩ := Z
  obtain ⟨rfl, rfl, rfl, rfl, hx, hb, hml, hown, hts, hlk, hK, hN, hA⟩ := C
  intro H locs ls hP hD hS hl
  exact lv_icmp_ge hx hb hdg ht (fun c => KT c (by rw [if_pos c] at h; exact h) H locs ls hP hD hS hl) (fun c => KF c (by rw [if_neg c] at h; exact h) H locs ls hP hD hS hl)
theorem y_icmp_gt {Z : yZ} {g : yG} {R : Room} {k n : Nat} {L : List va_W} {lv : List (Nat × Value)} {st : List Value} {cc : ByteArray} {nL : Nat} {Ts : List Cond} {own : String} {pc : Nat} {x y : Int32} {P F : Prop} {off : Int} {tgt : Nat} (C : yC Z g cc nL Ts own) (hdg : decode cc pc = .ok (.if_icmp .gt off, 3)) (ht : (pc : Int) + off = (tgt : Int)) (h : if y < x then P else F) (KT : y < x → P → yJ Z R k n L tgt lv st) (KF : ¬ y < x → F → yJ Z R k n L (pc + 3) lv st) : yJ Z R k n L pc lv (.int y :: .int x :: st) := by
  obtain ⟨p, l, e, s, m, args, below, meth, c, Q, D, tys, A, nL'⟩ := Z
  obtain ⟨rfl, rfl, rfl, rfl, hx, hb, hml, hown, hts, hlk, hK, hN, hA⟩ := C
  intro H locs ls hP hD hS hl
  exact lv_icmp_gt hx hb hdg ht (fun c => KT c (by rw [if_pos c] at h; exact h) H locs ls hP hD hS hl) (fun c => KF c (by rw [if_neg c] at h; exact h) H locs ls hP hD hS hl)
theorem y_icmp_le {Z : yZ} {g : yG} {R : Room} {k n : Nat} {L : List va_W} {lv : List (Nat × Value)} {st : List Value} {cc : ByteArray} {nL : Nat} {Ts : List Cond} {own : String} {pc : Nat} {x y : Int32} {P F : Prop} {off : Int} {tgt : Nat} (C : yC Z g cc nL Ts own) (hdg : decode cc pc = .ok (.if_icmp .le off, 3)) (ht : (pc : Int) + off = (tgt : Int)) (h : if x ≤ y then P else F) (KT : x ≤ y → P → yJ Z R k n L tgt lv st) (KF : ¬ x ≤ y → F → yJ Z R k n L (pc + 3) lv st) : yJ Z R k n L pc lv (.int y :: .int x :: st) := by
  obtain ⟨p, l, e, s, m, args, below, meth, c, Q, D, tys, A, nL'⟩ := Z
  obtain ⟨rfl, rfl, rfl, rfl, hx, hb, hml, hown, hts, hlk, hK, hN, hA⟩ := C
  intro H locs ls hP hD hS hl
  exact lv_icmp_le hx hb hdg ht (fun c => KT c (by rw [if_pos c] at h; exact h) H locs ls hP hD hS hl) (fun c => KF c (by rw [if_neg c] at h; exact h) H locs ls hP hD hS hl)
theorem y_if_eq {Z : yZ} {g : yG} {R : Room} {k n : Nat} {L : List va_W} {lv : List (Nat × Value)} {st : List Value} {cc : ByteArray} {nL : Nat} {Ts : List Cond} {own : String} {pc : Nat} {x : Int32} {P F : Prop} {off : Int} {tgt : Nat} (C : yC Z g cc nL Ts own) (hdg : decode cc pc = .ok (.ifCond .eq off, 3)) (ht : (pc : Int) + off = (tgt : Int)) (h : if x = 0 then P else F) (KT : x = 0 → P → yJ Z R k n L tgt lv st) (KF : ¬ x = 0 → F → yJ Z R k n L (pc + 3) lv st) : yJ Z R k n L pc lv (.int x :: st) := by
  obtain ⟨p, l, e, s, m, args, below, meth, c, Q, D, tys, A, nL'⟩ := Z
  obtain ⟨rfl, rfl, rfl, rfl, hx, hb, hml, hown, hts, hlk, hK, hN, hA⟩ := C
  intro H locs ls hP hD hS hl
  exact lv_if_eq hx hb hdg ht (fun c => KT c (by rw [if_pos c] at h; exact h) H locs ls hP hD hS hl) (fun c => KF c (by rw [if_neg c] at h; exact h) H locs ls hP hD hS hl)
theorem y_if_ne {Z : yZ} {g : yG} {R : Room} {k n : Nat} {L : List va_W} {lv : List (Nat × Value)} {st : List Value} {cc : ByteArray} {nL : Nat} {Ts : List Cond} {own : String} {pc : Nat} {x : Int32} {P F : Prop} {off : Int} {tgt : Nat} (C : yC Z g cc nL Ts own) (hdg : decode cc pc = .ok (.ifCond .ne off, 3)) (ht : (pc : Int) + off = (tgt : Int)) (h : if x = 0 then P else F) (KT : ¬ x = 0 → F → yJ Z R k n L tgt lv st) (KF : x = 0 → P → yJ Z R k n L (pc + 3) lv st) : yJ Z R k n L pc lv (.int x :: st) := by
  obtain ⟨p, l, e, s, m, args, below, meth, c, Q, D, tys, A, nL'⟩ := Z
  obtain ⟨rfl, rfl, rfl, rfl, hx, hb, hml, hown, hts, hlk, hK, hN, hA⟩ := C
  intro H locs ls hP hD hS hl
  exact lv_if_ne hx hb hdg ht (fun c => KT c (by rw [if_neg c] at h; exact h) H locs ls hP hD hS hl) (fun c => KF c (by rw [if_pos c] at h; exact h) H locs ls hP hD hS hl)
theorem y_if_lt {Z : yZ} {g : yG} {R : Room} {k n : Nat} {L : List va_W} {lv : List (Nat × Value)} {st : List Value} {cc : ByteArray} {nL : Nat} {Ts : List Cond} {own : String} {pc : Nat} {x : Int32} {P F : Prop} {off : Int} {tgt : Nat} (C : yC Z g cc nL Ts own) (hdg : decode cc pc = .ok (.ifCond .lt off, 3)) (ht : (pc : Int) + off = (tgt : Int)) (h : if x < 0 then P else F) (KT : x < 0 → P → yJ Z R k n L tgt lv st) (KF : ¬ x < 0 → F → yJ Z R k n L (pc + 3) lv st) : yJ Z R k n L pc lv (.int x :: st) := by
  obtain ⟨p, l, e, s, m, args, below, meth, c, Q, D, tys, A, nL'⟩ := Z
  obtain ⟨rfl, rfl, rfl, rfl, hx, hb, hml, hown, hts, hlk, hK, hN, hA⟩ := C
  intro H locs ls hP hD hS hl
  exact lv_if_lt hx hb hdg ht (fun c => KT c (by rw [if_pos c] at h; exact h) H locs ls hP hD hS hl) (fun c => KF c (by rw [if_neg c] at h; exact h) H locs ls hP hD hS hl)
theorem y_if_ge {Z : yZ} {g : yG} {R : Room} {k n : Nat} {L : List va_W} {lv : List (Nat × Value)} {st : List Value} {cc : ByteArray} {nL : Nat} {Ts : List Cond} {own : String} {pc : Nat} {x : Int32} {P F : Prop} {off : Int} {tgt : Nat} (C : yC Z g cc nL Ts own) (hdg : decode cc pc = .ok (.ifCond .ge off, 3)) (ht : (pc : Int) + off = (tgt : Int)) (h : if 0 ≤ x then P else F) (KT : 0 ≤ x → P → yJ Z R k n L tgt lv st) (KF : ¬ 0 ≤ x → F → yJ Z R k n L (pc + 3) lv st) : yJ Z R k n L pc lv (.int x :: st) := by
  obtain ⟨p, l, e, s, m, args, below, meth, c, Q, D, tys, A, nL'⟩ := Z
  obtain ⟨rfl, rfl, rfl, rfl, hx, hb, hml, hown, hts, hlk, hK, hN, hA⟩ := C
  intro H locs ls hP hD hS hl
  exact lv_if_ge hx hb hdg ht (fun c => KT c (by rw [if_pos c] at h; exact h) H locs ls hP hD hS hl) (fun c => KF c (by rw [if_neg c] at h; exact h) H locs ls hP hD hS hl)
theorem y_if_gt {Z : yZ} {g : yG} {R : Room} {k n : Nat} {L : List va_W} {lv : List (Nat × Value)} {st : List Value} {cc : ByteArray} {nL : Nat} {Ts : List Cond} {own : String} {pc : Nat} {x : Int32} {P F : Prop} {off : Int} {tgt : Nat} (C : yC Z g cc nL Ts own) (hdg : decode cc pc = .ok (.ifCond .gt off, 3)) (ht : (pc : Int) + off = (tgt : Int)) (h : if 0 < x then P else F) (KT : 0 < x → P → yJ Z R k n L tgt lv st) (KF : ¬ 0 < x → F → yJ Z R k n L (pc + 3) lv st) : yJ Z R k n L pc lv (.int x :: st) := by
  obtain ⟨p, l, e, s, m, args, below, meth, c, Q, D, tys, A, nL'⟩ := Z
  obtain ⟨rfl, rfl, rfl, rfl, hx, hb, hml, hown, hts, hlk, hK, hN, hA⟩ := C
  intro H locs ls hP hD hS hl
  exact lv_if_gt hx hb hdg ht (fun c => KT c (by rw [if_pos c] at h; exact h) H locs ls hP hD hS hl) (fun c => KF c (by rw [if_neg c] at h; exact h) H locs ls hP hD hS hl)
theorem y_if_le {Z : yZ} {g : yG} {R : Room} {k n : Nat} {L : List va_W} {lv : List (Nat × Value)} {st : List Value} {cc : ByteArray} {nL : Nat} {Ts : List Cond} {own : String} {pc : Nat} {x : Int32} {P F : Prop} {off : Int} {tgt : Nat} (C : yC Z g cc nL Ts own) (hdg : decode cc pc = .ok (.ifCond .le off, 3)) (ht : (pc : Int) + off = (tgt : Int)) (h : if x ≤ 0 then P else F) (KT : x ≤ 0 → P → yJ Z R k n L tgt lv st) (KF : ¬ x ≤ 0 → F → yJ Z R k n L (pc + 3) lv st) : yJ Z R k n L pc lv (.int x :: st) := by
  obtain ⟨p, l, e, s, m, args, below, meth, c, Q, D, tys, A, nL'⟩ := Z
  obtain ⟨rfl, rfl, rfl, rfl, hx, hb, hml, hown, hts, hlk, hK, hN, hA⟩ := C
  intro H locs ls hP hD hS hl
  exact lv_if_le hx hb hdg ht (fun c => KT c (by rw [if_pos c] at h; exact h) H locs ls hP hD hS hl) (fun c => KF c (by rw [if_neg c] at h; exact h) H locs ls hP hD hS hl)
theorem y_get {Z : yZ} {g : yG} {R : Room} {k n : Nat} {L : List va_W} {lv : List (Nat × Value)} {st : List Value} {cc : ByteArray} {nL : Nat} {Ts : List Cond} {own : String} {pc : Nat} {Cn : String} {T : u_T} {N ci index a : Nat} {fs : List Value} {v : Value} (C : yC Z g cc nL Ts own) (hdg : decode cc pc = .ok (.getfield index, 3)) (hin : ∀ w ∈ u_ws Cn T N, w ∈ Ts) (q0 : Nat) (he : L.flatten[q0]? = some (a, .inr (ci, fs))) (hc : vwCl[ci]? = some (Cn, T, N)) (j : Nat) (hj : j < N) (hlink : Cond.fieldLink own index (T j).1 (T j).2.1 (T j).2.2.1 ∈ Ts) (hv : fs[j]? = some v) (K : yJ Z R k n L (pc + 3) lv (v :: st)) : yJ Z R k n L pc lv (.ref a :: st) := by
  obtain ⟨p, l, e, s, m, args, below, meth, c, Q, D, tys, A, nL'⟩ := Z
  obtain ⟨rfl, rfl, rfl, rfl, hx, hb, hml, hown, hts, hlk, hK, hN, hA⟩ := C
  intro H locs ls hP hD hS hl
  exact va_get hx hb hts hin hown hK hP q0 he hc j hj (hts _ hlink) (fun _ h => h) hv hdg (K H locs ls hP hD hS hl)
theorem y_put {Z : yZ} {g : yG} {R : Room} {k n : Nat} {L : List va_W} {lv : List (Nat × Value)} {st : List Value} {cc : ByteArray} {nL : Nat} {Ts : List Cond} {own : String} {pc : Nat} {Cn : String} {T : u_T} {N ci index a : Nat} {fs : List Value} {v : Value} {ty0 : Nat → FieldType} {L1 : List va_W} (C : yC Z g cc nL Ts own) (hdg : decode cc pc = .ok (.putfield index, 3)) (hin : ∀ w ∈ u_ws Cn T N, w ∈ Ts) (q0 : Nat) (he : L.flatten[q0]? = some (a, .inr (ci, fs))) (hc : vwCl[ci]? = some (Cn, T, N)) (j : Nat) (hj : j < N) (hlink : Cond.fieldLink own index (T j).1 (T j).2.1 (T j).2.2.1 ∈ Ts) (hty : ∀ k, k < N → parseFieldDescriptor (T k).2.2.1 = some (ty0 k)) (hnm : ∀ a, a < N → ∀ b, b < N → a ≠ b → (T a).2.1 ≠ (T b).2.1) (hfin : (T j).2.2.2 = false) (hn : narrow (ty0 j) v = v) (hfit : fits (ty0 j) v = true) (hlen : j < fs.length) (hL : L.flatten.set q0 (a, .inr (ci, fs.set j v)) = L1.flatten) (K : yJ Z R k n L1 (pc + 3) lv st) : yJ Z R k n L pc lv (v :: .ref a :: st) := by
  obtain ⟨p, l, e, s, m, args, below, meth, c, Q, D, tys, A, nL'⟩ := Z
  obtain ⟨rfl, rfl, rfl, rfl, hx, hb, hml, hown, hts, hlk, hK, hN, hA⟩ := C
  intro H locs ls hP hD hS hl
  exact va_put hx hb hts hin ty0 hty hnm hown hK hP hD hS q0 he hc j hj (hts _ hlink) (fun _ h => h) hfin (hty j hj) hn hfit hlen hdg (fun H1 locs1 hP1 hD1 hS1 => K H1 locs1 ls (hL ▸ hP1) (hL ▸ hD1) hS1 hl)
theorem y_putF {Z : yZ} {g : yG} {R : Room} {k n : Nat} {L : List va_W} {lv : List (Nat × Value)} {st : List Value} {cc : ByteArray} {nL : Nat} {Ts : List Cond} {own : String} {pc : Nat} {Cn : String} {T : u_T} {N ci index a : Nat} {fs : List Value} {v : Value} {ty0 : Nat → FieldType} {L1 : List va_W} (C : yC Z g cc nL Ts own) (hdg : decode cc pc = .ok (.putfield index, 3)) (hin : ∀ w ∈ u_ws Cn T N, w ∈ Ts) (q0 : Nat) (he : L.flatten[q0]? = some (a, .inr (ci, fs))) (hc : vwCl[ci]? = some (Cn, T, N)) (j : Nat) (hj : j < N) (hlink : Cond.fieldLink own index (T j).1 (T j).2.1 (T j).2.2.1 ∈ Ts) (hty : ∀ k, k < N → parseFieldDescriptor (T k).2.2.1 = some (ty0 k)) (hnm : ∀ a, a < N → ∀ b, b < N → a ≠ b → (T a).2.1 ≠ (T b).2.1) (hfin : (T j).2.2.2 = true) (hI : yIn Z) (hdecl : (T j).1 = own) (hn : narrow (ty0 j) v = v) (hfit : fits (ty0 j) v = true) (hlen : j < fs.length) (hL : L.flatten.set q0 (a, .inr (ci, fs.set j v)) = L1.flatten) (K : yJ Z R k n L1 (pc + 3) lv st) : yJ Z R k n L pc lv (v :: .ref a :: st) := by
  obtain ⟨p, l, e, s, m, args, below, meth, c, Q, D, tys, A, nL'⟩ := Z
  obtain ⟨rfl, rfl, rfl, rfl, hx, hb, hml, hown, hts, hlk, hK, hN, hA⟩ := C
  intro H locs ls hP hD hS hl
  exact va_putF hx hb hts hin ty0 hty hnm hown hK hP hD hS q0 he hc j hj (hts _ hlink) (fun _ h => h) hfin hI hdecl (hty j hj) hn hfit hlen hdg (fun H1 locs1 hP1 hD1 hS1 => K H1 locs1 ls (hL ▸ hP1) (hL ▸ hD1) hS1 hl)
theorem y_alen {Z : yZ} {g : yG} {R : Room} {k n : Nat} {L : List va_W} {lv : List (Nat × Value)} {st : List Value} {cc : ByteArray} {nL : Nat} {Ts : List Cond} {own : String} {pc : Nat} {a N : Nat} {f : Nat → Int32} {v : Int32} (C : yC Z g cc nL Ts own) (hdg : decode cc pc = .ok (.arraylength, 1)) (q0 : Nat) (he : L.flatten[q0]? = some (a, .inl (g.2.2.1, N, .inl f))) (hv : Int32.ofNat N = v) (K : yJ Z R k n L (pc + 1) lv (.int v :: st)) : yJ Z R k n L pc lv (.ref a :: st) := by
  obtain ⟨p, l, e, s, m, args, below, meth, c, Q, D, tys, A, nL'⟩ := Z
  obtain ⟨rfl, rfl, rfl, rfl, hx, hb, hml, hown, hts, hlk, hK, hN, hA⟩ := C
  intro H locs ls hP hD hS hl
  exact va_alen hx hb hK hP q0 0 he (show (yTy g)[0]? = some (g.2.2.1, .int) from rfl) hv hdg (K H locs ls hP hD hS hl)
theorem y_alenO {Z : yZ} {g : yG} {R : Room} {k n : Nat} {L : List va_W} {lv : List (Nat × Value)} {st : List Value} {cc : ByteArray} {nL : Nat} {Ts : List Cond} {own : String} {pc : Nat} {a N : Nat} {f : Nat → Option Nat} {v : Int32} (C : yC Z g cc nL Ts own) (hdg : decode cc pc = .ok (.arraylength, 1)) (q0 : Nat) (he : L.flatten[q0]? = some (a, .inl (g.2.2.2.2, N, .inr (.inr (.inr (.inr f)))))) (hv : Int32.ofNat N = v) (K : yJ Z R k n L (pc + 1) lv (.int v :: st)) : yJ Z R k n L pc lv (.ref a :: st) := by
  obtain ⟨p, l, e, s, m, args, below, meth, c, Q, D, tys, A, nL'⟩ := Z
  obtain ⟨rfl, rfl, rfl, rfl, hx, hb, hml, hown, hts, hlk, hK, hN, hA⟩ := C
  intro H locs ls hP hD hS hl
  exact va_alen hx hb hK hP q0 1 he (show (yTy g)[1]? = some (g.2.2.2.2, .object RX0) from rfl) hv hdg (K H locs ls hP hD hS hl)
theorem y_iald {Z : yZ} {g : yG} {R : Room} {k n : Nat} {L : List va_W} {lv : List (Nat × Value)} {st : List Value} {cc : ByteArray} {nL : Nat} {Ts : List Cond} {own : String} {pc : Nat} {a N : Nat} {f : Nat → Int32} {i : Int32} (C : yC Z g cc nL Ts own) (hdg : decode cc pc = .ok (.iaload, 1)) (q0 : Nat) (he : L.flatten[q0]? = some (a, .inl (g.2.2.1, N, .inl f))) (hin : vp_in i N) (K : yJ Z R k n L (pc + 1) lv (.int (f i.toNatClampNeg) :: st)) : yJ Z R k n L pc lv (.int i :: .ref a :: st) := by
  obtain ⟨p, l, e, s, m, args, below, meth, c, Q, D, tys, A, nL'⟩ := Z
  obtain ⟨rfl, rfl, rfl, rfl, hx, hb, hml, hown, hts, hlk, hK, hN, hA⟩ := C
  intro H locs ls hP hD hS hl
  exact va_iald hx hb hK hP q0 0 he (show (yTy g)[0]? = some (g.2.2.1, .int) from rfl) hin hdg (K H locs ls hP hD hS hl)
theorem y_aald {Z : yZ} {g : yG} {R : Room} {k n : Nat} {L : List va_W} {lv : List (Nat × Value)} {st : List Value} {cc : ByteArray} {nL : Nat} {Ts : List Cond} {own : String} {pc : Nat} {a N : Nat} {f : Nat → Option Nat} {i : Int32} (C : yC Z g cc nL Ts own) (hdg : decode cc pc = .ok (.aaload, 1)) (q0 : Nat) (he : L.flatten[q0]? = some (a, .inl (g.2.2.2.2, N, .inr (.inr (.inr (.inr f)))))) (hin : vp_in i N) (K : yJ Z R k n L (pc + 1) lv (va_rf (f i.toNatClampNeg) :: st)) : yJ Z R k n L pc lv (.int i :: .ref a :: st) := by
  obtain ⟨p, l, e, s, m, args, below, meth, c, Q, D, tys, A, nL'⟩ := Z
  obtain ⟨rfl, rfl, rfl, rfl, hx, hb, hml, hown, hts, hlk, hK, hN, hA⟩ := C
  intro H locs ls hP hD hS hl
  exact va_aldq hx hb hK hP q0 1 he (show (yTy g)[1]? = some (g.2.2.2.2, .object RX0) from rfl) hin hdg (K H locs ls hP hD hS hl)
theorem y_iast {Z : yZ} {g : yG} {R : Room} {k n : Nat} {L : List va_W} {lv : List (Nat × Value)} {st : List Value} {cc : ByteArray} {nL : Nat} {Ts : List Cond} {own : String} {pc : Nat} {a N : Nat} {f : Nat → Int32} {i x : Int32} {L1 : List va_W} (C : yC Z g cc nL Ts own) (hdg : decode cc pc = .ok (.iastore, 1)) (q0 : Nat) (he : L.flatten[q0]? = some (a, .inl (g.2.2.1, N, .inl f))) (hin : vp_in i N) (hL : L.flatten.set q0 (a, .inl (g.2.2.1, N, .inl (upd f i.toNatClampNeg x))) = L1.flatten) (K : yJ Z R k n L1 (pc + 1) lv st) : yJ Z R k n L pc lv (.int x :: .int i :: .ref a :: st) := by
  obtain ⟨p, l, e, s, m, args, below, meth, c, Q, D, tys, A, nL'⟩ := Z
  obtain ⟨rfl, rfl, rfl, rfl, hx, hb, hml, hown, hts, hlk, hK, hN, hA⟩ := C
  intro H locs ls hP hD hS hl
  exact va_iast hx hb hK hP hD hS q0 0 he (show (yTy g)[0]? = some (g.2.2.1, .int) from rfl) hin hdg (fun H1 locs1 hP1 hD1 hS1 => K H1 locs1 ls (hL ▸ hP1) (hL ▸ hD1) hS1 hl)
theorem y_aast {Z : yZ} {g : yG} {R : Room} {k n : Nat} {L : List va_W} {lv : List (Nat × Value)} {st : List Value} {cc : ByteArray} {nL : Nat} {Ts : List Cond} {own : String} {pc : Nat} {a N v ci : Nat} {f : Nat → Option Nat} {vs : List Value} {i : Int32} {L1 : List va_W} (C : yC Z g cc nL Ts own) (hdg : decode cc pc = .ok (.aastore, 1)) (q0 qk : Nat) (he : L.flatten[q0]? = some (a, .inl (g.2.2.2.2, N, .inr (.inr (.inr (.inr f)))))) (hv : L.flatten[qk]? = some (v, .inr (0, vs))) (hin : vp_in i N) (hL : L.flatten.set q0 (a, .inl (g.2.2.2.2, N, .inr (.inr (.inr (.inr (va_up f i.toNatClampNeg (some v))))))) = L1.flatten) (K : yJ Z R k n L1 (pc + 1) lv st) : yJ Z R k n L pc lv (.ref v :: .int i :: .ref a :: st) := by
  obtain ⟨p, l, e, s, m, args, below, meth, c, Q, D, tys, A, nL'⟩ := Z
  obtain ⟨rfl, rfl, rfl, rfl, hx, hb, hml, hown, hts, hlk, hK, hN, hA⟩ := C
  intro H locs ls hP hD hS hl
  exact va_astq hx hb hK hP hD hS q0 1 qk 0 he (show (yTy g)[1]? = some (g.2.2.2.2, .object RX0) from rfl) hv (show vwCl[0]? = some (RX0, TX0, 15) from rfl) hin hdg (fun H1 locs1 hP1 hD1 hS1 => K H1 locs1 ls (hL ▸ hP1) (hL ▸ hD1) hS1 hl)
theorem y_sub {Z : yZ} {R : Room} {k n : Nat} {L : List va_W} {lv : List (Nat × Value)} {st : List Value} {pc : Nat} {lv' : List (Nat × Value)} (ks : List Nat) (hl' : lv_pick lv ks = lv') (K : yJ Z R k n L pc lv' st) : yJ Z R k n L pc lv st := by
  obtain ⟨p, l, e, s, m, args, below, meth, c, Q, D, tys, A, nL'⟩ := Z
  intro H locs ls hP hD hS hl
  exact K H locs ls hP hD hS (lv_sub hl ks hl')
theorem y_fact {Z : yZ} {R : Room} {k n : Nat} {L : List va_W} {lv : List (Nat × Value)} {st : List Value} {pc : Nat} {F : Prop} (h : ∀ A, va_D A L.flatten → F) (K : F → yJ Z R k n L pc lv st) : yJ Z R k n L pc lv st := by
  obtain ⟨p, l, e, s, m, args, below, meth, c, Q, D, tys, A, nL'⟩ := Z
  intro H locs ls hP hD hS hl
  exact K (h A hD) H locs ls hP hD hS hl
theorem y_world {Z : yZ} {R : Room} {k n : Nat} {L : List va_W} {lv : List (Nat × Value)} {st : List Value} {pc : Nat} {L1 : List va_W} (h : L.flatten = L1.flatten) (K : yJ Z R k n L1 pc lv st) : yJ Z R k n L pc lv st := by
  obtain ⟨p, l, e, s, m, args, below, meth, c, Q, D, tys, A, nL'⟩ := Z
  intro H locs ls hP hD hS hl
  exact K H locs ls (h ▸ hP) (h ▸ hD) hS hl
theorem yP_perm {D : va_G} {ws ws' : va_W} {H : Heap} (h : va_P D vwCl ws H) (hp : ws.Perm ws') : va_P D vwCl ws' H := by
  intro k q hk
  obtain ⟨i, hi⟩ := List.getElem?_of_mem (hp.mem_iff.mpr (List.mem_of_getElem? hk))
  exact h i q hi
theorem yD_iff {A : Nat → Prop} {ws : va_W} : va_D A ws ↔ (ws.map Prod.fst).Nodup ∧ ∀ q ∈ ws, A q.1 := by
  constructor
  · rintro ⟨h1, h2⟩
    refine ⟨?_, fun q hq => ?_⟩
    · rw [List.nodup_iff_pairwise_ne, List.pairwise_iff_getElem]
      intro i j hi hj hij e
      rw [List.length_map] at hi hj
      rw [List.getElem_map, List.getElem_map] at e
      have := h1 i j ws[i] ws[j] (List.getElem?_eq_getElem hi) (List.getElem?_eq_getElem hj) e
      omega
    · obtain ⟨i, hi⟩ := List.getElem?_of_mem hq
      exact h2 i q hi
  · rintro ⟨h1, h2⟩
    refine ⟨fun i j p q hi hj e => ?_, fun k q hk => h2 q (List.mem_of_getElem? hk)⟩
    rw [List.nodup_iff_pairwise_ne, List.pairwise_iff_getElem] at h1
    obtain ⟨hi', ei⟩ := List.getElem?_eq_some_iff.mp hi
    obtain ⟨hj', ej⟩ := List.getElem?_eq_some_iff.mp hj
    rcases Nat.lt_trichotomy i j with h | h | h
    · exact absurd (by rw [List.getElem_map, List.getElem_map, ei, ej]; exact e) (h1 i j (by rw [List.length_map]; exact hi') (by rw [List.length_map]; exact hj') h)
    · exact h
    · exact absurd (by rw [List.getElem_map, List.getElem_map, ei, ej]; exact e.symm) (h1 j i (by rw [List.length_map]; exact hj') (by rw [List.length_map]; exact hi') h)
theorem yD_perm {A : Nat → Prop} {ws ws' : va_W} (h : va_D A ws) (hp : ws.Perm ws') : va_D A ws' := by
  rw [yD_iff] at h ⊢
  exact ⟨(hp.map Prod.fst).nodup_iff.mp h.1, fun q hq => h.2 q (hp.mem_iff.mpr hq)⟩
theorem yD_app {A : Nat → Prop} {w1 w2 : va_W} (h : va_D A (w1 ++ w2)) : va_D A w1 ∧ va_D A w2 ∧ ∀ p ∈ w1, ∀ q ∈ w2, p.1 ≠ q.1 := by
  rw [yD_iff] at h
  obtain ⟨h1, h2⟩ := h
  rw [List.map_append, List.nodup_append] at h1
  obtain ⟨a, b, c⟩ := h1
  exact ⟨yD_iff.mpr ⟨a, fun q hq => h2 q (List.mem_append_left _ hq)⟩, yD_iff.mpr ⟨b, fun q hq => h2 q (List.mem_append_right _ hq)⟩, fun p hp q hq => c p.1 (List.mem_map_of_mem hp) q.1 (List.mem_map_of_mem hq)⟩
theorem yD_mk {A : Nat → Prop} {w1 w2 : va_W} (h1 : va_D A w1) (h2 : va_D A w2) (h : ∀ p ∈ w1, ∀ q ∈ w2, p.1 ≠ q.1) : va_D A (w1 ++ w2) := by
  rw [yD_iff] at h1 h2 ⊢
  refine ⟨?_, fun q hq => (List.mem_append.mp hq).elim (h1.2 q) (h2.2 q)⟩
  rw [List.map_append, List.nodup_append]
  refine ⟨h1.1, h2.1, fun a ha b hb => ?_⟩
  obtain ⟨p, hp, rfl⟩ := List.mem_map.mp ha
  obtain ⟨q, hq, rfl⟩ := List.mem_map.mp hb
  exact h p hp q hq
/-- blocks by their places -/
def yPick (L : List va_W) (is : List Nat) : List va_W := is.map (fun i => L.getD i [])
theorem yPick_range (L : List va_W) : yPick L (List.range L.length) = L := by
  apply List.ext_getElem
  · simp [yPick]
  · intro i h1 h2
    simp [yPick, h2]
theorem y_permOf (L : List va_W) (is js : List Nat) (h : (is ++ js).isPerm (List.range L.length) = true) : L.flatten.Perm ((yPick L is).flatten ++ (yPick L js).flatten) := by
  have h1 : (is ++ js).Perm (List.range L.length) := List.isPerm_iff.mp h
  have h2 : ((is ++ js).map (fun i => L.getD i [])).Perm ((List.range L.length).map (fun i => L.getD i [])) := h1.map _
  have h3 := h2.flatten
  rw [show (List.range L.length).map (fun i => L.getD i []) = L from yPick_range L] at h3
  rw [List.map_append, List.flatten_append] at h3
  exact h3.symm
