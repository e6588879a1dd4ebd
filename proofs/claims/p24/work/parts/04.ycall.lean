/-! ===== calls over blocks ===== -/
theorem y_split {D : va_G} {A : Nat → Prop} {L B : List va_W} {H : Heap} {is js : List Nat} (hperm : (is ++ js).isPerm (List.range L.length) = true) (hpick : yPick L is = B) (hP : va_P D vwCl L.flatten H) (hD : va_D A L.flatten) : va_P D vwCl B.flatten H ∧ va_D A B.flatten ∧ va_P D vwCl (yPick L js).flatten H ∧ va_D A (yPick L js).flatten ∧ ∀ p ∈ B.flatten, ∀ q ∈ (yPick L js).flatten, p.1 ≠ q.1 := by
  have hp := y_permOf L is js hperm
  rw [hpick] at hp
  have hP' := yP_perm hP hp
  have hD' := yD_perm hD hp
  obtain ⟨d1, d2, d3⟩ := yD_app hD'
  refine ⟨fun k q hk => ?_, d1, fun k q hk => ?_, d2, d3⟩
  · obtain ⟨i, hi⟩ := List.getElem?_of_mem (List.mem_append_left (yPick L js).flatten (List.mem_of_getElem? hk))
    exact hP' i q hi
  · obtain ⟨i, hi⟩ := List.getElem?_of_mem (List.mem_append_right B.flatten (List.mem_of_getElem? hk))
    exact hP' i q hi
theorem y_freeOf {A : Nat → Prop} {B : List va_W} {H0 H : Heap} {locs : List Loc} (hDB : va_D A B.flatten) (hS : va_S A H0 H locs) (hA : ∀ q, H0.size ≤ q → A q) : ∀ q, va_A B.flatten H.size q → A q := by
  rintro q (⟨k, e, h⟩ | h)
  · exact hDB.2 k (q, e) h
  · exact hA q (Nat.le_trans hS.1 h)
theorem y_back {D : va_G} {A : Nat → Prop} {L B L1 w : List va_W} {H H1 : Heap} {is js : List Nat} (hperm : (is ++ js).isPerm (List.range L.length) = true) (hPf : va_P D vwCl (yPick L js).flatten H) (hDf : va_D A (yPick L js).flatten) (hdis : ∀ p ∈ B.flatten, ∀ q ∈ (yPick L js).flatten, p.1 ≠ q.1) (hfree : ∀ q, va_A B.flatten H.size q → A q) (hk : ∀ q : Nat, q < H.size → ¬ va_A B.flatten H.size q → H1[q]? = H[q]?) (hPw : va_P D vwCl w.flatten H1) (hDw : va_D (va_A B.flatten H.size) w.flatten) (h1 : yPick L1 is = w) (h2 : yPick L1 js = yPick L js) (h3 : L1.length = L.length) : va_P D vwCl L1.flatten H1 ∧ va_D A L1.flatten := by
  have hp := y_permOf L1 is js (by rw [h3]; exact hperm)
  rw [h1, h2] at hp
  have out : ∀ q ∈ (yPick L js).flatten, q.1 < H.size ∧ ¬ va_A B.flatten H.size q.1 := by
    intro q hq
    obtain ⟨i, hi⟩ := List.getElem?_of_mem hq
    have hl := (hPf i q hi).lt
    refine ⟨hl, ?_⟩
    rintro (⟨k, e, h⟩ | h)
    · exact hdis (q.1, e) (List.mem_of_getElem? h) q hq rfl
    · omega
  have hPf1 : va_P D vwCl (yPick L js).flatten H1 := hPf.kept (fun k q hq => hk q.1 (out q (List.mem_of_getElem? hq)).1 (out q (List.mem_of_getElem? hq)).2)
  have hDw' : va_D A w.flatten := hDw.weaken (fun k q _ h => hfree q.1 h)
  refine ⟨yP_perm (va_P.app hPw hPf1) hp.symm, yD_perm (yD_mk hDw' hDf ?_) hp.symm⟩
  intro p hp q hq e
  obtain ⟨i, hi⟩ := List.getElem?_of_mem hp
  exact (out q hq).2 (by rw [← e]; exact hDw.2 i p hi)
def yRecv (B : List va_W) (b : Nat) (Cn : String) : Prop := ∀ (D : va_G) (A : Nat → Prop) (H : Heap), va_P D vwCl B.flatten H → va_D A B.flatten → ∃ (q0 ci : Nat) (fs : List Value) (q : vw_C), B.flatten[q0]? = some (b, .inr (ci, fs)) ∧ vwCl[ci]? = some q ∧ q.1 = Cn
theorem yRecv.of {B : List va_W} {b ci q0 : Nat} {fs : List Value} {q : vw_C} (h : B.flatten[q0]? = some (b, .inr (ci, fs))) (hc : vwCl[ci]? = some q) : yRecv B b q.1 := fun _ _ _ _ _ => ⟨q0, ci, fs, q, h, hc, rfl⟩
theorem yPre_blind (g : yG) (As : List Value) (B : List va_W) (sz : Nat) : FrameBlind (yPre g As B sz) := by
  rintro a U f mk ⟨q0, q1, qP, ⟨qK, qN⟩, qD⟩
  exact ⟨q0, q1, qP, ⟨va_K.moved (u := U) (U := U.calling f mk a) (Vm.Alike.refl U.vm) qK, qN.same rfl⟩, qD⟩
theorem y_callV {Z : yZ} {g : yG} {R : Room} {k n : Nat} {L : List va_W} {lv : List (Nat × Value)} {st : List Value} {cc : ByteArray} {nL : Nat} {Ts : List Cond} {own : String} {pc : Nat} {index mc ms maxL b : Nat} {Cn : String} {y : MethodName} {bytes : ByteArray} {ret : Option FieldType} {ws ws' : List Cond} {rm : Room} {B : List va_W} {nA nB : Nat} {As rest : List Value} {post : Int32 → List va_W → Prop} (C : yC Z g cc nL Ts own) (hdg : decode cc pc = .ok (.invokevirtual index, 3)) (hM : yM g y ws rm (.ref b :: As) B post mc ms) (hst : st = As.reverse ++ .ref b :: rest) (hw : ws = Cond.code y bytes maxL ret :: ws') (hrc : rm.cells = mc) (hrs : rm.slots = ms) (hR : rm.frames + 1 ≤ R.frames ∧ 8 + (maxL + 11) + rm.locals ≤ R.locals) (hG : GoodIn Ts (wsV own index Cn y ws)) (hd : y.cls = Cn ∧ y.cls ≠ "java/lang/invoke/MethodHandle" ∧ y.cls ≠ "java/lang/invoke/VarHandle" ∧ (parseMethodDescriptor y.desc).map (fun d => d.parameters.length) = some nA) (hnA : As.length = nA) (hrecv : yRecv B b Cn) (hcat : (rest.map fun v => v.category).sum ≤ 8) (hf : k + mc ≤ R.cells ∧ n + ms ≤ R.slots) (is js : List Nat) (hnB : L.length = nB) (hperm : (is ++ js).isPerm (List.range nB) = true) (hpick : yPick L is = B) (K : ∀ r w, post r w → ∃ L1, (yPick L1 is = w ∧ yPick L1 js = yPick L js ∧ L1.length = L.length) ∧ yJ Z R (k + mc) (n + ms) L1 (pc + 3) lv (.int r :: rest)) : yJ Z R k n L pc lv st := by
  obtain ⟨p, l, e, s, m, args, below, meth, c, Q, D, tys, A, nL'⟩ := Z
  obtain ⟨rfl, rfl, rfl, rfl, hx, hb, hml, hown, hts, hlk, hK, hN, hA⟩ := C
  intro H locs ls hP hD hS hl
  subst hnA hnB
  obtain ⟨hPB, hDB, hPf, hDf, hdis⟩ := y_split hperm hpick hP hD
  obtain ⟨q0, ci, fs, q, e1, e2, e3⟩ := hrecv _ _ _ hPB hDB
  have hrc' := va_recv hK hPB e2 e1
  rw [e3] at hrc'
  refine va_calli (va_runV (As := As) (rest := rest) ⟨hx, hb, hml, hown, hts⟩ (hM H.size) (cwV As.length hts hG hw hrc hrs hd hR) ⟨yPre_blind _ _ _ _, hrc', fun U hU hW => ⟨rfl, by rw [hU], by rw [hU]; exact hPB, ⟨va_K.moved hW.alike hK, hN.warm hW⟩, hDB.weaken (fun _ _ _ _ => trivial)⟩⟩ rfl rfl hl.1 hst (lv_room hcat) hdg hf) hS (fun q _ h => y_freeOf hDB hS hA q h) (y_freeOf hDB hS hA) (fun r w t H1 locs1 ht hvm hw' hB hz1 hk1 hS1 => ?_)
  obtain ⟨L1, ⟨h1, h2, h3⟩, KK⟩ := K r w hw'
  obtain ⟨hPw, hDw⟩ := hB
  rw [ht] at hPw
  obtain ⟨hP1, hD1⟩ := y_back hperm hPf hDf hdis (y_freeOf hDB hS hA) hk1 hPw hDw h1 h2 h3
  exact KK H1 locs1 ls hP1 hD1 hS1 hl
theorem y_callVv {Z : yZ} {g : yG} {R : Room} {k n : Nat} {L : List va_W} {lv : List (Nat × Value)} {st : List Value} {cc : ByteArray} {nL : Nat} {Ts : List Cond} {own : String} {pc : Nat} {index mc ms maxL b : Nat} {Cn : String} {y : MethodName} {bytes : ByteArray} {ret : Option FieldType} {ws ws' : List Cond} {rm : Room} {B : List va_W} {nA nB : Nat} {As rest : List Value} {post : List va_W → Prop} (C : yC Z g cc nL Ts own) (hdg : decode cc pc = .ok (.invokevirtual index, 3)) (hM : yMv g y ws rm (.ref b :: As) B post mc ms) (hst : st = As.reverse ++ .ref b :: rest) (hw : ws = Cond.code y bytes maxL ret :: ws') (hrc : rm.cells = mc) (hrs : rm.slots = ms) (hR : rm.frames + 1 ≤ R.frames ∧ 8 + (maxL + 11) + rm.locals ≤ R.locals) (hG : GoodIn Ts (wsV own index Cn y ws)) (hd : y.cls = Cn ∧ y.cls ≠ "java/lang/invoke/MethodHandle" ∧ y.cls ≠ "java/lang/invoke/VarHandle" ∧ (parseMethodDescriptor y.desc).map (fun d => d.parameters.length) = some nA) (hnA : As.length = nA) (hrecv : yRecv B b Cn) (hcat : (rest.map fun v => v.category).sum ≤ 8) (hf : k + mc ≤ R.cells ∧ n + ms ≤ R.slots) (is js : List Nat) (hnB : L.length = nB) (hperm : (is ++ js).isPerm (List.range nB) = true) (hpick : yPick L is = B) (K : ∀ w, post w → ∃ L1, (yPick L1 is = w ∧ yPick L1 js = yPick L js ∧ L1.length = L.length) ∧ yJ Z R (k + mc) (n + ms) L1 (pc + 3) lv rest) : yJ Z R k n L pc lv st := by
  obtain ⟨p, l, e, s, m, args, below, meth, c, Q, D, tys, A, nL'⟩ := Z
  obtain ⟨rfl, rfl, rfl, rfl, hx, hb, hml, hown, hts, hlk, hK, hN, hA⟩ := C
  intro H locs ls hP hD hS hl
  subst hnA hnB
  obtain ⟨hPB, hDB, hPf, hDf, hdis⟩ := y_split hperm hpick hP hD
  obtain ⟨q0, ci, fs, q, e1, e2, e3⟩ := hrecv _ _ _ hPB hDB
  have hrc' := va_recv hK hPB e2 e1
  rw [e3] at hrc'
  refine va_callv (va_runV (As := As) (rest := rest) ⟨hx, hb, hml, hown, hts⟩ (hM H.size) (cwV As.length hts hG hw hrc hrs hd hR) ⟨yPre_blind _ _ _ _, hrc', fun U hU hW => ⟨rfl, by rw [hU], by rw [hU]; exact hPB, ⟨va_K.moved hW.alike hK, hN.warm hW⟩, hDB.weaken (fun _ _ _ _ => trivial)⟩⟩ rfl rfl hl.1 hst (lv_room hcat) hdg hf) hS (fun q _ h => y_freeOf hDB hS hA q h) (y_freeOf hDB hS hA) (fun w t H1 locs1 ht hvm hw' hB hz1 hk1 hS1 => ?_)
  obtain ⟨L1, ⟨h1, h2, h3⟩, KK⟩ := K w hw'
  obtain ⟨hPw, hDw⟩ := hB
  rw [ht] at hPw
  obtain ⟨hP1, hD1⟩ := y_back hperm hPf hDf hdis (y_freeOf hDB hS hA) hk1 hPw hDw h1 h2 h3
  exact KK H1 locs1 ls hP1 hD1 hS1 hl
theorem y_callS {Z : yZ} {g : yG} {R : Room} {k n : Nat} {L : List va_W} {lv : List (Nat × Value)} {st : List Value} {cc : ByteArray} {nL : Nat} {Ts : List Cond} {own : String} {pc : Nat} {index mc ms maxL : Nat} {y : MethodName} {bytes : ByteArray} {ret : Option FieldType} {ws ws' : List Cond} {rm : Room} {B : List va_W} {nA nB : Nat} {As rest : List Value} {post : Int32 → List va_W → Prop} (C : yC Z g cc nL Ts own) (hdg : decode cc pc = .ok (.invokestatic index, 3)) (hM : yM g y ws rm (As) B post mc ms) (hst : st = As.reverse ++ rest) (hw : ws = Cond.code y bytes maxL ret :: ws') (hrc : rm.cells = mc) (hrs : rm.slots = ms) (hR : rm.frames + 1 ≤ R.frames ∧ 8 + (maxL + 11) + rm.locals ≤ R.locals) (hG : GoodIn Ts (wsS own index y ws)) (hd : y.cls = own ∧ y.cls ≠ "java/lang/invoke/MethodHandle" ∧ y.cls ≠ "java/lang/invoke/VarHandle" ∧ (parseMethodDescriptor y.desc).map (fun d => d.parameters.length) = some nA) (hnA : As.length = nA) (hcat : (rest.map fun v => v.category).sum ≤ 8) (hf : k + mc ≤ R.cells ∧ n + ms ≤ R.slots) (is js : List Nat) (hnB : L.length = nB) (hperm : (is ++ js).isPerm (List.range nB) = true) (hpick : yPick L is = B) (K : ∀ r w, post r w → ∃ L1, (yPick L1 is = w ∧ yPick L1 js = yPick L js ∧ L1.length = L.length) ∧ yJ Z R (k + mc) (n + ms) L1 (pc + 3) lv (.int r :: rest)) : yJ Z R k n L pc lv st := by
  obtain ⟨p, l, e, s, m, args, below, meth, c, Q, D, tys, A, nL'⟩ := Z
  obtain ⟨rfl, rfl, rfl, rfl, hx, hb, hml, hown, hts, hlk, hK, hN, hA⟩ := C
  intro H locs ls hP hD hS hl
  subst hnA hnB
  obtain ⟨hPB, hDB, hPf, hDf, hdis⟩ := y_split hperm hpick hP hD
  refine va_calli (va_runS (As := As) (rest := rest) ⟨hx, hb, hml, hown, hts⟩ (hM H.size) (cwS As.length hts hG hw hrc hrs hd hR) ⟨yPre_blind _ _ _ _, fun U hU hW => ⟨rfl, by rw [hU], by rw [hU]; exact hPB, ⟨va_K.moved hW.alike hK, hN.warm hW⟩, hDB.weaken (fun _ _ _ _ => trivial)⟩⟩ rfl rfl hl.1 hst (lv_room hcat) hdg hf) hS (fun q _ h => y_freeOf hDB hS hA q h) (y_freeOf hDB hS hA) (fun r w t H1 locs1 ht hvm hw' hB hz1 hk1 hS1 => ?_)
  obtain ⟨L1, ⟨h1, h2, h3⟩, KK⟩ := K r w hw'
  obtain ⟨hPw, hDw⟩ := hB
  rw [ht] at hPw
  obtain ⟨hP1, hD1⟩ := y_back hperm hPf hDf hdis (y_freeOf hDB hS hA) hk1 hPw hDw h1 h2 h3
  exact KK H1 locs1 ls hP1 hD1 hS1 hl
theorem y_callSN {Z : yZ} {g : yG} {R : Room} {k n : Nat} {L : List va_W} {lv : List (Nat × Value)} {st : List Value} {cc : ByteArray} {nL : Nat} {Ts : List Cond} {own : String} {pc : Nat} {index mc ms maxL : Nat} {y : MethodName} {bytes : ByteArray} {ret : Option FieldType} {ws ws' : List Cond} {rm : Room} {B : List va_W} {nA nB : Nat} {As rest : List Value} {post : Int32 → List va_W → Prop} (C : yC Z g cc nL Ts own) (hdg : decode cc pc = .ok (.invokestatic index, 3)) (hM : yM g y ws rm (As) B post mc ms) (hst : st = As.reverse ++ rest) (hw : ws = Cond.code y bytes maxL ret :: ws') (hrc : rm.cells = mc) (hrs : rm.slots = ms) (hR : rm.frames + 1 ≤ R.frames ∧ 8 + (maxL + 11) + rm.locals ≤ R.locals) {host : String} (hG : GoodIn Ts ws) (hlink : Cond.methodLinkNest own index y host ∈ yN) (hini : Cond.initialized y.cls ∈ Ts) (hstt : Cond.static y ∈ Ts) (hd : y.cls ≠ "java/lang/invoke/MethodHandle" ∧ y.cls ≠ "java/lang/invoke/VarHandle" ∧ (parseMethodDescriptor y.desc).map (fun d => d.parameters.length) = some nA) (hnA : As.length = nA) (hcat : (rest.map fun v => v.category).sum ≤ 8) (hf : k + mc ≤ R.cells ∧ n + ms ≤ R.slots) (is js : List Nat) (hnB : L.length = nB) (hperm : (is ++ js).isPerm (List.range nB) = true) (hpick : yPick L is = B) (K : ∀ r w, post r w → ∃ L1, (yPick L1 is = w ∧ yPick L1 js = yPick L js ∧ L1.length = L.length) ∧ yJ Z R (k + mc) (n + ms) L1 (pc + 3) lv (.int r :: rest)) : yJ Z R k n L pc lv st := by
  obtain ⟨p, l, e, s, m, args, below, meth, c, Q, D, tys, A, nL'⟩ := Z
  obtain ⟨rfl, rfl, rfl, rfl, hx, hb, hml, hown, hts, hlk, hK, hN, hA⟩ := C
  intro H locs ls hP hD hS hl
  subst hnA hnB
  obtain ⟨hPB, hDB, hPf, hDf, hdis⟩ := y_split hperm hpick hP hD
  refine va_calli (va_runSN (As := As) (rest := rest) ⟨hx, hb, hml, hown, hts⟩ (hM H.size) ⟨va_cnB As.length hts hG hw hrc hrs (hN.1 _ hlink) (hts _ hini) hd hR, hts _ hstt, trivial⟩ ⟨yPre_blind _ _ _ _, fun U hU hW => ⟨rfl, by rw [hU], by rw [hU]; exact hPB, ⟨va_K.moved hW.alike hK, hN.warm hW⟩, hDB.weaken (fun _ _ _ _ => trivial)⟩⟩ rfl rfl hl.1 hst (lv_room hcat) hdg hf) hS (fun q _ h => y_freeOf hDB hS hA q h) (y_freeOf hDB hS hA) (fun r w t H1 locs1 ht hvm hw' hB hz1 hk1 hS1 => ?_)
  obtain ⟨L1, ⟨h1, h2, h3⟩, KK⟩ := K r w hw'
  obtain ⟨hPw, hDw⟩ := hB
  rw [ht] at hPw
  obtain ⟨hP1, hD1⟩ := y_back hperm hPf hDf hdis (y_freeOf hDB hS hA) hk1 hPw hDw h1 h2 h3
  exact KK H1 locs1 ls hP1 hD1 hS1 hl
theorem y_callI {Z : yZ} {g : yG} {R : Room} {k n : Nat} {L : List va_W} {lv : List (Nat × Value)} {st : List Value} {cc : ByteArray} {nL : Nat} {Ts : List Cond} {own : String} {pc : Nat} {index mc ms maxL b : Nat} {y : MethodName} {bytes : ByteArray} {ws ws' : List Cond} {rm : Room} {B : List va_W} {nA nB : Nat} {As rest : List Value} {post : List va_W → Prop} (C : yC Z g cc nL Ts own) (hdg : decode cc pc = .ok (.invokespecial index, 3)) (hM : yMv g y ws rm (.ref b :: As) B post mc ms) (hst : st = As.reverse ++ .ref b :: rest) (hw : ws = Cond.code y bytes maxL none :: ws') (hrc : rm.cells = mc) (hrs : rm.slots = ms) (hR : rm.frames + 1 ≤ R.frames ∧ 8 + (maxL + 11) + rm.locals ≤ R.locals) (hG : GoodIn Ts ws) (hlink : Cond.methodLink own index y ∈ Ts) (hini : Cond.initialized y.cls ∈ Ts) (hinm : Cond.instanceMethod y ∈ Ts) (hy1 : y.name = "<init>") (hd : y.cls ≠ "java/lang/invoke/MethodHandle" ∧ y.cls ≠ "java/lang/invoke/VarHandle" ∧ (parseMethodDescriptor y.desc).map (fun d => d.parameters.length) = some nA) (hnA : As.length = nA) (hcat : (rest.map fun v => v.category).sum ≤ 8) (hf : k + mc ≤ R.cells ∧ n + ms ≤ R.slots) (is js : List Nat) (hnB : L.length = nB) (hperm : (is ++ js).isPerm (List.range nB) = true) (hpick : yPick L is = B) (K : ∀ w, post w → ∃ L1, (yPick L1 is = w ∧ yPick L1 js = yPick L js ∧ L1.length = L.length) ∧ yJ Z R (k + mc) (n + ms) L1 (pc + 3) lv rest) : yJ Z R k n L pc lv st := by
  obtain ⟨p, l, e, s, m, args, below, meth, c, Q, D, tys, A, nL'⟩ := Z
  obtain ⟨rfl, rfl, rfl, rfl, hx, hb, hml, hown, hts, hlk, hK, hN, hA⟩ := C
  intro H locs ls hP hD hS hl
  subst hnA hnB
  obtain ⟨hPB, hDB, hPf, hDf, hdis⟩ := y_split hperm hpick hP hD
  refine va_callv (va_runI (As := As) (rest := rest) ⟨hx, hb, hml, hown, hts⟩ (hM H.size) (cwI As.length hts hG hw hrc hrs (hts _ hini) (hts _ hlink) (hts _ hinm) hy1 hd hR) ⟨yPre_blind _ _ _ _, fun U hU hW => ⟨rfl, by rw [hU], by rw [hU]; exact hPB, ⟨va_K.moved hW.alike hK, hN.warm hW⟩, hDB.weaken (fun _ _ _ _ => trivial)⟩⟩ rfl rfl hl.1 hst (lv_room hcat) hdg hf) hS (fun q _ h => y_freeOf hDB hS hA q h) (y_freeOf hDB hS hA) (fun w t H1 locs1 ht hvm hw' hB hz1 hk1 hS1 => ?_)
  obtain ⟨L1, ⟨h1, h2, h3⟩, KK⟩ := K w hw'
  obtain ⟨hPw, hDw⟩ := hB
  rw [ht] at hPw
  obtain ⟨hP1, hD1⟩ := y_back hperm hPf hDf hdis (y_freeOf hDB hS hA) hk1 hPw hDw h1 h2 h3
  exact KK H1 locs1 ls hP1 hD1 hS1 hl
theorem y_callIN {Z : yZ} {g : yG} {R : Room} {k n : Nat} {L : List va_W} {lv : List (Nat × Value)} {st : List Value} {cc : ByteArray} {nL : Nat} {Ts : List Cond} {own : String} {pc : Nat} {index mc ms maxL b : Nat} {y : MethodName} {bytes : ByteArray} {ws ws' : List Cond} {rm : Room} {B : List va_W} {nA nB : Nat} {As rest : List Value} {post : List va_W → Prop} (C : yC Z g cc nL Ts own) (hdg : decode cc pc = .ok (.invokespecial index, 3)) (hM : yMv g y ws rm (.ref b :: As) B post mc ms) (hst : st = As.reverse ++ .ref b :: rest) (hw : ws = Cond.code y bytes maxL none :: ws') (hrc : rm.cells = mc) (hrs : rm.slots = ms) (hR : rm.frames + 1 ≤ R.frames ∧ 8 + (maxL + 11) + rm.locals ≤ R.locals) {host : String} (hG : GoodIn Ts ws) (hlink : Cond.methodLinkNest own index y host ∈ yN) (hini : Cond.initialized y.cls ∈ Ts) (hinm : Cond.instanceMethod y ∈ Ts) (hy1 : y.name = "<init>") (hd : y.cls ≠ "java/lang/invoke/MethodHandle" ∧ y.cls ≠ "java/lang/invoke/VarHandle" ∧ (parseMethodDescriptor y.desc).map (fun d => d.parameters.length) = some nA) (hnA : As.length = nA) (hcat : (rest.map fun v => v.category).sum ≤ 8) (hf : k + mc ≤ R.cells ∧ n + ms ≤ R.slots) (is js : List Nat) (hnB : L.length = nB) (hperm : (is ++ js).isPerm (List.range nB) = true) (hpick : yPick L is = B) (K : ∀ w, post w → ∃ L1, (yPick L1 is = w ∧ yPick L1 js = yPick L js ∧ L1.length = L.length) ∧ yJ Z R (k + mc) (n + ms) L1 (pc + 3) lv rest) : yJ Z R k n L pc lv st := by
  obtain ⟨p, l, e, s, m, args, below, meth, c, Q, D, tys, A, nL'⟩ := Z
  obtain ⟨rfl, rfl, rfl, rfl, hx, hb, hml, hown, hts, hlk, hK, hN, hA⟩ := C
  intro H locs ls hP hD hS hl
  subst hnA hnB
  obtain ⟨hPB, hDB, hPf, hDf, hdis⟩ := y_split hperm hpick hP hD
  refine va_callv (va_runIN (As := As) (rest := rest) ⟨hx, hb, hml, hown, hts⟩ (hM H.size) ⟨va_cnB As.length hts hG hw hrc hrs (hN.1 _ hlink) (hts _ hini) hd hR, hy1, hts _ hinm⟩ ⟨yPre_blind _ _ _ _, fun U hU hW => ⟨rfl, by rw [hU], by rw [hU]; exact hPB, ⟨va_K.moved hW.alike hK, hN.warm hW⟩, hDB.weaken (fun _ _ _ _ => trivial)⟩⟩ rfl rfl hl.1 hst (lv_room hcat) hdg hf) hS (fun q _ h => y_freeOf hDB hS hA q h) (y_freeOf hDB hS hA) (fun w t H1 locs1 ht hvm hw' hB hz1 hk1 hS1 => ?_)
  obtain ⟨L1, ⟨h1, h2, h3⟩, KK⟩ := K w hw'
  obtain ⟨hPw, hDw⟩ := hB
  rw [ht] at hPw
  obtain ⟨hP1, hD1⟩ := y_back hperm hPf hDf hdis (y_freeOf hDB hS hA) hk1 hPw hDw h1 h2 h3
  exact KK H1 locs1 ls hP1 hD1 hS1 hl
theorem y_mmax {Z : yZ} {g : yG} {R : Room} {k n : Nat} {L : List va_W} {lv : List (Nat × Value)} {st : List Value} {cc : ByteArray} {nL : Nat} {Ts : List Cond} {own : String} {pc : Nat} {index : Nat} {x y : Int32} (C : yC Z g cc nL Ts own) (hdg : decode cc pc = .ok (.invokestatic index, 3)) (hlink : Cond.methodLink own index Lib.Math.max.name ∈ Ts) (hstat : Cond.static Lib.Math.max.name ∈ Ts) (hini : Cond.initialized "java/lang/Math" ∈ Ts) (hcode : Cond.code Lib.Math.max.name Lib.Math.max.code 2 (some .int) ∈ Ts) (hfr : 1 ≤ R.frames) (hlo : (st.map fun v => v.category).sum + 13 ≤ R.locals) (hc : k ≤ R.cells) (hs : n ≤ R.slots) (K : yJ Z R k n L (pc + 3) lv (.int (if x < y then y else x) :: st)) : yJ Z R k n L pc lv (.int y :: .int x :: st) := by
  obtain ⟨p, l, e, s, m, args, below, meth, c, Q, D, tys, A, nL'⟩ := Z
  obtain ⟨rfl, rfl, rfl, rfl, hx, hb, hml, hown, hts, hlk, hK, hN, hA⟩ := C
  intro H locs ls hP hD hS hl
  exact va_mmax hx hb (hml.trans hl.1.symm) hown (hts _ hlink) (hts _ hstat) (hts _ hini) (hts _ hcode) hfr hlo hc hs hdg (K H locs ls hP hD hS hl)
theorem y_mmin {Z : yZ} {g : yG} {R : Room} {k n : Nat} {L : List va_W} {lv : List (Nat × Value)} {st : List Value} {cc : ByteArray} {nL : Nat} {Ts : List Cond} {own : String} {pc : Nat} {index : Nat} {x y : Int32} (C : yC Z g cc nL Ts own) (hdg : decode cc pc = .ok (.invokestatic index, 3)) (hlink : Cond.methodLink own index Lib.Math.min.name ∈ Ts) (hstat : Cond.static Lib.Math.min.name ∈ Ts) (hini : Cond.initialized "java/lang/Math" ∈ Ts) (hcode : Cond.code Lib.Math.min.name Lib.Math.min.code 2 (some .int) ∈ Ts) (hfr : 1 ≤ R.frames) (hlo : (st.map fun v => v.category).sum + 13 ≤ R.locals) (hc : k ≤ R.cells) (hs : n ≤ R.slots) (K : yJ Z R k n L (pc + 3) lv (.int (if y < x then y else x) :: st)) : yJ Z R k n L pc lv (.int y :: .int x :: st) := by
  obtain ⟨p, l, e, s, m, args, below, meth, c, Q, D, tys, A, nL'⟩ := Z
  obtain ⟨rfl, rfl, rfl, rfl, hx, hb, hml, hown, hts, hlk, hK, hN, hA⟩ := C
  intro H locs ls hP hD hS hl
  exact va_mmin hx hb (hml.trans hl.1.symm) hown (hts _ hlink) (hts _ hstat) (hts _ hini) (hts _ hcode) hfr hlo hc hs hdg (K H locs ls hP hD hS hl)
theorem y_mabs {Z : yZ} {g : yG} {R : Room} {k n : Nat} {L : List va_W} {lv : List (Nat × Value)} {st : List Value} {cc : ByteArray} {nL : Nat} {Ts : List Cond} {own : String} {pc : Nat} {index : Nat} {x : Int32} (C : yC Z g cc nL Ts own) (hdg : decode cc pc = .ok (.invokestatic index, 3)) (hlink : Cond.methodLink own index Lib.Math.abs.name ∈ Ts) (hstat : Cond.static Lib.Math.abs.name ∈ Ts) (hini : Cond.initialized "java/lang/Math" ∈ Ts) (hcode : Cond.code Lib.Math.abs.name Lib.Math.abs.code 1 (some .int) ∈ Ts) (hfr : 1 ≤ R.frames) (hlo : (st.map fun v => v.category).sum + 13 ≤ R.locals) (hc : k ≤ R.cells) (hs : n ≤ R.slots) (K : yJ Z R k n L (pc + 3) lv (.int (if 0 ≤ x then x else 0 - x) :: st)) : yJ Z R k n L pc lv (.int x :: st) := by
  obtain ⟨p, l, e, s, m, args, below, meth, c, Q, D, tys, A, nL'⟩ := Z
  obtain ⟨rfl, rfl, rfl, rfl, hx, hb, hml, hown, hts, hlk, hK, hN, hA⟩ := C
  intro H locs ls hP hD hS hl
  exact va_mabs hx hb (hml.trans hl.1.symm) hown (hts _ hlink) (hts _ hstat) (hts _ hini) (hts _ hcode) hfr hlo hc hs hdg (K H locs ls hP hD hS hl)
theorem y_objInit {Z : yZ} {g : yG} {R : Room} {k n : Nat} {L : List va_W} {lv : List (Nat × Value)} {st : List Value} {cc : ByteArray} {nL : Nat} {Ts : List Cond} {own : String} {pc : Nat} {index a : Nat} (C : yC Z g cc nL Ts own) (hdg : decode cc pc = .ok (.invokespecial index, 3)) (hlink : Cond.methodLink own index Lib.objectInit ∈ Ts) (hinst : Cond.instanceMethod Lib.objectInit ∈ Ts) (hcode : Cond.code Lib.objectInit ⟨#[0xb1]⟩ 1 none ∈ Ts) (hfr : 1 ≤ R.frames) (hlo : (st.map fun v => v.category).sum + 12 ≤ R.locals) (K : yJ Z R k n L (pc + 3) lv st) : yJ Z R k n L pc lv (.ref a :: st) := by
  obtain ⟨p, l, e, s, m, args, below, meth, c, Q, D, tys, A, nL'⟩ := Z
  obtain ⟨rfl, rfl, rfl, rfl, hx, hb, hml, hown, hts, hlk, hK, hN, hA⟩ := C
  intro H locs ls hP hD hS hl
  refine W.objInit hx hb hown (hts _ hlink) (hts _ hinst) (hts _ hcode) rfl (by rw [hml]; exact hl.1) rfl hdg hfr (by show 2 * 0 + _ + 12 ≤ _; omega) ?_
  exact K H locs ls hP hD hS hl
theorem y_ifnonnull {Z : yZ} {g : yG} {R : Room} {k n : Nat} {L : List va_W} {lv : List (Nat × Value)} {st : List Value} {cc : ByteArray} {nL : Nat} {Ts : List Cond} {own : String} {pc : Nat} {a : Nat} {off : Int} {tgt : Nat} (C : yC Z g cc nL Ts own) (hdg : decode cc pc = .ok (.ifnonnull off, 3)) (ht : (pc : Int) + off = (tgt : Int)) (K : yJ Z R k n L tgt lv st) : yJ Z R k n L pc lv (.ref a :: st) := by
  obtain ⟨p, l, e, s, m, args, below, meth, c, Q, D, tys, A, nL'⟩ := Z
  obtain ⟨rfl, rfl, rfl, rfl, hx, hb, hml, hown, hts, hlk, hK, hN, hA⟩ := C
  intro H locs ls hP hD hS hl
  exact lv_ifnonnull hx hb hdg ht (K H locs ls hP hD hS hl)
theorem y_ifnonnullN {Z : yZ} {g : yG} {R : Room} {k n : Nat} {L : List va_W} {lv : List (Nat × Value)} {st : List Value} {cc : ByteArray} {nL : Nat} {Ts : List Cond} {own : String} {pc : Nat} {off : Int} (C : yC Z g cc nL Ts own) (hdg : decode cc pc = .ok (.ifnonnull off, 3)) (K : yJ Z R k n L (pc + 3) lv st) : yJ Z R k n L pc lv (.null :: st) := by
  obtain ⟨p, l, e, s, m, args, below, meth, c, Q, D, tys, A, nL'⟩ := Z
  obtain ⟨rfl, rfl, rfl, rfl, hx, hb, hml, hown, hts, hlk, hK, hN, hA⟩ := C
  intro H locs ls hP hD hS hl
  exact lv_ifnonnullN hx hb hdg (K H locs ls hP hD hS hl)
theorem y_tabIn {Z : yZ} {g : yG} {R : Room} {k n : Nat} {L : List va_W} {lv : List (Nat × Value)} {st : List Value} {cc : ByteArray} {nL : Nat} {Ts : List Cond} {own : String} {pc : Nat} {dflt lo hi : Int} {offs : Array Int} {len : Nat} {x v : Int32} {off : Int} {tgt : Nat} (C : yC Z g cc nL Ts own) (hdg : decode cc pc = .ok (.tableswitch dflt lo hi offs, len)) (hxv : x = v) (h1 : ¬ v.toInt < lo) (h2 : ¬ hi < v.toInt) (ho : offs[(v.toInt - lo).toNat]? = some off) (ht : (pc : Int) + off = (tgt : Int)) (K : yJ Z R k n L tgt lv st) : yJ Z R k n L pc lv (.int x :: st) := by
  subst hxv
  obtain ⟨p, l, e, s, m, args, below, meth, c, Q, D, tys, A, nL'⟩ := Z
  obtain ⟨rfl, rfl, rfl, rfl, hx, hb, hml, hown, hts, hlk, hK, hN, hA⟩ := C
  intro H locs ls hP hD hS hl
  exact lv_tableIn hx hb hdg h1 h2 ho ht (K H locs ls hP hD hS hl)
theorem y_tabOut {Z : yZ} {g : yG} {R : Room} {k n : Nat} {L : List va_W} {lv : List (Nat × Value)} {st : List Value} {cc : ByteArray} {nL : Nat} {Ts : List Cond} {own : String} {pc : Nat} {dflt lo hi : Int} {offs : Array Int} {len : Nat} {x : Int32} {tgt : Nat} (C : yC Z g cc nL Ts own) (hdg : decode cc pc = .ok (.tableswitch dflt lo hi offs, len)) (h : x.toInt < lo ∨ hi < x.toInt) (ht : (pc : Int) + dflt = (tgt : Int)) (K : yJ Z R k n L tgt lv st) : yJ Z R k n L pc lv (.int x :: st) := by
  obtain ⟨p, l, e, s, m, args, below, meth, c, Q, D, tys, A, nL'⟩ := Z
  obtain ⟨rfl, rfl, rfl, rfl, hx, hb, hml, hown, hts, hlk, hK, hN, hA⟩ := C
  intro H locs ls hP hD hS hl
  exact lv_tableOut hx hb hdg h ht (K H locs ls hP hD hS hl)
theorem y_ldc2 {Z : yZ} {g : yG} {R : Room} {k n : Nat} {L : List va_W} {lv : List (Nat × Value)} {st : List Value} {cc : ByteArray} {nL : Nat} {Ts : List Cond} {own : String} {pc : Nat} {index : Nat} {v : Int64} (C : yC Z g cc nL Ts own) (hdg : decode cc pc = .ok (.ldc2_w index, 3)) (hc : Cond.constantLong own index v ∈ Ts) (K : yJ Z R k n L (pc + 3) lv (.long v :: st)) : yJ Z R k n L pc lv st := by
  obtain ⟨p, l, e, s, m, args, below, meth, c, Q, D, tys, A, nL'⟩ := Z
  obtain ⟨rfl, rfl, rfl, rfl, hx, hb, hml, hown, hts, hlk, hK, hN, hA⟩ := C
  intro H locs ls hP hD hS hl
  exact lv_ldc2 hx hb hown (hts _ hc) hdg (K H locs ls hP hD hS hl)
theorem y_if {P F G : Prop} {c : Prop} [Decidable c] (h : if c then P else F) (KT : c → P → G) (KF : ¬ c → F → G) : G := by
  by_cases hc : c
  · rw [if_pos hc] at h
    exact KT hc h
  · rw [if_neg hc] at h
    exact KF hc h
theorem y_e {α : Type} {X a b : α} {c : Prop} [Decidable c] (e : X = if c then a else b) : if c then X = a else X = b := by
  by_cases h : c
  · rw [if_pos h] at e ⊢
    exact e
  · rw [if_neg h] at e ⊢
    exact e
theorem y_same {c P : Prop} [Decidable c] (h : P) : if c then P else P := by
  by_cases hc : c
  · rw [if_pos hc]; exact h
  · rw [if_neg hc]; exact h
theorem y_widen {Z : yZ} {R : Room} {k n k' n' : Nat} {L : List va_W} {lv : List (Nat × Value)} {st : List Value} {pc : Nat} (h1 : k ≤ k') (h2 : n ≤ n') (K : yJ Z R k' n' L pc lv st) : yJ Z R k n L pc lv st := by
  obtain ⟨p, l, e, s, m, args, below, meth, c, Q, D, tys, A, nL'⟩ := Z
  intro H locs ls hP hD hS hl
  exact W.widen h1 h2 (K H locs ls hP hD hS hl)
/-- a value with a name -/
def yl {α : Sort _} {β : Sort _} (e : α) (b : α → β) : β := b e
theorem y_letP {α : Sort _} {e z : α} {b : α → Prop} (h : yl e b) (hz : z = e) : b z := by subst hz; exact h
theorem y_letF {α β : Sort _} {X : β} {e z : α} {b : α → β} (h : X = yl e b) (hz : z = e) : X = b z := by subst hz; exact h
theorem y_topi {Z : yZ} {R : Room} {k n : Nat} {L : List va_W} {lv : List (Nat × Value)} {st : List Value} {pc : Nat} {x : Int32} (K : ∀ z : Int32, z = x → yJ Z R k n L pc lv (.int z :: st)) : yJ Z R k n L pc lv (.int x :: st) := K x rfl
