/-! ===== a static method of another class of ours ===== -/
theorem y_callSW {Z : yZ} {g : yG} {R : Room} {k n : Nat} {L : List va_W} {lv : List (Nat × Value)} {st : List Value} {cc : ByteArray} {nL : Nat} {Ts : List Cond} {own : String} {pc : Nat} {index mc ms maxL : Nat} {y : MethodName} {bytes : ByteArray} {ret : Option FieldType} {ws ws' : List Cond} {rm : Room} {B : List va_W} {nA nB : Nat} {As rest : List Value} {post : Int32 → List va_W → Prop} (C : yC Z g cc nL Ts own) (hdg : decode cc pc = .ok (.invokestatic index, 3)) (hM : yM g y ws rm (As) B post mc ms) (hst : st = As.reverse ++ rest) (hw : ws = Cond.code y bytes maxL ret :: ws') (hrc : rm.cells = mc) (hrs : rm.slots = ms) (hR : rm.frames + 1 ≤ R.frames ∧ 8 + (maxL + 11) + rm.locals ≤ R.locals) (hG : GoodIn Ts (va_wsS own index y ws)) (hd : y.cls ≠ "java/lang/invoke/MethodHandle" ∧ y.cls ≠ "java/lang/invoke/VarHandle" ∧ (parseMethodDescriptor y.desc).map (fun d => d.parameters.length) = some nA) (hnA : As.length = nA) (hcat : (rest.map fun v => v.category).sum ≤ 8) (hf : k + mc ≤ R.cells ∧ n + ms ≤ R.slots) (is js : List Nat) (hnB : L.length = nB) (hperm : (is ++ js).isPerm (List.range nB) = true) (hpick : yPick L is = B) (K : ∀ r w, post r w → ∃ L1, (yPick L1 is = w ∧ yPick L1 js = yPick L js ∧ L1.length = L.length) ∧ yJ Z R (k + mc) (n + ms) L1 (pc + 3) lv (.int r :: rest)) : yJ Z R k n L pc lv st := by
  obtain ⟨p, l, e, s, m, args, below, meth, c, Q, D, tys, A, nL'⟩ := Z
  obtain ⟨rfl, rfl, rfl, rfl, hx, hb, hml, hown, hts, hlk, hK, hN, hA⟩ := C
  intro H locs ls hP hD hS hl
  subst hnA hnB
  obtain ⟨hPB, hDB, hPf, hDf, hdis⟩ := y_split hperm hpick hP hD
  refine va_calli (va_runS (As := As) (rest := rest) ⟨hx, hb, hml, hown, hts⟩ (hM H.size) (va_cwS As.length hts hG hw hrc hrs hd hR) ⟨yPre_blind _ _ _ _, fun U hU hW => ⟨rfl, by rw [hU], by rw [hU]; exact hPB, ⟨va_K.moved hW.alike hK, hN.warm hW⟩, hDB.weaken (fun _ _ _ _ => trivial)⟩⟩ rfl rfl hl.1 hst (lv_room hcat) hdg hf) hS (fun q _ h => y_freeOf hDB hS hA q h) (y_freeOf hDB hS hA) (fun r w t H1 locs1 ht hvm hw' hB hz1 hk1 hS1 => ?_)
  obtain ⟨L1, ⟨h1, h2, h3⟩, KK⟩ := K r w hw'
  obtain ⟨hPw, hDw⟩ := hB
  rw [ht] at hPw
  obtain ⟨hP1, hD1⟩ := y_back hperm hPf hDf hdis (y_freeOf hDB hS hA) hk1 hPw hDw h1 h2 h3
  exact KK H1 locs1 ls hP1 hD1 hS1 hl
