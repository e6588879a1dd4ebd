/-! ===== driving is a distance; the times of a row of visits ===== -/
def dI (d : RV) (p q : Int32) : Int := (f_X0_minutes d p q).toInt
def cX (d : RV) (p : Int32) : Int := (rAt (d.1 1) p).toInt
def cY (d : RV) (p : Int32) : Int := (rAt (d.1 2) p).toInt
theorem abs_I {a b : Int32} (ha : bd a 0 30) (hb : bd b 0 30) : (if 0 ≤ a - b then a - b else 0 - (a - b)).toInt = (if b.toInt ≤ a.toInt then a.toInt - b.toInt else b.toInt - a.toInt) := by
  obtain ⟨p, q⟩ := ha
  obtain ⟨r, s⟩ := hb
  have e := fb_subI (x := a) (y := b) (by omega) (by omega)
  have e3 := fb_subI (x := 0) (y := a - b) (by rw [t32_0, e]; omega) (by rw [t32_0, e]; omega)
  rw [t32_0, e] at e3
  by_cases c : 0 ≤ a - b
  · rw [if_pos c]
    rw [fa_le, t32_0, e] at c
    rw [e, if_pos (by omega)]
  · rw [if_neg c]
    rw [fa_le, t32_0, e] at c
    rw [e3, if_neg (by omega)]
    omega
theorem dI_eq {d : RV} (hX : bdX d) (p q : Int32) : dI d p q = (if cX d q ≤ cX d p then cX d p - cX d q else cX d q - cX d p) + (if cY d q ≤ cY d p then cY d p - cY d q else cY d q - cY d p) := by
  have x1 := bd_rAt hX.1 p (by omega) (by omega)
  have x2 := bd_rAt hX.1 q (by omega) (by omega)
  have y1 := bd_rAt hX.2 p (by omega) (by omega)
  have y2 := bd_rAt hX.2 q (by omega) (by omega)
  have h := (bd_add (abs_bd x1 x2).1 (abs_bd y1 y2).1 (by omega) (by omega)).2
  unfold dI f_X0_minutes cX cY
  dsimp only [yl]
  rw [h, abs_I x1 x2, abs_I y1 y2]
theorem dI_bd {d : RV} (hX : bdX d) (p q : Int32) : 0 ≤ dI d p q ∧ dI d p q ≤ 60 := min_bd hX.1 hX.2 p q
theorem ab_tri (a b c : Int) : (if c ≤ a then a - c else c - a) ≤ (if b ≤ a then a - b else b - a) + (if c ≤ b then b - c else c - b) := by
  split <;> split <;> split <;> omega
theorem dI_tri {d : RV} (hX : bdX d) (p q r : Int32) : dI d p r ≤ dI d p q + dI d q r := by
  have h1 := ab_tri (cX d p) (cX d q) (cX d r)
  have h2 := ab_tri (cY d p) (cY d q) (cY d r)
  have e1 := dI_eq hX p r
  have e2 := dI_eq hX p q
  have e3 := dI_eq hX q r
  omega
def wtI (d : RV) (r : Nat) : Int := (gA (d.1 5) r).toInt
def byI (d : RV) (r : Nat) : Int := (gA (d.1 6) r).toInt
def skI (d : RV) (r : Nat) : Int := (gA (d.1 7) r).toInt
def pkI (d : RV) (r : Nat) : Int := (gA (d.1 9) r).toInt
def dnI (d : RV) (r : Nat) : Int := (gA (d.1 10) r).toInt
def S3 (d : RV) : Int := (gA (d.1 0) 2).toInt
/-- the time of a visit by a bus that is free at p at f -/
def tmI (d : RV) (p : Int32) (f : Int) (v : Nat) : Int := if v % 2 = 0 then (if f + dI d p (sSt d v) < wtI d (v / 2) then wtI d (v / 2) else f + dI d p (sSt d v)) else f + dI d p (sSt d v)
theorem tmI_ge (d : RV) (p : Int32) (f : Int) (v : Nat) : f + dI d p (sSt d v) ≤ tmI d p f v := by
  unfold tmI
  split
  · split
    · omega
    · exact Int.le_refl _
  · exact Int.le_refl _
theorem tmI_wt {d : RV} {p : Int32} {f : Int} {v : Nat} (h : v % 2 = 0) : wtI d (v / 2) ≤ tmI d p f v := by
  unfold tmI
  rw [if_pos h]
  split <;> omega
theorem tmI_down {d : RV} {p : Int32} {f : Int} {v : Nat} (h : v % 2 = 1) : tmI d p f v = f + dI d p (sSt d v) := by
  unfold tmI
  rw [if_neg (by omega)]
theorem tmI_mono {d : RV} {p p' : Int32} {f f' : Int} {v : Nat} (h : f + dI d p (sSt d v) ≤ f' + dI d p' (sSt d v)) : tmI d p f v ≤ tmI d p' f' v := by
  unfold tmI
  split
  · split <;> split <;> omega
  · exact h
/-- nobody is set down late -/
def lateP (d : RV) : Int32 → Int → List Nat → Prop
  | _, _, [] => True
  | p, f, v :: l => (v % 2 = 1 → tmI d p f v ≤ byI d (v / 2)) ∧ lateP d (sSt d v) (tmI d p f v + S3 d) l
/-- the first visit isn't before now -/
def fstP (d : RV) (p : Int32) (f now : Int) : List Nat → Prop
  | [] => True
  | v :: _ => now ≤ tmI d p f v
/-- a bus that is nowhere later -/
def domP (d : RV) (p : Int32) (f : Int) (p' : Int32) (f' : Int) : Prop := ∀ q, f + dI d p q ≤ f' + dI d p' q
theorem domP_rf (d : RV) (p : Int32) (f : Int) : domP d p f p f := fun _ => Int.le_refl _
/-- behind a visit that was left out, the bus isn't later -/
theorem domP_skip {d : RV} (hX : bdX d) (hS : 0 ≤ S3 d) {p p' : Int32} {f f' : Int} (v : Nat) (h : domP d p f p' f') : domP d p f (sSt d v) (tmI d p' f' v + S3 d) := by
  intro q
  have h1 := h q
  have h2 := dI_tri hX p' (sSt d v) q
  have h3 := tmI_ge d p' f' v
  omega
theorem domP_next {d : RV} {p p' : Int32} {f f' : Int} (v : Nat) (h : domP d p f p' f') : domP d (sSt d v) (tmI d p f v + S3 d) (sSt d v) (tmI d p' f' v + S3 d) := by
  intro q
  have h1 := tmI_mono (v := v) (h (sSt d v))
  omega
theorem late_off {d : RV} (hX : bdX d) (hS : 0 ≤ S3 d) (r : Nat) : ∀ (l : List Nat) {p p' : Int32} {f f' : Int}, domP d p f p' f' → lateP d p' f' l → lateP d p f (offN l r) := by
  intro l
  induction l with
  | nil => exact fun _ _ => trivial
  | cons v l ih =>
    intro p p' f f' hd h
    obtain ⟨h1, h2⟩ := h
    rw [offN_cons]
    split
    · exact ih (domP_skip hX hS v hd) h2
    · refine ⟨fun e => ?_, ih (domP_next v hd) h2⟩
      have := tmI_mono (v := v) (hd (sSt d v))
      have := h1 e
      omega
/-- of two days with the same stops, rides and settings the times are the same -/
theorem sSt_same {d e : RV} (h3 : e.1 3 = d.1 3) (h4 : e.1 4 = d.1 4) (v : Nat) : sSt e v = sSt d v := by
  unfold sSt f_X0_stopOf
  rw [h3, h4]
theorem dI_same {d e : RV} (h1 : e.1 1 = d.1 1) (h2 : e.1 2 = d.1 2) (p q : Int32) : dI e p q = dI d p q := by
  unfold dI f_X0_minutes
  rw [h1, h2]
theorem tmI_same {d e : RV} (h : ∀ j, 0 < j → j < 7 → e.1 j = d.1 j) (p : Int32) (f : Int) (v : Nat) : tmI e p f v = tmI d p f v := by
  unfold tmI wtI
  rw [sSt_same (h 3 (by omega) (by omega)) (h 4 (by omega) (by omega)), dI_same (h 1 (by omega) (by omega)) (h 2 (by omega) (by omega)), h 5 (by omega) (by omega)]
theorem late_same {d e : RV} (h : ∀ j, j < 7 → e.1 j = d.1 j) : ∀ (l : List Nat) (p : Int32) (f : Int), lateP d p f l → lateP e p f l := by
  intro l
  induction l with
  | nil => exact fun _ _ _ => trivial
  | cons v l ih =>
    intro p f hl
    obtain ⟨h1, h2⟩ := hl
    have ht := tmI_same (d := d) (e := e) (fun j _ hj => h j hj) p f v
    have hs : sSt e v = sSt d v := sSt_same (h 3 (by omega)) (h 4 (by omega)) v
    have hS : S3 e = S3 d := by unfold S3; rw [h 0 (by omega)]
    have hb : byI e (v / 2) = byI d (v / 2) := by unfold byI; rw [h 6 (by omega)]
    refine ⟨fun q => by rw [ht, hb]; exact h1 q, ?_⟩
    rw [ht, hs, hS]
    exact ih _ _ h2
theorem fst_same {d e : RV} (h : ∀ j, 0 < j → j < 7 → e.1 j = d.1 j) {l : List Nat} {p : Int32} {f now : Int} (hf : fstP d p f now l) : fstP e p f now l := by
  cases l with
  | nil => trivial
  | cons v l =>
    show now ≤ tmI e p f v
    rw [tmI_same h]
    exact hf
/-! ===== the table's times are these ===== -/
def pK (d : RV) (ws : List Nat) (k : Nat) : Int32 := (TK d ws k).2 0
def fK (d : RV) (ws : List Nat) (k : Nat) : Int := ((TK d ws k).2 1).toInt
def tK (d : RV) (ws : List Nat) (k : Nat) : Int := tmI d (pK d ws k) (fK d ws k) (gN ws k)
theorem sTime_I {d t : RV} {v k : Nat} (hx : bdX d) (ht : bd (t.2 1) 0 (3000 + 700 * (k : Int))) (hk : k < 1000) : (sTime d t v).toInt = tmI d (t.2 0) (t.2 1).toInt v := by
  have h := (sCome_bd (v := v) hx ht hk).2
  unfold sTime tmI
  by_cases e : v % 2 = 0
  · rw [if_pos e, if_pos e]
    by_cases c : sCome d t v < gA (d.1 5) (v / 2)
    · rw [if_pos c]
      rw [fa_lt, h] at c
      rw [if_pos (show (t.2 1).toInt + dI d (t.2 0) (sSt d v) < wtI d (v / 2) from c)]
      rfl
    · rw [if_neg c]
      rw [fa_lt, h] at c
      rw [if_neg (show ¬ (t.2 1).toInt + dI d (t.2 0) (sSt d v) < wtI d (v / 2) from c)]
      exact h
  · rw [if_neg e, if_neg e]
    exact h
theorem time_K {d : RV} {ws : List Nat} {n k : Nat} (hb : bdD d n) (hF : tabF d ws n k) (hk : k < 1000) : (sTime d (TK d ws k) (gN ws k)).toInt = tK d ws k := by
  obtain ⟨-, -, -, -, -, -, fc, -⟩ := hF
  exact sTime_I hb.2.1 fc hk
theorem next_K {d : RV} {ws : List Nat} {n k : Nat} (hn : n ≤ 17) (hw : wsOk ws n) (hb : bdD d n) (hF : tabF d ws n k) (hk : k < ws.length) : pK d ws (k + 1) = sSt d (gN ws k) ∧ fK d ws (k + 1) = tK d ws k + S3 d := by
  have hwl := hw.1
  obtain ⟨s0, s1, -⟩ := TK_step (d := d) hn hw hk
  have ht := time_K hb hF (by omega)
  obtain ⟨-, -, -, -, -, -, fc, -⟩ := hF
  have hb2 := sTime_bd (v := gN ws k) hb.2.1 hb.2.2.1 fc (by omega)
  refine ⟨s0, ?_⟩
  unfold fK
  rw [s1, (bd_add hb2 hb.1.2.2 (by omega) (by omega)).2, ht]
  rfl
theorem fK_0 (d : RV) (ws : List Nat) : pK d ws 0 = d.2 1 ∧ fK d ws 0 = (d.2 2).toInt := ⟨rfl, rfl⟩
/-- late or not, visit by visit -/
theorem late_drop {d : RV} {ws : List Nat} {n k : Nat} (hn : n ≤ 17) (hw : wsOk ws n) (hb : bdD d n) (hF : tabF d ws n k) (hk : k < ws.length) : lateP d (pK d ws k) (fK d ws k) (ws.drop k) ↔ ((gN ws k % 2 = 1 → tK d ws k ≤ byI d (gN ws k / 2)) ∧ lateP d (pK d ws (k + 1)) (fK d ws (k + 1)) (ws.drop (k + 1))) := by
  obtain ⟨e1, e2⟩ := next_K hn hw hb hF hk
  rw [e1, e2, List.drop_eq_getElem_cons hk, ← gN_get hk]
  exact Iff.rfl
theorem late_all {d : RV} {ws : List Nat} {n : Nat} (hn : n ≤ 17) (hw : wsOk ws n) (hb : bdD d n) (hF : ∀ k, k ≤ ws.length → tabF d ws n k) (h : lateP d (d.2 1) (d.2 2).toInt ws) : ∀ k, k ≤ ws.length → lateP d (pK d ws k) (fK d ws k) (ws.drop k) := by
  intro k
  induction k with
  | zero => exact fun _ => h
  | succ k ih => exact fun hk => ((late_drop hn hw hb (hF k (by omega)) (by omega)).mp (ih (by omega))).2
theorem late_at {d : RV} {ws : List Nat} {n : Nat} (hn : n ≤ 17) (hw : wsOk ws n) (hb : bdD d n) (hF : ∀ k, k ≤ ws.length → tabF d ws n k) (h : lateP d (d.2 1) (d.2 2).toInt ws) {k : Nat} (hk : k < ws.length) (e : gN ws k % 2 = 1) : tK d ws k ≤ byI d (gN ws k / 2) :=
  ((late_drop hn hw hb (hF k (by omega)) hk).mp (late_all hn hw hb hF h k (by omega))).1 e
theorem late_of {d : RV} {ws : List Nat} {n : Nat} (hn : n ≤ 17) (hw : wsOk ws n) (hb : bdD d n) (hF : ∀ k, k ≤ ws.length → tabF d ws n k) (h : ∀ k, k < ws.length → gN ws k % 2 = 1 → tK d ws k ≤ byI d (gN ws k / 2)) : lateP d (d.2 1) (d.2 2).toInt ws := by
  have key : ∀ m k, k + m = ws.length → lateP d (pK d ws k) (fK d ws k) (ws.drop k) := by
    intro m
    induction m with
    | zero =>
      intro k hk
      rw [List.drop_of_length_le (by omega)]
      trivial
    | succ m ih =>
      intro k hk
      exact (late_drop hn hw hb (hF k (by omega)) (by omega)).mpr ⟨h k (by omega), ih (k + 1) (by omega)⟩
  exact key ws.length 0 (by omega)
theorem tK_ge {d : RV} {ws : List Nat} {n k : Nat} (hb : bdD d n) : fK d ws k ≤ tK d ws k := by
  have h1 := tmI_ge d (pK d ws k) (fK d ws k) (gN ws k)
  have h2 := (dI_bd hb.2.1 (pK d ws k) (sSt d (gN ws k))).1
  unfold tK
  omega
