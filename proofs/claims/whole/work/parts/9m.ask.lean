/-! ===== the questions, as the law meets them ===== -/
theorem zz_ride {m : MV} {d p : RV} {xs : List RV} {a0 a1 : Option RV} {t : RV} {ri wh : Int32} {K : Int32 → MV → Prop} (hM : modR m d p xs a0 a1) (hK : ∀ m', modR m' d p xs a0 a1 → K (f_X6_ride d t ri wh).1 m') : PO_X7_ride ri wh K m := by
  obtain ⟨⟨n, ws, hd, hR⟩, -⟩ := id hM
  exact z_ride (d := d) (t := t) hd hR (fun m' hs => hK m' (modR_qst hM hd (qst_scr (qst_refl hR) hs)))
theorem zz_spare {m : MV} {d p : RV} {xs : List RV} {a0 a1 : Option RV} {t : RV} {ri : Int32} {K : Int32 → MV → Prop} (hM : modR m d p xs a0 a1) (hK : ∀ m', modR m' d p xs a0 a1 → K (f_X6_spare d t ri).1 m') : PO_X7_spare ri K m := by
  obtain ⟨⟨n, ws, hd, hR⟩, -⟩ := id hM
  exact z_spare (d := d) (t := t) hd hR (fun m' hs => hK m' (modR_qst hM hd (qst_scr (qst_refl hR) hs)))
theorem zz_coordinate {m : MV} {d p : RV} {xs : List RV} {a0 a1 : Option RV} {st wh : Int32} {K : Int32 → MV → Prop} (hM : modR m d p xs a0 a1) (hK : ∀ m', modR m' d p xs a0 a1 → K (f_X6_coordinate d st wh) m') : PO_X7_coordinate st wh K m := by
  obtain ⟨⟨n, ws, hd, hR⟩, -⟩ := id hM
  exact z_coordinate (d := d) (st := st) hd hR (fun m' hs => hK m' (modR_qst hM hd (qst_scr (qst_refl hR) hs)))
theorem zz_visit {m : MV} {d p : RV} {xs : List RV} {a0 a1 : Option RV} {t : RV} {pl wh : Int32} {K : Int32 → MV → Prop} (hM : modR m d p xs a0 a1) (hK : ∀ m', modR m' d p xs a0 a1 → K (f_X6_visit d t pl wh).1 m') : PO_X7_visit pl wh K m := by
  obtain ⟨⟨n, ws, hd, hR⟩, -⟩ := id hM
  exact z_visit (d := d) (t := t) hd hR (fun m' hs => hK m' (modR_qst hM hd (qst_scr (qst_refl hR) hs)))
theorem zz_count {m : MV} {d p t : RV} {xs : List RV} {a0 a1 : Option RV} {wh : Int32} {K : Int32 → MV → Prop} (hM : modR m d p xs a0 a1) (hK : ∀ m', modR m' d p xs a0 a1 → K (f_X6_count d t p (nI xs.length) wh).1 m') : PO_X7_count wh K m := by
  obtain ⟨⟨n, ws, hd, hR⟩, hH, -, hp⟩ := id hM
  exact z_count (d := d) (t := t) (p := p) hd hR hp.2.1 hH.2.1 (fun m' hs => hK m' (modR_qst hM hd (qst_scr (qst_refl hR) hs)))
theorem zz_ifBooked {m : MV} {d p : RV} {xs : List RV} {a0 a1 : Option RV} {t sv sd st : RV} {fr to wa bt wh : Int32} {K : Int32 → MV → Prop} (hM : modR m d p xs a0 a1) (hK : ∀ m', modR m' d p xs a0 a1 → K (f_X6_ifBooked d t sv sd st fr to wa bt wh).1 m') : PO_X7_ifBooked fr to wa bt wh K m := by
  obtain ⟨⟨n, ws, hd, hR⟩, -⟩ := id hM
  exact z_ifBooked (d := d) hd hR (fun m' hq => hK m' (modR_qst hM hd hq))
theorem zz_earliestBy {m : MV} {d p : RV} {xs : List RV} {a0 a1 : Option RV} {sv sd st : RV} {fr to wa : Int32} {K : Int32 → MV → Prop} (hM : modR m d p xs a0 a1) (hK : ∀ m', modR m' d p xs a0 a1 → K (f_X6_earliestBy d sv sd st fr to wa).1 m') : PO_X7_earliestBy fr to wa K m := by
  obtain ⟨⟨n, ws, hd, hR⟩, -⟩ := id hM
  exact z_earliestBy (d := d) hd hR (fun m' hq => hK m' (modR_qst hM hd hq))
