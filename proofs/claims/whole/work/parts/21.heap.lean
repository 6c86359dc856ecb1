theorem wsOf_set {aC : Nat → ClassId} {n b : Nat} {w w' : Wd} {ad : Nat → Nat} {x : va_E} (hx : cellOf aC w' ad b = x) (hq : ∀ q, q ≠ b → cellOf aC w' ad q = cellOf aC w ad q) : (wsOf aC n w ad).set b (ad b, x) = wsOf aC n w' ad := by
  subst hx
  exact ws_set (f := fun q => (ad q, cellOf aC w ad q)) (g := fun q => (ad q, cellOf aC w' ad q)) (fun q hq' => by show (ad q, cellOf aC w' ad q) = (ad q, cellOf aC w ad q); rw [hq q hq'])
def pu (r : Option Int32) (st : List Value) : List Value := match r with
  | some x => .int x :: st
  | none => st
theorem ty0 (aC : Nat → ClassId) : (tysOf aC)[0]? = some (aC 1, FieldType.int) := rfl
theorem ty1 (aC : Nat → ClassId) : (tysOf aC)[1]? = some (aC 2, FieldType.boolean) := rfl
theorem TB_good : ∀ w ∈ TB, (w.onTables && w.keeps) = true ∨ ∃ ty, w = .arrayClass ty := fun w hw => good_of_word (List.mem_filter.mp hw).2
theorem goodTB {Y : MD} (h : Cond.code Y.1 Y.2.1 Y.2.2.1 Y.2.2.2.1 ∈ TB) : GoodIn TB (wsM Y) := fun w hw => by
  have hw' : w ∈ TB := (List.mem_cons.mp hw).elim (fun e => e ▸ h) id
  exact ⟨hw', TB_good w hw'⟩

theorem g_getI {Y : MD} {R : Room} {Z : Zt} {n0 pc q n k j : Nat} {L st : List Value} {w : Wd} {b ci i idx N : Nat} {C : String} {T : u_T} (hcl : vwCl[ci]? = some (C, T, N)) (hN : nF ci = N) (hin : ∀ w ∈ u_ws C T N, w ∈ TB) (hi : i < N) (hlk : Cond.fieldLink Y.1.cls idx (T i).1 (T i).2.1 (T i).2.2.1 ∈ TB) (hI : isI ci i = true) (hs : shn n b = (0, ci)) (hd : decode Y.2.1 pc = .ok (.getfield idx, 3)) (hq : pc + 3 = q) (h : G Y R Z n0 q L (.int (w.1 b i) :: st) n w k j) : G Y R Z n0 pc L (.ref b :: st) n w k j := by
  intro p l e s m args below meth c D aC A ad0 ad H locs ls hC hK hY hl
  subst hq
  obtain ⟨hb, hsh⟩ := shn_lt hs (by show (0 : Nat) ≠ 9; decide)
  have he := wsOf_get (aC := aC) (w := w) (ad := ad) hb
  rw [cell_obj hsh] at he
  exact va_get hC.1 hC.2.1 hC.2.2.2.2.2.1 hin hC.2.2.2.2.1 hK.1 hY.1 b he hcl i hi (hC.2.2.2.2.2.1 _ hlk) (fun _ h9 => h9) (v := .int (w.1 b i)) (by rw [flds_get (by rw [hN]; exact hi), if_pos hI]) hd (h p l e s m args below meth c D aC A ad0 ad H locs ls hC hK hY hl)
theorem g_getR {Y : MD} {R : Room} {Z : Zt} {n0 pc q n k j : Nat} {L st : List Value} {w : Wd} {b ci i idx N : Nat} {C : String} {T : u_T} {r : Nat} (hcl : vwCl[ci]? = some (C, T, N)) (hN : nF ci = N) (hin : ∀ w ∈ u_ws C T N, w ∈ TB) (hi : i < N) (hlk : Cond.fieldLink Y.1.cls idx (T i).1 (T i).2.1 (T i).2.2.1 ∈ TB) (hI : isI ci i = false) (hs : shn n b = (0, ci)) (hr : w.2 b i = some r) (hd : decode Y.2.1 pc = .ok (.getfield idx, 3)) (hq : pc + 3 = q) (h : G Y R Z n0 q L (.ref r :: st) n w k j) : G Y R Z n0 pc L (.ref b :: st) n w k j := by
  intro p l e s m args below meth c D aC A ad0 ad H locs ls hC hK hY hl
  subst hq
  obtain ⟨hb, hsh⟩ := shn_lt hs (by show (0 : Nat) ≠ 9; decide)
  have he := wsOf_get (aC := aC) (w := w) (ad := ad) hb
  rw [cell_obj hsh] at he
  exact va_get hC.1 hC.2.1 hC.2.2.2.2.2.1 hin hC.2.2.2.2.1 hK.1 hY.1 b he hcl i hi (hC.2.2.2.2.2.1 _ hlk) (fun _ h9 => h9) (v := .ref (ad r)) (by rw [flds_get (by rw [hN]; exact hi), if_neg (by rw [hI]; decide), hr]; rfl) hd (h p l e s m args below meth c D aC A ad0 ad H locs ls hC hK hY hl)
theorem g_putI {Y : MD} {R : Room} {Z : Zt} {n0 pc q n k j : Nat} {L st : List Value} {w : Wd} {b ci i idx N : Nat} {C : String} {T : u_T} {x : Int32} (hcl : vwCl[ci]? = some (C, T, N)) (hN : nF ci = N) (hin : ∀ w ∈ u_ws C T N, w ∈ TB) (hi : i < N) (hlk : Cond.fieldLink Y.1.cls idx (T i).1 (T i).2.1 (T i).2.2.1 ∈ TB) (ty0 : Nat → FieldType) (hty : ∀ k, k < N → parseFieldDescriptor (T k).2.2.1 = some (ty0 k)) (hnm : ∀ a, a < N → ∀ b, b < N → a ≠ b → (T a).2.1 ≠ (T b).2.1) (hfin : (T i).2.2.2 = false) (hI : isI ci i = true) {ty : FieldType} (hpd : parseFieldDescriptor (T i).2.2.1 = some ty) (hn : narrow ty (.int x) = .int x) (hfit : fits ty (.int x) = true) (hs : shn n b = (0, ci)) (hd : decode Y.2.1 pc = .ok (.putfield idx, 3)) (hq : pc + 3 = q) (h : G Y R Z n0 q L st n (uI w.1 b i x, w.2) k j) : G Y R Z n0 pc L (.int x :: .ref b :: st) n w k j := by
  intro p l e s m args below meth c D aC A ad0 ad H locs ls hC hK hY hl
  subst hq
  obtain ⟨hb, hsh⟩ := shn_lt hs (by show (0 : Nat) ≠ 9; decide)
  have he := wsOf_get (aC := aC) (w := w) (ad := ad) hb
  rw [cell_obj hsh] at he
  refine va_put (v := .int x) hC.1 hC.2.1 hC.2.2.2.2.2.1 hin ty0 hty hnm hC.2.2.2.2.1 hK.1 hY.1 hY.2.1 hY.2.2.1 b he hcl i hi (hC.2.2.2.2.2.1 _ hlk) (fun _ h9 => h9) hfin hpd hn hfit (by simp [flds, hN, hi]) hd (fun H1 locs1 hP1 hD1 hS1 => ?_)
  have hw : (wsOf aC n w ad).set b (ad b, .inr (ci, (flds ci b w ad).set i (.int x))) = wsOf aC n (uI w.1 b i x, w.2) ad := by
    refine wsOf_set ?_ ?_
    · rw [cell_obj hsh]
      refine congrArg (fun z => Sum.inr (ci, z)) (flds_set ?_ ?_).symm
      · rw [if_pos hI]; simp [uI]
      · intro x hx
        simp [uI, uR, hx]
    · intro x hx
      refine cell_same ?_ ?_
      · first | rfl | exact uI_ne hx
      · intro y; first | rfl | (show Option.map ad (uR w.2 b i _ x y) = _; rw [uR_ne hx])
  rw [hw] at hP1 hD1
  exact h p l e s m args below meth c D aC A ad0 ad H1 locs1 ls hC hK ⟨hP1, hD1, hS1, hY.2.2.2⟩ hl
theorem g_putR {Y : MD} {R : Room} {Z : Zt} {n0 pc q n k j : Nat} {L st : List Value} {w : Wd} {b ci i idx N : Nat} {C : String} {T : u_T} {r : Nat} (hcl : vwCl[ci]? = some (C, T, N)) (hN : nF ci = N) (hin : ∀ w ∈ u_ws C T N, w ∈ TB) (hi : i < N) (hlk : Cond.fieldLink Y.1.cls idx (T i).1 (T i).2.1 (T i).2.2.1 ∈ TB) (ty0 : Nat → FieldType) (hty : ∀ k, k < N → parseFieldDescriptor (T k).2.2.1 = some (ty0 k)) (hnm : ∀ a, a < N → ∀ b, b < N → a ≠ b → (T a).2.1 ≠ (T b).2.1) (hfin : (T i).2.2.2 = false) (hI : isI ci i = false) {ty : FieldType} (hpd : parseFieldDescriptor (T i).2.2.1 = some ty) (hn : ∀ z, narrow ty (.ref z) = .ref z) (hfit : ∀ z, fits ty (.ref z) = true) (hs : shn n b = (0, ci)) (hd : decode Y.2.1 pc = .ok (.putfield idx, 3)) (hq : pc + 3 = q) (h : G Y R Z n0 q L st n (w.1, uR w.2 b i (some r)) k j) : G Y R Z n0 pc L (.ref r :: .ref b :: st) n w k j := by
  intro p l e s m args below meth c D aC A ad0 ad H locs ls hC hK hY hl
  subst hq
  obtain ⟨hb, hsh⟩ := shn_lt hs (by show (0 : Nat) ≠ 9; decide)
  have he := wsOf_get (aC := aC) (w := w) (ad := ad) hb
  rw [cell_obj hsh] at he
  refine va_put (v := .ref (ad r)) hC.1 hC.2.1 hC.2.2.2.2.2.1 hin ty0 hty hnm hC.2.2.2.2.1 hK.1 hY.1 hY.2.1 hY.2.2.1 b he hcl i hi (hC.2.2.2.2.2.1 _ hlk) (fun _ h9 => h9) hfin hpd (hn _) (hfit _) (by simp [flds, hN, hi]) hd (fun H1 locs1 hP1 hD1 hS1 => ?_)
  have hw : (wsOf aC n w ad).set b (ad b, .inr (ci, (flds ci b w ad).set i (.ref (ad r)))) = wsOf aC n (w.1, uR w.2 b i (some r)) ad := by
    refine wsOf_set ?_ ?_
    · rw [cell_obj hsh]
      refine congrArg (fun z => Sum.inr (ci, z)) (flds_set ?_ ?_).symm
      · rw [if_neg (by rw [hI]; decide)]; simp [uR, va_rf]
      · intro x hx
        simp [uI, uR, hx]
    · intro x hx
      refine cell_same ?_ ?_
      · first | rfl | exact uI_ne hx
      · intro y; first | rfl | (show Option.map ad (uR w.2 b i _ x y) = _; rw [uR_ne hx])
  rw [hw] at hP1 hD1
  exact h p l e s m args below meth c D aC A ad0 ad H1 locs1 ls hC hK ⟨hP1, hD1, hS1, hY.2.2.2⟩ hl
theorem g_putFR {Y : MD} {R : Room} {Z : Zt} {n0 pc q n k j : Nat} {L st : List Value} {w : Wd} {b ci i idx N : Nat} {C : String} {T : u_T} {r : Nat} (hcl : vwCl[ci]? = some (C, T, N)) (hN : nF ci = N) (hin : ∀ w ∈ u_ws C T N, w ∈ TB) (hi : i < N) (hlk : Cond.fieldLink Y.1.cls idx (T i).1 (T i).2.1 (T i).2.2.1 ∈ TB) (ty0 : Nat → FieldType) (hty : ∀ k, k < N → parseFieldDescriptor (T k).2.2.1 = some (ty0 k)) (hnm : ∀ a, a < N → ∀ b, b < N → a ≠ b → (T a).2.1 ≠ (T b).2.1) (hfin : (T i).2.2.2 = true) (hini : Y.1.name = "<init>") (hdecl : (T i).1 = Y.1.cls) (hI : isI ci i = false) {ty : FieldType} (hpd : parseFieldDescriptor (T i).2.2.1 = some ty) (hn : ∀ z, narrow ty (.ref z) = .ref z) (hfit : ∀ z, fits ty (.ref z) = true) (hs : shn n b = (0, ci)) (hd : decode Y.2.1 pc = .ok (.putfield idx, 3)) (hq : pc + 3 = q) (h : G Y R Z n0 q L st n (w.1, uR w.2 b i (some r)) k j) : G Y R Z n0 pc L (.ref r :: .ref b :: st) n w k j := by
  intro p l e s m args below meth c D aC A ad0 ad H locs ls hC hK hY hl
  subst hq
  obtain ⟨hb, hsh⟩ := shn_lt hs (by show (0 : Nat) ≠ 9; decide)
  have he := wsOf_get (aC := aC) (w := w) (ad := ad) hb
  rw [cell_obj hsh] at he
  refine va_putF (v := .ref (ad r)) hC.1 hC.2.1 hC.2.2.2.2.2.1 hin ty0 hty hnm hC.2.2.2.2.1 hK.1 hY.1 hY.2.1 hY.2.2.1 b he hcl i hi (hC.2.2.2.2.2.1 _ hlk) (fun _ h9 => h9) hfin (hC.2.2.2.2.2.2.2 hini) hdecl hpd (hn _) (hfit _) (by simp [flds, hN, hi]) hd (fun H1 locs1 hP1 hD1 hS1 => ?_)
  have hw : (wsOf aC n w ad).set b (ad b, .inr (ci, (flds ci b w ad).set i (.ref (ad r)))) = wsOf aC n (w.1, uR w.2 b i (some r)) ad := by
    refine wsOf_set ?_ ?_
    · rw [cell_obj hsh]
      refine congrArg (fun z => Sum.inr (ci, z)) (flds_set ?_ ?_).symm
      · rw [if_neg (by rw [hI]; decide)]; simp [uR, va_rf]
      · intro x hx
        simp [uI, uR, hx]
    · intro x hx
      refine cell_same ?_ ?_
      · first | rfl | exact uI_ne hx
      · intro y; first | rfl | (show Option.map ad (uR w.2 b i _ x y) = _; rw [uR_ne hx])
  rw [hw] at hP1 hD1
  exact h p l e s m args below meth c D aC A ad0 ad H1 locs1 ls hC hK ⟨hP1, hD1, hS1, hY.2.2.2⟩ hl
theorem g_iald {Y : MD} {R : Room} {Z : Zt} {n0 pc q n k j : Nat} {L st : List Value} {w : Wd} {b N : Nat} {i : Int32} (hs : shn n b = (1, N)) (hin : vp_in i N) (hd : decode Y.2.1 pc = .ok (.iaload, 1)) (hq : pc + 1 = q) (h : G Y R Z n0 q L (.int (w.1 b i.toNatClampNeg) :: st) n w k j) : G Y R Z n0 pc L (.int i :: .ref b :: st) n w k j := by
  intro p l e s m args below meth c D aC A ad0 ad H locs ls hC hK hY hl
  subst hq
  obtain ⟨hb, hsh⟩ := shn_lt hs (by show (1 : Nat) ≠ 9; decide)
  have he := wsOf_get (aC := aC) (w := w) (ad := ad) hb
  rw [cell_arr hsh (by decide) (by decide)] at he
  exact va_iald hC.1 hC.2.1 hK.1 hY.1 b 0 he (ty0 aC) hin hd (h p l e s m args below meth c D aC A ad0 ad H locs ls hC hK hY hl)
theorem g_zald {Y : MD} {R : Room} {Z : Zt} {n0 pc q n k j : Nat} {L st : List Value} {w : Wd} {b N : Nat} {i : Int32} (hs : shn n b = (2, N)) (hin : vp_in i N) (hd : decode Y.2.1 pc = .ok (.baload, 1)) (hq : pc + 1 = q) (h : G Y R Z n0 q L (.int (w.1 b i.toNatClampNeg) :: st) n w k j) : G Y R Z n0 pc L (.int i :: .ref b :: st) n w k j := by
  intro p l e s m args below meth c D aC A ad0 ad H locs ls hC hK hY hl
  subst hq
  obtain ⟨hb, hsh⟩ := shn_lt hs (by show (2 : Nat) ≠ 9; decide)
  have he := wsOf_get (aC := aC) (w := w) (ad := ad) hb
  rw [cell_arr hsh (by decide) (by decide)] at he
  exact va_zald hC.1 hC.2.1 hK.1 hY.1 b 1 he (ty1 aC) hin hd (h p l e s m args below meth c D aC A ad0 ad H locs ls hC hK hY hl)
theorem g_iast {Y : MD} {R : Room} {Z : Zt} {n0 pc q n k j : Nat} {L st : List Value} {w : Wd} {b N : Nat} {i x : Int32} (hs : shn n b = (1, N)) (hin : vp_in i N) (hd : decode Y.2.1 pc = .ok (.iastore, 1)) (hq : pc + 1 = q) (h : G Y R Z n0 q L st n (uI w.1 b i.toNatClampNeg (x), w.2) k j) : G Y R Z n0 pc L (.int x :: .int i :: .ref b :: st) n w k j := by
  intro p l e s m args below meth c D aC A ad0 ad H locs ls hC hK hY hl
  subst hq
  obtain ⟨hb, hsh⟩ := shn_lt hs (by show (1 : Nat) ≠ 9; decide)
  have he := wsOf_get (aC := aC) (w := w) (ad := ad) hb
  rw [cell_arr hsh (by decide) (by decide)] at he
  refine va_iast hC.1 hC.2.1 hK.1 hY.1 hY.2.1 hY.2.2.1 b 0 he (ty0 aC) hin hd (fun H1 locs1 hP1 hD1 hS1 => ?_)
  have hw : (wsOf aC n w ad).set b (ad b, .inl (aC 1, N, .inl (upd (w.1 b) i.toNatClampNeg (x)))) = wsOf aC n (uI w.1 b i.toNatClampNeg (x), w.2) ad := by
    refine wsOf_set ?_ (fun x hx => cell_same (uI_ne hx) (fun _ => rfl))
    rw [cell_arr hsh (by decide) (by decide)]
    refine congrArg (fun z => Sum.inl (aC 1, N, Sum.inl z)) ?_
    funext y
    simp [uI, upd]
  rw [hw] at hP1 hD1
  exact h p l e s m args below meth c D aC A ad0 ad H1 locs1 ls hC hK ⟨hP1, hD1, hS1, hY.2.2.2⟩ hl
theorem g_zast {Y : MD} {R : Room} {Z : Zt} {n0 pc q n k j : Nat} {L st : List Value} {w : Wd} {b N : Nat} {i x : Int32} (hs : shn n b = (2, N)) (hin : vp_in i N) (hd : decode Y.2.1 pc = .ok (.bastore, 1)) (hq : pc + 1 = q) (h : G Y R Z n0 q L st n (uI w.1 b i.toNatClampNeg (vp_nar .boolean x), w.2) k j) : G Y R Z n0 pc L (.int x :: .int i :: .ref b :: st) n w k j := by
  intro p l e s m args below meth c D aC A ad0 ad H locs ls hC hK hY hl
  subst hq
  obtain ⟨hb, hsh⟩ := shn_lt hs (by show (2 : Nat) ≠ 9; decide)
  have he := wsOf_get (aC := aC) (w := w) (ad := ad) hb
  rw [cell_arr hsh (by decide) (by decide)] at he
  refine va_zast hC.1 hC.2.1 hK.1 hY.1 hY.2.1 hY.2.2.1 b 1 he (ty1 aC) hin hd (fun H1 locs1 hP1 hD1 hS1 => ?_)
  have hw : (wsOf aC n w ad).set b (ad b, .inl (aC 2, N, .inl (upd (w.1 b) i.toNatClampNeg (vp_nar .boolean x)))) = wsOf aC n (uI w.1 b i.toNatClampNeg (vp_nar .boolean x), w.2) ad := by
    refine wsOf_set ?_ (fun x hx => cell_same (uI_ne hx) (fun _ => rfl))
    rw [cell_arr hsh (by decide) (by decide)]
    refine congrArg (fun z => Sum.inl (aC 2, N, Sum.inl z)) ?_
    funext y
    simp [uI, upd]
  rw [hw] at hP1 hD1
  exact h p l e s m args below meth c D aC A ad0 ad H1 locs1 ls hC hK ⟨hP1, hD1, hS1, hY.2.2.2⟩ hl
theorem g_aald {Y : MD} {R : Room} {Z : Zt} {n0 pc q n k j : Nat} {L st : List Value} {w : Wd} {b N t r : Nat} {C : String} {i : Int32} (hs : shn n b = (t, N)) (ht3 : ¬ t ≤ 2) (ht9 : t ≠ 9) (hty : ∀ aC : Nat → ClassId, (tysOf aC)[t - 1]? = some (aC t, FieldType.object C)) (hin : vp_in i N) (hr : w.2 b i.toNatClampNeg = some r) (hd : decode Y.2.1 pc = .ok (.aaload, 1)) (hq : pc + 1 = q) (h : G Y R Z n0 q L (.ref r :: st) n w k j) : G Y R Z n0 pc L (.int i :: .ref b :: st) n w k j := by
  intro p l e s m args below meth c D aC A ad0 ad H locs ls hC hK hY hl
  subst hq
  obtain ⟨hb, hsh⟩ := shn_lt hs ht9
  have he := wsOf_get (aC := aC) (w := w) (ad := ad) hb
  rw [cell_ref hsh ht3] at he
  refine va_aldq hC.1 hC.2.1 hK.1 hY.1 b (t - 1) he (hty aC) hin hd ?_
  rw [hr]
  exact (h p l e s m args below meth c D aC A ad0 ad H locs ls hC hK hY hl)
theorem g_gets {Y : MD} {R : Room} {Z : Zt} {n0 pc q n k j : Nat} {L st : List Value} {w : Wd} {i idx : Nat} (hi : i < 4) (hlk : Cond.fieldLink Y.1.cls idx (stC i).1 (stC i).2 "[I" ∈ TB) (hd : decode Y.2.1 pc = .ok (.getstatic idx, 3)) (hq : pc + 3 = q) (h : G Y R Z n0 q L (.ref (1001 + i) :: st) n w k j) : G Y R Z n0 pc L st n w k j := by
  intro p l e s m args below meth c D aC A ad0 ad H locs ls hC hK hY hl
  subst hq
  have h0 : ad (1001 + i) = ad0 (1001 + i) := hY.2.2.2.2.2 _ (Or.inr (Or.inr (by omega)))
  refine va_gets (v := .ref (ad0 (1001 + i))) hC.1 hC.2.1 (hK.2.2.2.2.1 i hi).1 hY.2.2.1 hC.2.2.2.2.1 (hC.2.2.2.2.2.1 _ hlk) (fun _ h9 => h9) hd ?_
  have h1 := h p l e s m args below meth c D aC A ad0 ad H locs ls hC hK hY hl
  rw [← h0]
  exact h1
theorem g_getsN {Y : MD} {R : Room} {Z : Zt} {n0 pc q n k j : Nat} {L st : List Value} {w : Wd} (hy : Y.1.cls = "WovenCalls$Weave") (hd : decode Y.2.1 pc = .ok (.getstatic 65, 3)) (hq : pc + 3 = q) (h : G Y R Z n0 q L (.ref 1001 :: st) n w k j) : G Y R Z n0 pc L st n w k j := by
  intro p l e s m args below meth c D aC A ad0 ad H locs ls hC hK hY hl
  subst hq
  have h0 : ad 1001 = ad0 1001 := hY.2.2.2.2.2 _ (Or.inr (Or.inr (by omega)))
  refine va_getsN (v := .ref (ad0 1001)) hC.1 hC.2.1 (hK.2.2.2.2.1 0 (by decide)).1 hY.2.2.1 (own := "WovenCalls$Weave") (by rw [← hy]; exact hC.2.2.2.2.1) (va_Nw.use rfl hK.2.2.1) (fun _ h9 => h9) hd ?_
  have h1 := h p l e s m args below meth c D aC A ad0 ad H locs ls hC hK hY hl
  rw [← h0]
  exact h1
theorem g_tald {Y : MD} {R : Room} {Z : Zt} {n0 pc q n k j : Nat} {L st : List Value} {w : Wd} {i : Nat} {x : Int32} (hi : i < 4) (hin : vp_in x (stV i).length) (hd : decode Y.2.1 pc = .ok (.iaload, 1)) (hq : pc + 1 = q) (h : G Y R Z n0 q L (.int ((stV i).getD x.toNatClampNeg 0) :: st) n w k j) : G Y R Z n0 pc L (.int x :: .ref (1001 + i) :: st) n w k j := by
  intro p l e s m args below meth c D aC A ad0 ad H locs ls hC hK hY hl
  subst hq
  have h0 : ad (1001 + i) = ad0 (1001 + i) := hY.2.2.2.2.2 _ (Or.inr (Or.inr (by omega)))
  show W p l e R s m args below meth c H locs k j (Z args below s D aC A ad0) (F0 m pc ls (.int x :: .ref (ad (1001 + i)) :: cvS ad st))
  rw [h0]
  exact va_ti (v := .int ((stV i).getD x.toNatClampNeg 0)) hC.1 hC.2.1 (hK.2.2.2.2.1 i hi).2 hY.2.2.1 hin rfl hd (h p l e s m args below meth c D aC A ad0 ad H locs ls hC hK hY hl)
theorem g_sld {Y : MD} {R : Room} {Z : Zt} {n0 pc q n k j : Nat} {L st : List Value} {w : Wd} {N : Nat} {xs : Nat → Int32} {x : Int32} (hsc : Y.2.2.2.2 = some (N, xs)) (hin : vp_in x N) (hd : decode Y.2.1 pc = .ok (.iaload, 1)) (hq : pc + 1 = q) (h : G Y R Z n0 q L (.int (xs x.toNatClampNeg) :: st) n w k j) : G Y R Z n0 pc L (.int x :: .ref 1000 :: st) n w k j := by
  intro p l e s m args below meth c D aC A ad0 ad H locs ls hC hK hY hl
  subst hq
  have h0 : ad 1000 = ad0 1000 := hY.2.2.2.2.2 _ (Or.inr (Or.inr (by omega)))
  obtain ⟨hX, hb, hA⟩ := hK.2.2.2.2.2 _ hsc
  show W p l e R s m args below meth c H locs k j (Z args below s D aC A ad0) (F0 m pc ls (.int x :: .ref (ad 1000) :: cvS ad st))
  rw [h0]
  exact va_sld hC.1 hC.2.1 hX hb hA hY.2.2.1 hin hd (h p l e s m args below meth c D aC A ad0 ad H locs ls hC hK hY hl)
theorem g_slen {Y : MD} {R : Room} {Z : Zt} {n0 pc q n k j : Nat} {L st : List Value} {w : Wd} {N : Nat} {xs : Nat → Int32} (hsc : Y.2.2.2.2 = some (N, xs)) (hd : decode Y.2.1 pc = .ok (.arraylength, 1)) (hq : pc + 1 = q) (h : G Y R Z n0 q L (.int (Int32.ofNat N) :: st) n w k j) : G Y R Z n0 pc L (.ref 1000 :: st) n w k j := by
  intro p l e s m args below meth c D aC A ad0 ad H locs ls hC hK hY hl
  subst hq
  have h0 : ad 1000 = ad0 1000 := hY.2.2.2.2.2 _ (Or.inr (Or.inr (by omega)))
  obtain ⟨hX, hb, hA⟩ := hK.2.2.2.2.2 _ hsc
  show W p l e R s m args below meth c H locs k j (Z args below s D aC A ad0) (F0 m pc ls (.ref (ad 1000) :: cvS ad st))
  rw [h0]
  exact va_slen hC.1 hC.2.1 hX hb hA hY.2.2.1 hd (h p l e s m args below meth c D aC A ad0 ad H locs ls hC hK hY hl)
theorem g_copy {Y : MD} {R : Room} {Z : Zt} {n0 pc q n k j : Nat} {L st : List Value} {w : Wd} {a0 a1 N0 N1 idx : Nat} {sp dp x : Int32} (hlk : Cond.methodLink Y.1.cls idx arraycopyName ∈ TB) (hw1 : Cond.native arraycopyName ∈ TB) (hw2 : Cond.static arraycopyName ∈ TB) (hw3 : Cond.initialized "java/lang/System" ∈ TB) (hs0 : shn n a0 = (1, N0)) (hs1 : shn n a1 = (1, N1)) (h1 : ¬ sp < 0) (h2 : ¬ dp < 0) (h3 : ¬ x < 0) (h4 : sp.toNatClampNeg + x.toNatClampNeg ≤ N0) (h5 : dp.toNatClampNeg + x.toNatClampNeg ≤ N1) (hR : 1 ≤ R.frames ∧ 8 + (nativeFrameWords "java/lang/System" "arraycopy" 5 + 11) ≤ R.locals) (hst : (st.map fun v => v.category).sum ≤ 8) (hd : decode Y.2.1 pc = .ok (.invokestatic idx, 3)) (hq : pc + 3 = q) (h : G Y R Z n0 q L st n (uA w.1 a1 (va_cpy (w.1 a0) (w.1 a1) sp.toNatClampNeg dp.toNatClampNeg x.toNatClampNeg), w.2) k j) : G Y R Z n0 pc L (.int x :: .int dp :: .ref a1 :: .int sp :: .ref a0 :: st) n w k j := by
  intro p l e s m args below meth c D aC A ad0 ad H locs ls hC hK hY hl
  subst hq
  obtain ⟨hb0, hsh0⟩ := shn_lt hs0 (by show (1 : Nat) ≠ 9; decide)
  obtain ⟨hb1, hsh1⟩ := shn_lt hs1 (by show (1 : Nat) ≠ 9; decide)
  have he0 := wsOf_get (aC := aC) (w := w) (ad := ad) hb0
  rw [cell_arr hsh0 (by decide) (by decide)] at he0
  have he1 := wsOf_get (aC := aC) (w := w) (ad := ad) hb1
  rw [cell_arr hsh1 (by decide) (by decide)] at he1
  have hT := hC.2.2.2.2.2.1
  refine va_copyi hC.1 hC.2.1 (hC.2.2.2.1.trans hl.1.symm) hC.2.2.2.2.1 (hT _ hlk) (hT _ hw1) (hT _ hw2) (hT _ hw3) hK.1 hY.1 hY.2.1 hY.2.2.1 a0 a1 0 0 he0 he1 (ty0 aC) (ty0 aC) rfl h1 h2 h3 h4 h5 (fun _ _ => rfl) hR.1 (by have z := cvS_sum ad st; unfold cvS at z; omega) hd (fun H1 locs1 hP1 hD1 hS1 => ?_)
  have hw : (wsOf aC n w ad).set a1 (ad a1, .inl (aC 1, N1, .inl (va_cpy (w.1 a0) (w.1 a1) sp.toNatClampNeg dp.toNatClampNeg x.toNatClampNeg))) = wsOf aC n (uA w.1 a1 (va_cpy (w.1 a0) (w.1 a1) sp.toNatClampNeg dp.toNatClampNeg x.toNatClampNeg), w.2) ad := by
    refine wsOf_set ?_ (fun x hx => cell_same (uA_ne hx) (fun _ => rfl))
    rw [cell_arr hsh1 (by decide) (by decide)]
    refine congrArg (fun z => Sum.inl (aC 1, N1, Sum.inl z)) ?_
    simp [uA]
  rw [hw] at hP1 hD1
  exact h p l e s m args below meth c D aC A ad0 ad H1 locs1 ls hC hK ⟨hP1, hD1, hS1, hY.2.2.2⟩ hl
theorem g_mabs {Y : MD} {R : Room} {Z : Zt} {n0 pc q n k j : Nat} {L st : List Value} {w : Wd} {idx : Nat} {x : Int32} (hlk : Cond.methodLink Y.1.cls idx Lib.Math.abs.name ∈ TB) (hw1 : Cond.static Lib.Math.abs.name ∈ TB) (hw2 : Cond.initialized "java/lang/Math" ∈ TB) (hw3 : Cond.code Lib.Math.abs.name Lib.Math.abs.code 1 (some .int) ∈ TB) (hR : 1 ≤ R.frames ∧ 21 ≤ R.locals ∧ k ≤ R.cells ∧ j ≤ R.slots) (hst : (st.map fun v => v.category).sum ≤ 8) (hd : decode Y.2.1 pc = .ok (.invokestatic idx, 3)) (hq : pc + 3 = q) (h : G Y R Z n0 q L (.int (if 0 ≤ x then x else 0 - x) :: st) n w k j) : G Y R Z n0 pc L (.int x :: st) n w k j := by
  intro p l e s m args below meth c D aC A ad0 ad H locs ls hC hK hY hl
  subst hq
  have hT := hC.2.2.2.2.2.1
  exact va_mabs hC.1 hC.2.1 (hC.2.2.2.1.trans hl.1.symm) hC.2.2.2.2.1 (hT _ hlk) (hT _ hw1) (hT _ hw2) (hT _ hw3) hR.1 (by have z := cvS_sum ad st; unfold cvS at z; omega) hR.2.2.1 hR.2.2.2 hd (h p l e s m args below meth c D aC A ad0 ad H locs ls hC hK hY hl)
theorem g_mmin {Y : MD} {R : Room} {Z : Zt} {n0 pc q n k j : Nat} {L st : List Value} {w : Wd} {idx : Nat} {x y : Int32} (hlk : Cond.methodLink Y.1.cls idx Lib.Math.min.name ∈ TB) (hw1 : Cond.static Lib.Math.min.name ∈ TB) (hw2 : Cond.initialized "java/lang/Math" ∈ TB) (hw3 : Cond.code Lib.Math.min.name Lib.Math.min.code 2 (some .int) ∈ TB) (hR : 1 ≤ R.frames ∧ 21 ≤ R.locals ∧ k ≤ R.cells ∧ j ≤ R.slots) (hst : (st.map fun v => v.category).sum ≤ 8) (hd : decode Y.2.1 pc = .ok (.invokestatic idx, 3)) (hq : pc + 3 = q) (h : G Y R Z n0 q L (.int (if y < x then y else x) :: st) n w k j) : G Y R Z n0 pc L (.int y :: .int x :: st) n w k j := by
  intro p l e s m args below meth c D aC A ad0 ad H locs ls hC hK hY hl
  subst hq
  have hT := hC.2.2.2.2.2.1
  exact va_mmin hC.1 hC.2.1 (hC.2.2.2.1.trans hl.1.symm) hC.2.2.2.2.1 (hT _ hlk) (hT _ hw1) (hT _ hw2) (hT _ hw3) hR.1 (by have z := cvS_sum ad st; unfold cvS at z; omega) hR.2.2.1 hR.2.2.2 hd (h p l e s m args below meth c D aC A ad0 ad H locs ls hC hK hY hl)
theorem g_objInit {Y : MD} {R : Room} {Z : Zt} {n0 pc q n k j : Nat} {L st : List Value} {w : Wd} {b idx : Nat} (hlk : Cond.methodLink Y.1.cls idx objectInit ∈ TB) (hw1 : Cond.instanceMethod objectInit ∈ TB) (hw2 : Cond.code objectInit ⟨#[0xb1]⟩ 1 none ∈ TB) (hR : 1 ≤ R.frames ∧ 20 ≤ R.locals) (hst : (st.map fun v => v.category).sum ≤ 8) (hd : decode Y.2.1 pc = .ok (.invokespecial idx, 3)) (hq : pc + 3 = q) (h : G Y R Z n0 q L st n w k j) : G Y R Z n0 pc L (.ref b :: st) n w k j := by
  intro p l e s m args below meth c D aC A ad0 ad H locs ls hC hK hY hl
  subst hq
  have hT := hC.2.2.2.2.2.1
  refine W.objInit hC.1 hC.2.1 hC.2.2.2.2.1 (hT _ hlk) (hT _ hw1) (hT _ hw2) rfl (hl.1.trans hC.2.2.2.1.symm) (a := ad b) (rest := cvS ad st) rfl hd hR.1 (by show 2 * 0 + _ + 12 ≤ _; rw [cvS_sum]; omega) ?_
  exact (h p l e s m args below meth c D aC A ad0 ad H locs ls hC hK hY hl)
theorem g_iret {Y : MD} {R : Room} {n0 pc n k j : Nat} {L : List Value} {w : Wd} {Q : Option Int32 → Wd → Prop} {mc ms : Nat} {x : Int32} (hr : Y.2.2.2.1 = some .int) (hd : decode Y.2.1 pc = .ok (.ireturn, 1)) (hk : k ≤ mc) (hj : j ≤ ms) (h : Q (some x) w) : G Y R (Zm Q n0 n mc ms) n0 pc L [.int x] n w k j := by
  intro p l e s m args below meth c D aC A ad0 ad H locs ls hC hK hY hl
  refine W.widen (k := mc) (n := ms) hk hj ?_
  exact W.iret hC.1 hC.2.1 (hC.2.2.1.trans hr) (fun t ht hW => ⟨⟨(some x), w, ad, rfl, h, by rw [ht]; exact hY.1, hY.2.1, hY.2.2.2.2.1, hY.2.2.2.2.2⟩, hY.2.2.1.F ht⟩) hY.2.2.1.2.2 hd hC.2.2.2.2.2.2.1
theorem g_zret {Y : MD} {R : Room} {n0 pc n k j : Nat} {L : List Value} {w : Wd} {Q : Option Int32 → Wd → Prop} {mc ms : Nat} {x : Int32} (hr : Y.2.2.2.1 = some .boolean) (hn : narrow .boolean (.int x) = .int x) (hd : decode Y.2.1 pc = .ok (.ireturn, 1)) (hk : k ≤ mc) (hj : j ≤ ms) (h : Q (some x) w) : G Y R (Zm Q n0 n mc ms) n0 pc L [.int x] n w k j := by
  intro p l e s m args below meth c D aC A ad0 ad H locs ls hC hK hY hl
  refine W.widen (k := mc) (n := ms) hk hj ?_
  exact W.zret hC.1 hC.2.1 (hC.2.2.1.trans hr) hn (fun t ht hW => ⟨⟨(some x), w, ad, rfl, h, by rw [ht]; exact hY.1, hY.2.1, hY.2.2.2.2.1, hY.2.2.2.2.2⟩, hY.2.2.1.F ht⟩) hY.2.2.1.2.2 hd hC.2.2.2.2.2.2.1
theorem g_vret {Y : MD} {R : Room} {n0 pc n k j : Nat} {L : List Value} {w : Wd} {Q : Option Int32 → Wd → Prop} {mc ms : Nat}  (hr : Y.2.2.2.1 = none) (hd : decode Y.2.1 pc = .ok (.return_, 1)) (hk : k ≤ mc) (hj : j ≤ ms) (h : Q none w) : G Y R (Zm Q n0 n mc ms) n0 pc L [] n w k j := by
  intro p l e s m args below meth c D aC A ad0 ad H locs ls hC hK hY hl
  refine W.widen (k := mc) (n := ms) hk hj ?_
  exact W.vret hC.1 hC.2.1 (hC.2.2.1.trans hr) (fun t ht hW => ⟨⟨none, w, ad, rfl, h, by rw [ht]; exact hY.1, hY.2.1, hY.2.2.2.2.1, hY.2.2.2.2.2⟩, hY.2.2.1.F ht⟩) hY.2.2.1.2.2 hd hC.2.2.2.2.2.2.1
theorem A1_sub {aC : Nat → ClassId} {n : Nat} {w : Wd} {ad : Nat → Nat} {A : Nat → Prop} {H0 H : Heap} {locs : List Loc} (hD : va_D A (wsOf aC n w ad)) (hS : va_S A H0 H locs) (hA : ∀ q, H0.size ≤ q → A q) : ∀ q, va_A (wsOf aC n w ad) H.size q → A q := by
  intro q h
  rcases h with ⟨k, e, h⟩ | h
  · exact hD.2 k (q, e) h
  · exact hA q (Nat.le_trans hS.1 h)
theorem Ks_call {sc : Option (Nat × (Nat → Int32))} {D : va_G} {aC : Nat → ClassId} {A A1 : Nat → Prop} {ad0 ad : Nat → Nat} {s U : State} {H : Heap} {locs : List Loc} (hK : Ks sc D aC A ad0 s) (hS : va_S A s.heap H locs) (h1 : ∀ q, A1 q → A q) (ha : ∀ q, 1000 ≤ q → ad q = ad0 q) (hU : U.heap = H) (hW : s.WarmedH U.vm) : Ks none D aC A1 ad U := by
  obtain ⟨k1, k2, k3, ⟨k4, k5⟩, k6, -⟩ := hK
  refine ⟨va_K.moved hW.alike k1, fun x hx => va_Nw.warmM hW (k2 x hx), va_Nw.warmF hW k3, ⟨va_AO.moved hW.alike k4, va_AO.moved hW.alike k5⟩, fun i hi => ?_, fun x hx => by cases hx⟩
  have h0 : ad (1001 + i) = ad0 (1001 + i) := ha _ (by omega)
  obtain ⟨z1, z2⟩ := k6 i hi
  rw [h0, hU]
  exact ⟨va_Z.moved hW.alike ((z1.kept hS.2.1).narrow h1), va_T.moved hW.alike ((z2.kept hS.2.1).narrow h1)⟩
theorem Ks_same {D : va_G} {aC : Nat → ClassId} {A : Nat → Prop} {ad : Nat → Nat} {s U : State} (hK : Ks none D aC A ad s) (hv : s.vm = U.vm) (hU : U.heap = s.heap) : Ks none D aC A ad U := by
  have hal : s.vm.Alike U.vm := by rw [hv]; exact Vm.Alike.refl _
  obtain ⟨k1, k2, k3, ⟨k4, k5⟩, k6, -⟩ := hK
  refine ⟨va_K.moved hal k1, fun x hx => va_Nw.same rfl hv (k2 x hx), va_Nw.same rfl hv k3, ⟨va_AO.moved hal k4, va_AO.moved hal k5⟩, fun i hi => ?_, fun x hx => by cases hx⟩
  obtain ⟨z1, z2⟩ := k6 i hi
  rw [hU]
  exact ⟨va_Z.moved hal z1, va_T.moved hal z2⟩
theorem Pc_blind {D : va_G} {aC : Nat → ClassId} {A : Nat → Prop} {ad : Nat → Nat} {n sz : Nat} {w : Wd} {av : List Value} : FrameBlind (va_Pc av (fun U => U.heap.size = sz ∧ va_P D vwCl (wsOf aC n w ad) U.heap ∧ va_D (fun _ => True) (wsOf aC n w ad) ∧ Ks none D aC A ad U)) := by
  intro a U g mk hq
  obtain ⟨q0, q1, qP, qD, qK⟩ := hq
  exact ⟨q0, q1, qP, qD, Ks_same qK rfl rfl⟩

theorem g_back {p : Program} {l : Launch} {e : Env} {s : State} {m : MethodId} {args : Array Value} {below : List Frame} {meth : Method} {c : Code} {D : va_G} {aC : Nat → ClassId} {A : Nat → Prop} {ad0 ad : Nat → Nat} {H : Heap} {locs : List Loc} {ls : Array Slot} {Y : MD} {R : Room} {Z : Zt} {n0 pc q n k j : Nat} {L st : List Value} {w : Wd} {Q : Option Int32 → Wd → Prop} {n1 mc ms : Nat} {av : Array Value} {st0 : List Value} (hC : Cx Y p s m args meth c) (hK : Ks Y.2.2.2.2 D aC A ad0 s) (hY : Dy D aC A ad0 ad n0 n w s.heap H locs) (hl : lv_has ls Y.2.2.1 (cvL ad 0 L))
    (hr : va_Run p l e R s m args below meth c H locs k j mc ms (F0 m pc ls st0) (cvS ad st) (Qm Q n n1 D aC (va_A (wsOf aC n w ad) H.size) ad av) (va_A (wsOf aC n w ad) H.size)) (hq : pc + 3 = q) (hok : n1 = n ∨ (L.all (okV n) = true ∧ st.all (okV n) = true))
    (kk : ∀ r w', Q r w' → G Y R Z n0 q L (pu r st) n1 w' (k + mc) (j + ms)) : W p l e R s m args below meth c H locs k j (Z args below s D aC A ad0) (F0 m pc ls st0) := by
  subst hq
  have hF := A1_sub hY.2.1 hY.2.2.1 hY.2.2.2.1
  intro T hT X
  obtain ⟨v, st₀, t, T', Lc, h0, X', hLc, e1, e2, ⟨⟨r, w', ad', hv, hQ, hP', hD', hn, hag⟩, hz, hk⟩, stp⟩ := hr T hT X
  have hv : v = r.map Value.int := by cases hv; rfl
  subst hv
  rw [h0] at hz hk
  have hS' : va_S A s.heap T'.heap (locs ++ Lc) := by
    refine ⟨Nat.le_trans hY.2.2.1.1 (by rw [e1]; exact hz), fun q h1 h2 => ?_, fun q hq => ?_⟩
    · rw [e1, hk q (Nat.lt_of_lt_of_le h1 hY.2.2.1.1) (fun z => h2 (hF q z))]
      exact hY.2.2.1.2.1 q h1 h2
    · rcases List.mem_append.mp hq with h | h
      · exact hY.2.2.1.2.2 q h
      · exact hF _ (hLc q h)
  have hmv : cvL ad' 0 L = cvL ad 0 L ∧ cvS ad' st = cvS ad st := by
    rcases hok with h | ⟨h1, h2⟩
    · have : ad' = ad := by
        funext z
        exact hag z (by omega)
      rw [this]
      exact ⟨rfl, rfl⟩
    · exact ⟨cvL_move hn hag h1 0, cvS_move hn hag h2⟩
  have hY' : Dy D aC A ad0 ad' n0 n1 w' s.heap T'.heap (locs ++ Lc) := by
    refine ⟨by rw [e1]; exact hP', hD'.weaken (fun _ q _ hq => hF q.1 hq), hS', hY.2.2.2.1, Nat.le_trans hY.2.2.2.2.1 hn, fun z hz => ?_⟩
    have hnn := hY.2.2.2.2.1
    rw [hag z (by omega)]
    exact hY.2.2.2.2.2 z (by omega)
  obtain ⟨t2, a1, b1⟩ := kk r w' hQ p l e s m args below meth c D aC A ad0 ad' T'.heap (locs ++ Lc) ls hC hK hY' (by rw [hmv.1]; exact hl) T' rfl X'
  refine ⟨t2, stp t2 ?_, b1⟩
  have hstk : cvS ad' (pu r st) = (r.map Value.int).toList ++ cvS ad st := by
    cases r with
    | none => exact hmv.2
    | some x => show Value.int x :: cvS ad' st = Value.int x :: cvS ad st; rw [hmv.2]
  rw [hstk] at a1
  exact a1
theorem g_callV {Y' : MD} {d mc ms n1 idx : Nat} {av : List Value} {Y : MD} {R : Room} {Z : Zt} {n0 pc q n k j : Nat} {L st : List Value} {w : Wd} {b ci N : Nat} {T : u_T} (hcl : vwCl[ci]? = some (Y'.1.cls, T, N)) (hs : shn n b = (0, ci)) (hlk : Cond.methodLink Y.1.cls idx Y'.1 ∈ TB) (hw2 : Cond.instanceMethod Y'.1 ∈ TB) (hw3 : Cond.selects Y'.1.cls Y'.1 Y'.1 ∈ TB) (hw5 : Cond.code Y'.1 Y'.2.1 Y'.2.2.1 Y'.2.2.2.1 ∈ TB) (hw4 : Cond.initialized Y'.1.cls ∈ TB) (hpl : Y'.1.cls ≠ "java/lang/invoke/MethodHandle" ∧ Y'.1.cls ≠ "java/lang/invoke/VarHandle" ∧ (parseMethodDescriptor Y'.1.desc).map (fun d => d.parameters.length) = some av.length) (hR : d + 1 ≤ R.frames ∧ 8 + (Y'.2.2.1 + 11) + 50 * d ≤ R.locals) (hf : k + mc ≤ R.cells ∧ j + ms ≤ R.slots) (hst : (st.map fun v => v.category).sum ≤ 8) (hok : n1 = n ∨ (L.all (okV n) = true ∧ st.all (okV n) = true)) (hd : decode Y.2.1 pc = .ok (.invokevirtual idx, 3)) (hq : pc + 3 = q) (hE : Ex d mc ms Y' (.ref b :: av) n w n1 (fun r w' => G Y R Z n0 q L (pu r st) n1 w' (k + mc) (j + ms))) : G Y R Z n0 pc L (av.reverse ++ .ref b :: st) n w k j := by
  intro p l e s m args below meth c D aC A ad0 ad H locs ls hC hK hY hl
  have hT := hC.2.2.2.2.2.1
  have hF := A1_sub hY.2.1 hY.2.2.1 hY.2.2.2.1
  have hpre : ∀ U : State, U.heap = H → s.WarmedH U.vm → va_Pc (cvS ad (.ref b :: av)) (fun U => U.heap.size = H.size ∧ va_P D vwCl (wsOf aC n w ad) U.heap ∧ va_D (fun _ => True) (wsOf aC n w ad) ∧ Ks none D aC (va_A (wsOf aC n w ad) H.size) ad U) (cvS ad (.ref b :: av)).toArray U :=
    fun U hU hW => ⟨rfl, by rw [hU], by rw [hU]; exact hY.1, hY.2.1.weaken (fun _ _ _ _ => trivial), Ks_call hK hY.2.2.1 hF (fun q hq => hY.2.2.2.2.2 q (Or.inr (Or.inr hq))) hU hW⟩
  obtain ⟨hb, hsh⟩ := shn_lt hs (by show (0 : Nat) ≠ 9; decide)
  have he := wsOf_get (aC := aC) (w := w) (ad := ad) hb
  rw [cell_obj hsh] at he
  exact g_back hC hK hY hl (va_runV (As := cvS ad av) (rest := cvS ad st) ⟨hC.1, hC.2.1, hC.2.2.2.1, hC.2.2.2.2.1, hT⟩ (hE l D aC ad H.size) ⟨callB_of (own := Y.1.cls) (index := idx) (ws := wsM Y') (rm := rmd d mc ms) av.length hT (goodTB hw5) rfl rfl rfl (hT _ hw4) (hT _ hlk) hpl hR, hT _ hw2, hT _ hw3⟩ ⟨Pc_blind, va_recv hK.1 hY.1 hcl he, hpre⟩ rfl (by simp [cvS]) hl.1 (by simp [cvS, cv]) (lv_room (by rw [cvS_sum]; exact hst)) hd hf) hq hok (fun r w' h => h)
theorem g_callS {Y' : MD} {d mc ms n1 idx : Nat} {av : List Value} {Y : MD} {R : Room} {Z : Zt} {n0 pc q n k j : Nat} {L st : List Value} {w : Wd}  (hlk : Cond.methodLink Y.1.cls idx Y'.1 ∈ TB) (hw2 : Cond.static Y'.1 ∈ TB) (hw5 : Cond.code Y'.1 Y'.2.1 Y'.2.2.1 Y'.2.2.2.1 ∈ TB) (hw4 : Cond.initialized Y'.1.cls ∈ TB) (hpl : Y'.1.cls ≠ "java/lang/invoke/MethodHandle" ∧ Y'.1.cls ≠ "java/lang/invoke/VarHandle" ∧ (parseMethodDescriptor Y'.1.desc).map (fun d => d.parameters.length) = some av.length) (hR : d + 1 ≤ R.frames ∧ 8 + (Y'.2.2.1 + 11) + 50 * d ≤ R.locals) (hf : k + mc ≤ R.cells ∧ j + ms ≤ R.slots) (hst : (st.map fun v => v.category).sum ≤ 8) (hok : n1 = n ∨ (L.all (okV n) = true ∧ st.all (okV n) = true)) (hd : decode Y.2.1 pc = .ok (.invokestatic idx, 3)) (hq : pc + 3 = q) (hE : Ex d mc ms Y' (av) n w n1 (fun r w' => G Y R Z n0 q L (pu r st) n1 w' (k + mc) (j + ms))) : G Y R Z n0 pc L (av.reverse ++ st) n w k j := by
  intro p l e s m args below meth c D aC A ad0 ad H locs ls hC hK hY hl
  have hT := hC.2.2.2.2.2.1
  have hF := A1_sub hY.2.1 hY.2.2.1 hY.2.2.2.1
  have hpre : ∀ U : State, U.heap = H → s.WarmedH U.vm → va_Pc (cvS ad (av)) (fun U => U.heap.size = H.size ∧ va_P D vwCl (wsOf aC n w ad) U.heap ∧ va_D (fun _ => True) (wsOf aC n w ad) ∧ Ks none D aC (va_A (wsOf aC n w ad) H.size) ad U) (cvS ad (av)).toArray U :=
    fun U hU hW => ⟨rfl, by rw [hU], by rw [hU]; exact hY.1, hY.2.1.weaken (fun _ _ _ _ => trivial), Ks_call hK hY.2.2.1 hF (fun q hq => hY.2.2.2.2.2 q (Or.inr (Or.inr hq))) hU hW⟩

  exact g_back hC hK hY hl (va_runS (As := cvS ad av) (rest := cvS ad st) ⟨hC.1, hC.2.1, hC.2.2.2.1, hC.2.2.2.2.1, hT⟩ (hE l D aC ad H.size) ⟨callB_of (own := Y.1.cls) (index := idx) (ws := wsM Y') (rm := rmd d mc ms) av.length hT (goodTB hw5) rfl rfl rfl (hT _ hw4) (hT _ hlk) hpl hR, hT _ hw2⟩ ⟨Pc_blind, hpre⟩ rfl (by simp [cvS]) hl.1 (by simp [cvS, cv]) (lv_room (by rw [cvS_sum]; exact hst)) hd hf) hq hok (fun r w' h => h)
theorem g_callI {Y' : MD} {d mc ms n1 idx : Nat} {av : List Value} {Y : MD} {R : Room} {Z : Zt} {n0 pc q n k j : Nat} {L st : List Value} {w : Wd} {b : Nat} (hlk : Cond.methodLink Y.1.cls idx Y'.1 ∈ TB) (hw2 : Cond.instanceMethod Y'.1 ∈ TB) (hnm : Y'.1.name = "<init>") (hrt : Y'.2.2.2.1 = none) (hw5 : Cond.code Y'.1 Y'.2.1 Y'.2.2.1 Y'.2.2.2.1 ∈ TB) (hw4 : Cond.initialized Y'.1.cls ∈ TB) (hpl : Y'.1.cls ≠ "java/lang/invoke/MethodHandle" ∧ Y'.1.cls ≠ "java/lang/invoke/VarHandle" ∧ (parseMethodDescriptor Y'.1.desc).map (fun d => d.parameters.length) = some av.length) (hR : d + 1 ≤ R.frames ∧ 8 + (Y'.2.2.1 + 11) + 50 * d ≤ R.locals) (hf : k + mc ≤ R.cells ∧ j + ms ≤ R.slots) (hst : (st.map fun v => v.category).sum ≤ 8) (hok : n1 = n ∨ (L.all (okV n) = true ∧ st.all (okV n) = true)) (hd : decode Y.2.1 pc = .ok (.invokespecial idx, 3)) (hq : pc + 3 = q) (hE : Ex d mc ms Y' (.ref b :: av) n w n1 (fun r w' => G Y R Z n0 q L (pu r st) n1 w' (k + mc) (j + ms))) : G Y R Z n0 pc L (av.reverse ++ .ref b :: st) n w k j := by
  intro p l e s m args below meth c D aC A ad0 ad H locs ls hC hK hY hl
  have hT := hC.2.2.2.2.2.1
  have hF := A1_sub hY.2.1 hY.2.2.1 hY.2.2.2.1
  have hpre : ∀ U : State, U.heap = H → s.WarmedH U.vm → va_Pc (cvS ad (.ref b :: av)) (fun U => U.heap.size = H.size ∧ va_P D vwCl (wsOf aC n w ad) U.heap ∧ va_D (fun _ => True) (wsOf aC n w ad) ∧ Ks none D aC (va_A (wsOf aC n w ad) H.size) ad U) (cvS ad (.ref b :: av)).toArray U :=
    fun U hU hW => ⟨rfl, by rw [hU], by rw [hU]; exact hY.1, hY.2.1.weaken (fun _ _ _ _ => trivial), Ks_call hK hY.2.2.1 hF (fun q hq => hY.2.2.2.2.2 q (Or.inr (Or.inr hq))) hU hW⟩

  exact g_back hC hK hY hl (va_runI (b := ad b) (As := cvS ad av) (rest := cvS ad st) ⟨hC.1, hC.2.1, hC.2.2.2.1, hC.2.2.2.2.1, hT⟩ (hE l D aC ad H.size) ⟨by have z := callB_of (own := Y.1.cls) (index := idx) (ws := wsM Y') (rm := rmd d mc ms) av.length hT (goodTB hw5) rfl rfl rfl (hT _ hw4) (hT _ hlk) hpl hR; rw [hrt] at z; exact z, hnm, hT _ hw2⟩ ⟨Pc_blind, hpre⟩ rfl (by simp [cvS]) hl.1 (by simp [cvS, cv]) (lv_room (by rw [cvS_sum]; exact hst)) hd hf) hq hok (fun r w' h => h)
theorem g_callSN {Y' : MD} {d mc ms n1 idx : Nat} {av : List Value} {Y : MD} {R : Room} {Z : Zt} {n0 pc q n k j : Nat} {L st : List Value} {w : Wd} {host : String} (hlk : (Y.1.cls, idx, Y'.1, host) ∈ nestM) (hw2 : Cond.static Y'.1 ∈ TB) (hw5 : Cond.code Y'.1 Y'.2.1 Y'.2.2.1 Y'.2.2.2.1 ∈ TB) (hw4 : Cond.initialized Y'.1.cls ∈ TB) (hpl : Y'.1.cls ≠ "java/lang/invoke/MethodHandle" ∧ Y'.1.cls ≠ "java/lang/invoke/VarHandle" ∧ (parseMethodDescriptor Y'.1.desc).map (fun d => d.parameters.length) = some av.length) (hR : d + 1 ≤ R.frames ∧ 8 + (Y'.2.2.1 + 11) + 50 * d ≤ R.locals) (hf : k + mc ≤ R.cells ∧ j + ms ≤ R.slots) (hst : (st.map fun v => v.category).sum ≤ 8) (hok : n1 = n ∨ (L.all (okV n) = true ∧ st.all (okV n) = true)) (hd : decode Y.2.1 pc = .ok (.invokestatic idx, 3)) (hq : pc + 3 = q) (hE : Ex d mc ms Y' (av) n w n1 (fun r w' => G Y R Z n0 q L (pu r st) n1 w' (k + mc) (j + ms))) : G Y R Z n0 pc L (av.reverse ++ st) n w k j := by
  intro p l e s m args below meth c D aC A ad0 ad H locs ls hC hK hY hl
  have hT := hC.2.2.2.2.2.1
  have hF := A1_sub hY.2.1 hY.2.2.1 hY.2.2.2.1
  have hpre : ∀ U : State, U.heap = H → s.WarmedH U.vm → va_Pc (cvS ad (av)) (fun U => U.heap.size = H.size ∧ va_P D vwCl (wsOf aC n w ad) U.heap ∧ va_D (fun _ => True) (wsOf aC n w ad) ∧ Ks none D aC (va_A (wsOf aC n w ad) H.size) ad U) (cvS ad (av)).toArray U :=
    fun U hU hW => ⟨rfl, by rw [hU], by rw [hU]; exact hY.1, hY.2.1.weaken (fun _ _ _ _ => trivial), Ks_call hK hY.2.2.1 hF (fun q hq => hY.2.2.2.2.2 q (Or.inr (Or.inr hq))) hU hW⟩

  exact g_back hC hK hY hl (va_runSN (As := cvS ad av) (rest := cvS ad st) ⟨hC.1, hC.2.1, hC.2.2.2.1, hC.2.2.2.2.1, hT⟩ (hE l D aC ad H.size) ⟨va_cnB (own := Y.1.cls) (index := idx) (ws := wsM Y') (rm := rmd d mc ms) av.length hT (goodTB hw5) rfl rfl rfl (hK.2.1 _ hlk) (hT _ hw4) hpl hR, hT _ hw2, trivial⟩ ⟨Pc_blind, hpre⟩ rfl (by simp [cvS]) hl.1 (by simp [cvS, cv]) (lv_room (by rw [cvS_sum]; exact hst)) hd hf) hq hok (fun r w' h => h)
theorem g_callIN {Y' : MD} {d mc ms n1 idx : Nat} {av : List Value} {Y : MD} {R : Room} {Z : Zt} {n0 pc q n k j : Nat} {L st : List Value} {w : Wd} {b : Nat} {host : String} (hlk : (Y.1.cls, idx, Y'.1, host) ∈ nestM) (hw2 : Cond.instanceMethod Y'.1 ∈ TB) (hnm : Y'.1.name = "<init>") (hrt : Y'.2.2.2.1 = none) (hw5 : Cond.code Y'.1 Y'.2.1 Y'.2.2.1 Y'.2.2.2.1 ∈ TB) (hw4 : Cond.initialized Y'.1.cls ∈ TB) (hpl : Y'.1.cls ≠ "java/lang/invoke/MethodHandle" ∧ Y'.1.cls ≠ "java/lang/invoke/VarHandle" ∧ (parseMethodDescriptor Y'.1.desc).map (fun d => d.parameters.length) = some av.length) (hR : d + 1 ≤ R.frames ∧ 8 + (Y'.2.2.1 + 11) + 50 * d ≤ R.locals) (hf : k + mc ≤ R.cells ∧ j + ms ≤ R.slots) (hst : (st.map fun v => v.category).sum ≤ 8) (hok : n1 = n ∨ (L.all (okV n) = true ∧ st.all (okV n) = true)) (hd : decode Y.2.1 pc = .ok (.invokespecial idx, 3)) (hq : pc + 3 = q) (hE : Ex d mc ms Y' (.ref b :: av) n w n1 (fun r w' => G Y R Z n0 q L (pu r st) n1 w' (k + mc) (j + ms))) : G Y R Z n0 pc L (av.reverse ++ .ref b :: st) n w k j := by
  intro p l e s m args below meth c D aC A ad0 ad H locs ls hC hK hY hl
  have hT := hC.2.2.2.2.2.1
  have hF := A1_sub hY.2.1 hY.2.2.1 hY.2.2.2.1
  have hpre : ∀ U : State, U.heap = H → s.WarmedH U.vm → va_Pc (cvS ad (.ref b :: av)) (fun U => U.heap.size = H.size ∧ va_P D vwCl (wsOf aC n w ad) U.heap ∧ va_D (fun _ => True) (wsOf aC n w ad) ∧ Ks none D aC (va_A (wsOf aC n w ad) H.size) ad U) (cvS ad (.ref b :: av)).toArray U :=
    fun U hU hW => ⟨rfl, by rw [hU], by rw [hU]; exact hY.1, hY.2.1.weaken (fun _ _ _ _ => trivial), Ks_call hK hY.2.2.1 hF (fun q hq => hY.2.2.2.2.2 q (Or.inr (Or.inr hq))) hU hW⟩

  exact g_back hC hK hY hl (va_runIN (b := ad b) (As := cvS ad av) (rest := cvS ad st) ⟨hC.1, hC.2.1, hC.2.2.2.1, hC.2.2.2.2.1, hT⟩ (hE l D aC ad H.size) ⟨by have z := va_cnB (own := Y.1.cls) (index := idx) (ws := wsM Y') (rm := rmd d mc ms) av.length hT (goodTB hw5) rfl rfl rfl (hK.2.1 _ hlk) (hT _ hw4) hpl hR; rw [hrt] at z; exact z, hnm, hT _ hw2⟩ ⟨Pc_blind, hpre⟩ rfl (by simp [cvS]) hl.1 (by simp [cvS, cv]) (lv_room (by rw [cvS_sum]; exact hst)) hd hf) hq hok (fun r w' h => h)
def okA (v : Value) : Bool := match v with
  | .int _ => true
  | .ref _ => true
  | _ => false
theorem okA_sl {ad : Nat → Nat} : ∀ (av : List Value), av.all okA = true → (lg_sl (cvS ad av)).length = av.length ∧ ∀ (i k : Nat) (v : Value), av[k]? = some v → (i + k, cv ad v) ∈ lv_args i (cvS ad av) ∧ lov ad v = some (cv ad v) := by
  intro av
  induction av with
  | nil => intro _; exact ⟨rfl, fun i k v h => by simp at h⟩
  | cons u us ih =>
    intro h
    rw [List.all_cons, Bool.and_eq_true] at h
    obtain ⟨i1, i2⟩ := ih h.2
    have hc : (cv ad u).category = 1 := by
      rw [cv_cat]
      have h1 := h.1
      cases u <;> first | rfl | (simp [okA] at h1)
    have hlo : lov ad u = some (cv ad u) := by
      have h1 := h.1
      cases u <;> first | rfl | (simp [okA] at h1)
    refine ⟨?_, fun i k v hk => ?_⟩
    · have e : lg_sl (cvS ad (u :: us)) = [.val (cv ad u)] ++ lg_sl (cvS ad us) := by
        show lg_sl (cv ad u :: cvS ad us) = _
        simp [lg_sl, hc]
      rw [e, List.length_append, i1]
      simp
      omega
    · have e : lv_args i (cvS ad (u :: us)) = (i, cv ad u) :: lv_args (i + 1) (cvS ad us) := by
        show lv_args i (cv ad u :: cvS ad us) = _
        rw [lv_args, hc]
        simp
      rw [e]
      cases k with
      | zero =>
        have hk : u = v := by simpa using hk
        subst hk
        exact ⟨by simp, hlo⟩
      | succ k =>
        have hk : us[k]? = some v := by simpa using hk
        obtain ⟨a, b⟩ := i2 (i + 1) k v hk
        refine ⟨List.mem_cons_of_mem _ ?_, b⟩
        have : i + (k + 1) = i + 1 + k := by omega
        rw [this]
        exact a
theorem ex_intro {d mc ms : Nat} {Y : MD} {av : List Value} {n : Nat} {w : Wd} {n1 : Nat} {Q : Option Int32 → Wd → Prop} {L0 : List Value} (hpl : plainName Y.1.cls = true) (hsc : Y.2.2.2.2 = none) (hL : av ++ List.replicate (Y.2.2.1 - av.length) .null = L0) (hlen : av.length ≤ Y.2.2.1) (hok : av.all okA = true) (h : G Y (rmd d mc ms) (Zm Q n n1 mc ms) n 0 L0 [] n w 0 0) : Ex d mc ms Y av n w n1 Q := by
  intro l D aC ad sz
  refine Met.ofW (cc := Y.2.1) (maxL := Y.2.2.1) (ret := Y.2.2.2.1) hpl rfl ?_
  intro p e s m args below meth c s₁ B hml hv
  obtain ⟨rfl, hsz, hP, hD, hK⟩ := hv
  subst hsz
  obtain ⟨o1, o2⟩ := okA_sl (ad := ad) av hok
  have hl := lv_entry (cvS ad av) (n := Y.2.2.1) (by rw [o1]; exact hlen)
  rw [lg_entry_eq]
  generalize (lg_sl (cvS ad av) ++ List.replicate (Y.2.2.1 - (lg_sl (cvS ad av)).length) Slot.unset).toArray = ls at hl ⊢
  have hl : lv_has ls Y.2.2.1 (cvL ad 0 L0) := by
    refine lv_less hl (fun q hq => ?_)
    obtain ⟨i, v, h1, h2, h3⟩ := (mem_cvL L0 0 q).mp hq
    rw [← hL] at h1
    by_cases hi : i < av.length
    · rw [List.getElem?_append_left hi] at h1
      obtain ⟨a, b⟩ := o2 0 i v h1
      rw [b] at h3
      obtain ⟨x, y⟩ := q
      cases h3
      have h2 : x = 0 + i := h2
      rw [h2]
      exact a
    · rw [List.getElem?_append_right (by omega)] at h1
      have h1 := List.getElem?_replicate ▸ h1
      split at h1
      · cases h1
        simp [lov] at h3
      · cases h1
  have hnm := name_of_methodNamed B.named B.method
  have hK' : Ks Y.2.2.2.2 D aC (va_A (wsOf aC n w ad) s.heap.size) ad s := by rw [hsc]; exact hK
  exact h p l e s m _ below meth c D aC (va_A (wsOf aC n w ad) s.heap.size) ad ad s.heap [] ls ⟨B.exec, B.bytes, B.returns, hml, findClass_of_methodNamed B.named, fun w hw => atoms_spec (ws := wsM Y) B.pre w (List.mem_cons_of_mem _ hw), B.notSynchronized, fun hz => hnm.1.trans hz⟩ hK' ⟨hP, hD.self, va_S.rf, fun q hq => Or.inr hq, Nat.le_refl _, fun _ _ => rfl⟩ hl

