/-! what is made: position n is the next; ahead of n nothing is held yet -/
def Wz (w : Wd) (n : Nat) : Prop := (∀ p j, n ≤ p → w.1 p j = 0) ∧ (∀ p j, n ≤ p → w.2 p j = none) ∧ ∀ p j r, w.2 p j = some r → r < n
def zI : Nat → Nat → Int32 := fun _ _ => 0
def zF : Nat → Nat → Option Nat := fun _ _ => none
theorem Wz.z : Wz (zI, zF) 0 := ⟨fun _ _ _ => rfl, fun _ _ _ => rfl, fun _ _ _ h => by cases h⟩
theorem Wz.mo {I : Nat → Nat → Int32} {F : Nat → Nat → Option Nat} {n m : Nat} (h : Wz (I, F) n) (hm : n ≤ m) : Wz (I, F) m := ⟨fun p j hp => h.1 p j (Nat.le_trans hm hp), fun p j hp => h.2.1 p j (Nat.le_trans hm hp), fun p j r hr => Nat.lt_of_lt_of_le (h.2.2 p j r hr) hm⟩
theorem Wz.i {I : Nat → Nat → Int32} {F : Nat → Nat → Option Nat} {n p j : Nat} {x : Int32} (h : Wz (I, F) n) (hp : p < n) : Wz (uI I p j x, F) n := ⟨fun a b ha => by show uI I p j x a b = 0; rw [uI_ne (by omega)]; exact h.1 a b ha, h.2.1, h.2.2⟩
theorem Wz.r {I : Nat → Nat → Int32} {F : Nat → Nat → Option Nat} {n p j r : Nat} (h : Wz (I, F) n) (hp : p < n) (hr : r < n) : Wz (I, uR F p j (some r)) n := by
  refine ⟨h.1, fun a b ha => ?_, fun a b y hy => ?_⟩
  · show uR F p j (some r) a b = none
    rw [uR_ne (by omega)]
    exact h.2.1 a b ha
  · have hy : uR F p j (some r) a b = some y := hy
    unfold uR at hy
    split at hy
    · cases hy; exact hr
    · exact h.2.2 a b y hy
theorem uI_same {I : Nat → Nat → Int32} {p j : Nat} {x : Int32} (h : I p j = x) : uI I p j x = I := by
  funext a b
  unfold uI
  split
  · next e => rw [e.1, e.2]; exact h.symm
  · rfl
def adN (ad : Nat → Nat) (n a : Nat) : Nat → Nat := fun z => if z = n then a else ad z
theorem adN_ne {ad : Nat → Nat} {n a z : Nat} (h : z ≠ n) : adN ad n a z = ad z := if_neg h
theorem adN_eq {ad : Nat → Nat} {n a : Nat} : adN ad n a n = a := if_pos rfl
theorem Wz.cell {aC : Nat → ClassId} {w : Wd} {n a q : Nat} {ad : Nat → Nat} (hw : Wz w n) : cellOf aC w (adN ad n a) q = cellOf aC w ad q := cell_same rfl (fun b => by
  cases h : w.2 q b with
  | none => rfl
  | some r =>
    show some (adN ad n a r) = some (ad r)
    rw [adN_ne (Nat.ne_of_lt (hw.2.2 q b r h))])
theorem Dy.push {D : va_G} {aC : Nat → ClassId} {A : Nat → Prop} {ad0 ad : Nat → Nat} {n0 n a : Nat} {w : Wd} {H0 H H1 : Heap} {locs : List Loc} {x : va_E} (hY : Dy D aC A ad0 ad n0 n w H0 H locs) (hw : Wz w n) (hlt : n < 1000) (hx : cellOf aC w ad n = x) (hP : va_P D vwCl (wsOf aC n w ad ++ [(a, x)]) H1) (hD : va_D A (wsOf aC n w ad ++ [(a, x)])) (hS : va_S A H0 H1 locs) : Dy D aC A ad0 (adN ad n a) n0 (n + 1) w H0 H1 locs := by
  have e := wsOf_push (aC := aC) (n := n) (a := a) (w := w) (ad := ad) (w' := w) (ad' := adN ad n a) (x := x) adN_eq (hw.cell.trans hx) (fun q hq => ⟨adN_ne (Nat.ne_of_lt hq), hw.cell⟩)
  rw [e] at hP hD
  exact ⟨hP, hD, hS, hY.2.2.2.1, Nat.le_succ_of_le hY.2.2.2.2.1, fun q hq => by have := hY.2.2.2.2.1; rw [adN_ne (by omega)]; exact hY.2.2.2.2.2 q (by omega)⟩
theorem adN_mv {ad : Nat → Nat} {n a : Nat} (hlt : n < 1000) : ∀ q, q < n ∨ n + 1 ≤ q ∨ 1000 ≤ q → adN ad n a q = ad q := fun q hq => adN_ne (by omega)
theorem g_made {Y : MD} {R : Room} {Z : Zt} {n0 q n k j : Nat} {L st : List Value} {w : Wd} {p : Program} {l : Launch} {e : Jvm.Env} {s : State} {m : MethodId} {args : Array Value} {below : List Frame} {meth : Method} {c : Code} {D : va_G} {aC : Nat → ClassId} {A : Nat → Prop} {ad0 ad : Nat → Nat} {H H1 : Heap} {locs : List Loc} {ls : Array Slot} {a : Nat} {x : va_E} (hC : Cx Y p s m args meth c) (hK : Ks Y.2.2.2.2 D aC A ad0 s) (hY : Dy D aC A ad0 ad n0 n w s.heap H locs) (hl : lv_has ls Y.2.2.1 (cvL ad 0 L)) (hw : Wz w n) (hlt : n < 1000) (hL : L.all (okV n) = true) (hst : st.all (okV n) = true) (hx : cellOf aC w ad n = x) (hP : va_P D vwCl (wsOf aC n w ad ++ [(a, x)]) H1) (hD : va_D A (wsOf aC n w ad ++ [(a, x)])) (hS : va_S A s.heap H1 locs) (h : G Y R Z n0 q L (.ref n :: st) (n + 1) w k j) : W p l e R s m args below meth c H1 locs k j (Z args below s D aC A ad0) (F0 m q ls (.ref a :: cvS ad st)) := by
  have hmL := cvL_move (Nat.le_succ n) (adN_mv (ad := ad) (a := a) hlt) hL 0
  have hmS := cvS_move (Nat.le_succ n) (adN_mv (ad := ad) (a := a) hlt) hst
  have hh := h p l e s m args below meth c D aC A ad0 (adN ad n a) H1 locs ls hC hK (hY.push hw hlt hx hP hD hS) (by rw [hmL]; exact hl)
  have es : cvS (adN ad n a) (.ref n :: st) = .ref a :: cvS ad st := by
    show Value.ref (adN ad n a n) :: cvS (adN ad n a) st = _
    rw [adN_eq, hmS]
  rw [es] at hh
  exact hh
theorem g_new {Y : MD} {R : Room} {Z : Zt} {n0 pc q n k j : Nat} {L st : List Value} {w : Wd} {ci N idx : Nat} {C : String} {T : u_T} (hcl : vwCl[ci]? = some (C, T, N)) (hN : nF ci = N) (hin : ∀ w ∈ u_ws C T N, w ∈ TB) (ty : Nat → FieldType) (hty : ∀ k, k < N → parseFieldDescriptor (T k).2.2.1 = some (ty k)) (hlk : Cond.classLink Y.1.cls idx C ∈ TB) (hins : Cond.instantiable C N ∈ TB) (hini : Cond.initialized C ∈ TB) (hdf : ∀ j, j < N → defaultValue (ty j) = if isI ci j = true then Value.int 0 else .null) (hs : shT.getD n (9, 0) = (0, ci)) (hw : Wz w n) (hlt : n < 1000) (hL : L.all (okV n) = true) (hst : st.all (okV n) = true) (hc : k + 1 ≤ R.cells) (hsl : j + N ≤ R.slots) (hd : decode Y.2.1 pc = .ok (.new idx, 3)) (hq : pc + 3 = q) (h : G Y R Z n0 q L (.ref n :: st) (n + 1) w (k + 1) (j + N)) : G Y R Z n0 pc L st n w k j := by
  intro p l e s m args below meth c D aC A ad0 ad H locs ls hC hK hY hl
  subst hq
  refine va_new (fs := flds ci n w ad) hC.1 hC.2.1 hC.2.2.2.2.2.1 hin ty hty hC.2.2.2.2.1 (hC.2.2.2.2.2.1 _ hlk) (hC.2.2.2.2.2.1 _ hins) (hC.2.2.2.2.2.1 _ hini) hK.1 hY.1 hY.2.1 hY.2.2.1 hY.2.2.2.1 hcl (fun i hi => ?_) hc hsl hd (fun a H1 hP1 hD1 hS1 => g_made hC hK hY hl hw hlt hL hst (cell_obj hs) hP1 hD1 hS1 h)
  rw [hdf i hi, vp_V, List.getD_eq_getElem?_getD, flds_get (by rw [hN]; exact hi), hw.1 n i (Nat.le_refl _), hw.2.1 n i (Nat.le_refl _)]
  rfl
theorem g_newi {Y : MD} {R : Room} {Z : Zt} {n0 pc q n k j : Nat} {L st : List Value} {w : Wd} {N : Nat} {x : Int32} (hx : x = nI N) (hs : shT.getD n (9, 0) = (1, N)) (hw : Wz w n) (hlt : n < 1000) (hL : L.all (okV n) = true) (hst : st.all (okV n) = true) (hc : k + 1 ≤ R.cells) (hsl : j + N ≤ R.slots) (hN : N ≤ 5000) (hd : decode Y.2.1 pc = .ok (.newarray .int, 2)) (hq : pc + 2 = q) (harr : Cond.arrayClass .int ∈ TB) (h : G Y R Z n0 q L (.ref n :: st) (n + 1) w (k + 1) (j + N)) : G Y R Z n0 pc L (.int x :: st) n w k j := by
  intro p l e s m args below meth c D aC A ad0 ad H locs ls hC hK hY hl
  subst hq hx
  refine va_newa (atype := .int) (ty := .int) (a0 := (N, .inl (w.1 n))) hC.1 hC.2.1 (hC.2.2.2.2.2.1 _ harr) rfl hK.1 hY.1 hY.2.1 hY.2.2.1 hY.2.2.2.1 (fun cA => ?_) (nI_pos (by omega)) (nI_clamp (by omega)) (Nat.le_trans (Nat.mul_le_mul_right 4 hN) (by decide)) hc hsl hd (fun a cA H1 hK1 hP1 hD1 hS1 => ?_)
  · rw [vp_cell_i]
    refine congrArg (arrV cA N) ?_
    funext i
    rw [hw.1 n i (Nat.le_refl _)]
    rfl
  · have e1 := va_nm_int (hK1.2 4 _ rfl).2
    have e2 := va_nm_int (hK.1.2 0 _ rfl).2
    have e3 : cA = aC 1 := Option.some.inj (e1.symm.trans e2)
    subst e3
    exact g_made hC hK hY hl hw hlt hL hst (cell_arr hs (by decide) (by decide)) hP1 hD1 hS1 h
theorem g_newz {Y : MD} {R : Room} {Z : Zt} {n0 pc q n k j : Nat} {L st : List Value} {w : Wd} {N : Nat} {x : Int32} (hx : x = nI N) (hs : shT.getD n (9, 0) = (2, N)) (hw : Wz w n) (hlt : n < 1000) (hL : L.all (okV n) = true) (hst : st.all (okV n) = true) (hc : k + 1 ≤ R.cells) (hsl : j + N ≤ R.slots) (hN : N ≤ 5000) (hd : decode Y.2.1 pc = .ok (.newarray .boolean, 2)) (hq : pc + 2 = q) (harr : Cond.arrayClass .boolean ∈ TB) (h : G Y R Z n0 q L (.ref n :: st) (n + 1) w (k + 1) (j + N)) : G Y R Z n0 pc L (.int x :: st) n w k j := by
  intro p l e s m args below meth c D aC A ad0 ad H locs ls hC hK hY hl
  subst hq hx
  refine va_newa (atype := .boolean) (ty := .boolean) (a0 := (N, .inl (w.1 n))) hC.1 hC.2.1 (hC.2.2.2.2.2.1 _ harr) rfl hK.1 hY.1 hY.2.1 hY.2.2.1 hY.2.2.2.1 (fun cA => ?_) (nI_pos (by omega)) (nI_clamp (by omega)) (Nat.le_trans (Nat.mul_le_mul_right 1 hN) (by decide)) hc hsl hd (fun a cA H1 hK1 hP1 hD1 hS1 => ?_)
  · rw [vp_cell_i]
    refine congrArg (arrV cA N) ?_
    funext i
    rw [hw.1 n i (Nat.le_refl _)]
    rfl
  · have e1 := va_nm_boolean (hK1.2 4 _ rfl).2
    have e2 := va_nm_boolean (hK.1.2 1 _ rfl).2
    have e3 : cA = aC 2 := Option.some.inj (e1.symm.trans e2)
    subst e3
    exact g_made hC hK hY hl hw hlt hL hst (cell_arr hs (by decide) (by decide)) hP1 hD1 hS1 h
theorem g_newq {Y : MD} {R : Room} {Z : Zt} {n0 pc q n k j : Nat} {L st : List Value} {w : Wd} {N t idx : Nat} {C : String} {x : Int32} (hx : x = nI N) (hs : shT.getD n (9, 0) = (t, N)) (ht3 : ¬ t ≤ 2) (hty : ∀ aC : Nat → ClassId, (tysOf aC)[t - 1]? = some (aC t, FieldType.object C)) (hao : ∀ (D : va_G) (aC : Nat → ClassId) (A : Nat → Prop) (ad0 : Nat → Nat) (s : State), Ks Y.2.2.2.2 D aC A ad0 s → va_AO C s) (hlk : Cond.classLink Y.1.cls idx C ∈ TB) (hw : Wz w n) (hlt : n < 1000) (hL : L.all (okV n) = true) (hst : st.all (okV n) = true) (hc : k + 1 ≤ R.cells) (hsl : j + N ≤ R.slots) (hN : N ≤ 5000) (hd : decode Y.2.1 pc = .ok (.anewarray idx, 3)) (hq : pc + 3 = q) (h : G Y R Z n0 q L (.ref n :: st) (n + 1) w (k + 1) (j + N)) : G Y R Z n0 pc L (.int x :: st) n w k j := by
  intro p l e s m args below meth c D aC A ad0 ad H locs ls hC hK hY hl
  subst hq hx
  refine va_newq (C := C) hC.1 hC.2.1 hC.2.2.2.2.1 (hC.2.2.2.2.2.1 _ hlk) (hao D aC A ad0 s hK) hK.1 hY.1 hY.2.1 hY.2.2.1 hY.2.2.2.1 (nI_pos (by omega)) (nI_clamp (by omega)) (Nat.le_trans (Nat.mul_le_mul_right 4 hN) (by decide)) hc hsl hd (fun a cA H1 hK1 hP1 hD1 hS1 => ?_)
  have e1 := va_nmO (hK1.2 4 _ rfl).2 rfl
  have e2 := va_nmO (hK.1.2 (t - 1) _ (hty aC)).2 rfl
  have e3 : cA = aC t := Option.some.inj (e1.symm.trans e2)
  subst e3
  refine g_made hC hK hY hl hw hlt hL hst ?_ hP1 hD1 hS1 h
  rw [cell_ref hs ht3]
  refine congrArg (fun f => (Sum.inl (aC t, N, Sum.inr (Sum.inr (Sum.inr (Sum.inr f)))) : va_E)) ?_
  funext i
  rw [hw.2.1 n i (Nat.le_refl _)]
  rfl
theorem g_aast {Y : MD} {R : Room} {Z : Zt} {n0 pc q n k j : Nat} {L st : List Value} {w : Wd} {b v N t ci i : Nat} {r : vw_C} {x : Int32} (hx : x = nI i) (hi : i < N) (hs : shn n b = (t, N)) (ht3 : ¬ t ≤ 2) (ht9 : t ≠ 9) (hv : shn n v = (0, ci)) (hr : vwCl[ci]? = some r) (hty : ∀ aC : Nat → ClassId, (tysOf aC)[t - 1]? = some (aC t, FieldType.object r.1)) (hd : decode Y.2.1 pc = .ok (.aastore, 1)) (hq : pc + 1 = q) (h : G Y R Z n0 q L st n (w.1, uR w.2 b i (some v)) k j) : G Y R Z n0 pc L (.ref v :: .int x :: .ref b :: st) n w k j := by
  intro p l e s m args below meth c D aC A ad0 ad H locs ls hC hK hY hl
  subst hq hx
  have hN := shn_small hs
  obtain ⟨hb, hsh⟩ := shn_lt hs ht9
  obtain ⟨hbv, hshv⟩ := shn_lt hv (by show (0 : Nat) ≠ 9; decide)
  have he := wsOf_get (aC := aC) (w := w) (ad := ad) hb
  rw [cell_ref hsh ht3] at he
  have hev := wsOf_get (aC := aC) (w := w) (ad := ad) hbv
  rw [cell_obj hshv] at hev
  refine va_astq hC.1 hC.2.1 hK.1 hY.1 hY.2.1 hY.2.2.1 b (t - 1) v ci he (hty aC) hev hr (nI_in hi hN) hd (fun H1 locs1 hP1 hD1 hS1 => ?_)
  rw [nI_clamp (Nat.lt_trans hi hN)] at hP1 hD1
  have hw : (wsOf aC n w ad).set b (ad b, .inl (aC t, N, .inr (.inr (.inr (.inr (va_up (fun j => (w.2 b j).map ad) i (some (ad v)))))))) = wsOf aC n (w.1, uR w.2 b i (some v)) ad := by
    refine wsOf_set ?_ (fun z hz => cell_same rfl (fun y => by show Option.map ad (uR w.2 b i _ z y) = _; rw [uR_ne hz]))
    rw [cell_ref hsh ht3]
    refine congrArg (fun f => (Sum.inl (aC t, N, Sum.inr (Sum.inr (Sum.inr (Sum.inr f)))) : va_E)) ?_
    funext y
    by_cases hy : y = i
    · subst hy; simp [uR, va_up]
    · simp [uR, va_up, hy]
  rw [hw] at hP1 hD1
  exact h p l e s m args below meth c D aC A ad0 ad H1 locs1 ls hC hK ⟨hP1, hD1, hS1, hY.2.2.2⟩ hl

theorem wa_int : Cond.arrayClass .int ∈ TB := List.mem_filter.mpr ⟨List.mem_of_getElem? (i := 113) (by decide +kernel), by decide +kernel⟩
theorem wa_bool : Cond.arrayClass .boolean ∈ TB := List.mem_filter.mpr ⟨List.mem_of_getElem? (i := 895) (by decide +kernel), by decide +kernel⟩
theorem wi_X6 : Cond.instantiable RX6 10 ∈ TB := List.mem_filter.mpr ⟨List.mem_of_getElem? (i := 76) (by decide +kernel), by decide +kernel⟩
theorem wt_X6 : Cond.initialized RX6 ∈ TB := List.mem_filter.mpr ⟨List.mem_of_getElem? (i := 65) (by decide +kernel), by decide +kernel⟩
theorem df_X6 : ∀ j, j < 10 → defaultValue (tyX6 j) = if isI 6 j = true then Value.int 0 else .null := by decide +kernel
theorem wc_L_7 : Cond.classLink RL 7 RX6 ∈ TB := List.mem_filter.mpr ⟨List.mem_of_getElem? (i := 75) (by decide +kernel), by decide +kernel⟩
theorem nw_L_7 {Y : MD} {R : Room} {Z : Zt} {n0 pc q n k j : Nat} {L st : List Value} {I : Nat → Nat → Int32} {F : Nat → Nat → Option Nat} (hy : Y.1.cls = RL) (hs : shT.getD n (9, 0) = (0, 6)) (hw : Wz (I, F) n) (hlt : n < 1000) (hL : L.all (okV n) = true) (hst : st.all (okV n) = true) (hc : k + 1 ≤ R.cells) (hsl : j + 10 ≤ R.slots) (hd : decode Y.2.1 pc = .ok (.new 7, 3)) (hq : pc + 3 = q) (h : G Y R Z n0 q L (.ref n :: st) (n + 1) (I, F) (k + 1) (j + 10)) : G Y R Z n0 pc L st n (I, F) k j :=
  g_new (ci := 6) (N := 10) (C := RX6) (T := TX6) rfl rfl hinX6 tyX6 tyX6_ok (by rw [hy]; exact wc_L_7) wi_X6 wt_X6 df_X6 hs hw hlt hL hst hc hsl hd hq h
theorem wi_X7 : Cond.instantiable RX7 32 ∈ TB := List.mem_filter.mpr ⟨List.mem_of_getElem? (i := 792) (by decide +kernel), by decide +kernel⟩
theorem wt_X7 : Cond.initialized RX7 ∈ TB := List.mem_filter.mpr ⟨List.mem_of_getElem? (i := 72) (by decide +kernel), by decide +kernel⟩
theorem df_X7 : ∀ j, j < 32 → defaultValue (tyX7 j) = if isI 7 j = true then Value.int 0 else .null := by decide +kernel
theorem wc_L_10 : Cond.classLink RL 10 RX7 ∈ TB := List.mem_filter.mpr ⟨List.mem_of_getElem? (i := 791) (by decide +kernel), by decide +kernel⟩
theorem nw_L_10 {Y : MD} {R : Room} {Z : Zt} {n0 pc q n k j : Nat} {L st : List Value} {I : Nat → Nat → Int32} {F : Nat → Nat → Option Nat} (hy : Y.1.cls = RL) (hs : shT.getD n (9, 0) = (0, 7)) (hw : Wz (I, F) n) (hlt : n < 1000) (hL : L.all (okV n) = true) (hst : st.all (okV n) = true) (hc : k + 1 ≤ R.cells) (hsl : j + 32 ≤ R.slots) (hd : decode Y.2.1 pc = .ok (.new 10, 3)) (hq : pc + 3 = q) (h : G Y R Z n0 q L (.ref n :: st) (n + 1) (I, F) (k + 1) (j + 32)) : G Y R Z n0 pc L st n (I, F) k j :=
  g_new (ci := 7) (N := 32) (C := RX7) (T := TX7) rfl rfl hinX7 tyX7 tyX7_ok (by rw [hy]; exact wc_L_10) wi_X7 wt_X7 df_X7 hs hw hlt hL hst hc hsl hd hq h
theorem wi_X2 : Cond.instantiable RX2 3 ∈ TB := List.mem_filter.mpr ⟨List.mem_of_getElem? (i := 203) (by decide +kernel), by decide +kernel⟩
theorem wt_X2 : Cond.initialized RX2 ∈ TB := List.mem_filter.mpr ⟨List.mem_of_getElem? (i := 71) (by decide +kernel), by decide +kernel⟩
theorem df_X2 : ∀ j, j < 3 → defaultValue (tyX2 j) = if isI 2 j = true then Value.int 0 else .null := by decide +kernel
theorem wc_X6_9 : Cond.classLink RX6 9 RX2 ∈ TB := List.mem_filter.mpr ⟨List.mem_of_getElem? (i := 83) (by decide +kernel), by decide +kernel⟩
theorem nw_X6_9 {Y : MD} {R : Room} {Z : Zt} {n0 pc q n k j : Nat} {L st : List Value} {I : Nat → Nat → Int32} {F : Nat → Nat → Option Nat} (hy : Y.1.cls = RX6) (hs : shT.getD n (9, 0) = (0, 2)) (hw : Wz (I, F) n) (hlt : n < 1000) (hL : L.all (okV n) = true) (hst : st.all (okV n) = true) (hc : k + 1 ≤ R.cells) (hsl : j + 3 ≤ R.slots) (hd : decode Y.2.1 pc = .ok (.new 9, 3)) (hq : pc + 3 = q) (h : G Y R Z n0 q L (.ref n :: st) (n + 1) (I, F) (k + 1) (j + 3)) : G Y R Z n0 pc L st n (I, F) k j :=
  g_new (ci := 2) (N := 3) (C := RX2) (T := TX2) rfl rfl hinX2 tyX2 tyX2_ok (by rw [hy]; exact wc_X6_9) wi_X2 wt_X2 df_X2 hs hw hlt hL hst hc hsl hd hq h
theorem wi_X4 : Cond.instantiable RX4 7 ∈ TB := List.mem_filter.mpr ⟨List.mem_of_getElem? (i := 86) (by decide +kernel), by decide +kernel⟩
theorem wt_X4 : Cond.initialized RX4 ∈ TB := List.mem_filter.mpr ⟨List.mem_of_getElem? (i := 66) (by decide +kernel), by decide +kernel⟩
theorem df_X4 : ∀ j, j < 7 → defaultValue (tyX4 j) = if isI 4 j = true then Value.int 0 else .null := by decide +kernel
theorem wc_X6_15 : Cond.classLink RX6 15 RX4 ∈ TB := List.mem_filter.mpr ⟨List.mem_of_getElem? (i := 85) (by decide +kernel), by decide +kernel⟩
theorem nw_X6_15 {Y : MD} {R : Room} {Z : Zt} {n0 pc q n k j : Nat} {L st : List Value} {I : Nat → Nat → Int32} {F : Nat → Nat → Option Nat} (hy : Y.1.cls = RX6) (hs : shT.getD n (9, 0) = (0, 4)) (hw : Wz (I, F) n) (hlt : n < 1000) (hL : L.all (okV n) = true) (hst : st.all (okV n) = true) (hc : k + 1 ≤ R.cells) (hsl : j + 7 ≤ R.slots) (hd : decode Y.2.1 pc = .ok (.new 15, 3)) (hq : pc + 3 = q) (h : G Y R Z n0 q L (.ref n :: st) (n + 1) (I, F) (k + 1) (j + 7)) : G Y R Z n0 pc L st n (I, F) k j :=
  g_new (ci := 4) (N := 7) (C := RX4) (T := TX4) rfl rfl hinX4 tyX4 tyX4_ok (by rw [hy]; exact wc_X6_15) wi_X4 wt_X4 df_X4 hs hw hlt hL hst hc hsl hd hq h
theorem wi_X5 : Cond.instantiable RX5 7 ∈ TB := List.mem_filter.mpr ⟨List.mem_of_getElem? (i := 115) (by decide +kernel), by decide +kernel⟩
theorem wt_X5 : Cond.initialized RX5 ∈ TB := List.mem_filter.mpr ⟨List.mem_of_getElem? (i := 67) (by decide +kernel), by decide +kernel⟩
theorem df_X5 : ∀ j, j < 7 → defaultValue (tyX5 j) = if isI 5 j = true then Value.int 0 else .null := by decide +kernel
theorem wc_X6_22 : Cond.classLink RX6 22 RX5 ∈ TB := List.mem_filter.mpr ⟨List.mem_of_getElem? (i := 114) (by decide +kernel), by decide +kernel⟩
theorem nw_X6_22 {Y : MD} {R : Room} {Z : Zt} {n0 pc q n k j : Nat} {L st : List Value} {I : Nat → Nat → Int32} {F : Nat → Nat → Option Nat} (hy : Y.1.cls = RX6) (hs : shT.getD n (9, 0) = (0, 5)) (hw : Wz (I, F) n) (hlt : n < 1000) (hL : L.all (okV n) = true) (hst : st.all (okV n) = true) (hc : k + 1 ≤ R.cells) (hsl : j + 7 ≤ R.slots) (hd : decode Y.2.1 pc = .ok (.new 22, 3)) (hq : pc + 3 = q) (h : G Y R Z n0 q L (.ref n :: st) (n + 1) (I, F) (k + 1) (j + 7)) : G Y R Z n0 pc L st n (I, F) k j :=
  g_new (ci := 5) (N := 7) (C := RX5) (T := TX5) rfl rfl hinX5 tyX5 tyX5_ok (by rw [hy]; exact wc_X6_22) wi_X5 wt_X5 df_X5 hs hw hlt hL hst hc hsl hd hq h
theorem wi_X0 : Cond.instantiable RX0 2 ∈ TB := List.mem_filter.mpr ⟨List.mem_of_getElem? (i := 144) (by decide +kernel), by decide +kernel⟩
theorem wt_X0 : Cond.initialized RX0 ∈ TB := List.mem_filter.mpr ⟨List.mem_of_getElem? (i := 68) (by decide +kernel), by decide +kernel⟩
theorem df_X0 : ∀ j, j < 2 → defaultValue (tyX0 j) = if isI 0 j = true then Value.int 0 else .null := by decide +kernel
theorem wc_X6_36 : Cond.classLink RX6 36 RX0 ∈ TB := List.mem_filter.mpr ⟨List.mem_of_getElem? (i := 143) (by decide +kernel), by decide +kernel⟩
theorem nw_X6_36 {Y : MD} {R : Room} {Z : Zt} {n0 pc q n k j : Nat} {L st : List Value} {I : Nat → Nat → Int32} {F : Nat → Nat → Option Nat} (hy : Y.1.cls = RX6) (hs : shT.getD n (9, 0) = (0, 0)) (hw : Wz (I, F) n) (hlt : n < 1000) (hL : L.all (okV n) = true) (hst : st.all (okV n) = true) (hc : k + 1 ≤ R.cells) (hsl : j + 2 ≤ R.slots) (hd : decode Y.2.1 pc = .ok (.new 36, 3)) (hq : pc + 3 = q) (h : G Y R Z n0 q L (.ref n :: st) (n + 1) (I, F) (k + 1) (j + 2)) : G Y R Z n0 pc L st n (I, F) k j :=
  g_new (ci := 0) (N := 2) (C := RX0) (T := TX0) rfl rfl hinX0 tyX0 tyX0_ok (by rw [hy]; exact wc_X6_36) wi_X0 wt_X0 df_X0 hs hw hlt hL hst hc hsl hd hq h
theorem wi_X3 : Cond.instantiable RX3 8 ∈ TB := List.mem_filter.mpr ⟨List.mem_of_getElem? (i := 157) (by decide +kernel), by decide +kernel⟩
theorem wt_X3 : Cond.initialized RX3 ∈ TB := List.mem_filter.mpr ⟨List.mem_of_getElem? (i := 69) (by decide +kernel), by decide +kernel⟩
theorem df_X3 : ∀ j, j < 8 → defaultValue (tyX3 j) = if isI 3 j = true then Value.int 0 else .null := by decide +kernel
theorem wc_X6_43 : Cond.classLink RX6 43 RX3 ∈ TB := List.mem_filter.mpr ⟨List.mem_of_getElem? (i := 156) (by decide +kernel), by decide +kernel⟩
theorem nw_X6_43 {Y : MD} {R : Room} {Z : Zt} {n0 pc q n k j : Nat} {L st : List Value} {I : Nat → Nat → Int32} {F : Nat → Nat → Option Nat} (hy : Y.1.cls = RX6) (hs : shT.getD n (9, 0) = (0, 3)) (hw : Wz (I, F) n) (hlt : n < 1000) (hL : L.all (okV n) = true) (hst : st.all (okV n) = true) (hc : k + 1 ≤ R.cells) (hsl : j + 8 ≤ R.slots) (hd : decode Y.2.1 pc = .ok (.new 43, 3)) (hq : pc + 3 = q) (h : G Y R Z n0 q L (.ref n :: st) (n + 1) (I, F) (k + 1) (j + 8)) : G Y R Z n0 pc L st n (I, F) k j :=
  g_new (ci := 3) (N := 8) (C := RX3) (T := TX3) rfl rfl hinX3 tyX3 tyX3_ok (by rw [hy]; exact wc_X6_43) wi_X3 wt_X3 df_X3 hs hw hlt hL hst hc hsl hd hq h
theorem wi_X1 : Cond.instantiable RX1 3 ∈ TB := List.mem_filter.mpr ⟨List.mem_of_getElem? (i := 188) (by decide +kernel), by decide +kernel⟩
theorem wt_X1 : Cond.initialized RX1 ∈ TB := List.mem_filter.mpr ⟨List.mem_of_getElem? (i := 70) (by decide +kernel), by decide +kernel⟩
theorem df_X1 : ∀ j, j < 3 → defaultValue (tyX1 j) = if isI 1 j = true then Value.int 0 else .null := by decide +kernel
theorem wc_X6_52 : Cond.classLink RX6 52 RX1 ∈ TB := List.mem_filter.mpr ⟨List.mem_of_getElem? (i := 187) (by decide +kernel), by decide +kernel⟩
theorem nw_X6_52 {Y : MD} {R : Room} {Z : Zt} {n0 pc q n k j : Nat} {L st : List Value} {I : Nat → Nat → Int32} {F : Nat → Nat → Option Nat} (hy : Y.1.cls = RX6) (hs : shT.getD n (9, 0) = (0, 1)) (hw : Wz (I, F) n) (hlt : n < 1000) (hL : L.all (okV n) = true) (hst : st.all (okV n) = true) (hc : k + 1 ≤ R.cells) (hsl : j + 3 ≤ R.slots) (hd : decode Y.2.1 pc = .ok (.new 52, 3)) (hq : pc + 3 = q) (h : G Y R Z n0 q L (.ref n :: st) (n + 1) (I, F) (k + 1) (j + 3)) : G Y R Z n0 pc L st n (I, F) k j :=
  g_new (ci := 1) (N := 3) (C := RX1) (T := TX1) rfl rfl hinX1 tyX1 tyX1_ok (by rw [hy]; exact wc_X6_52) wi_X1 wt_X1 df_X1 hs hw hlt hL hst hc hsl hd hq h
theorem nq_X6_9 {Y : MD} {R : Room} {Z : Zt} {n0 pc q n k j : Nat} {L st : List Value} {I : Nat → Nat → Int32} {F : Nat → Nat → Option Nat} {x : Int32} (hy : Y.1.cls = RX6) (hx : x = nI 8) (hs : shT.getD n (9, 0) = (3, 8)) (hw : Wz (I, F) n) (hlt : n < 1000) (hL : L.all (okV n) = true) (hst : st.all (okV n) = true) (hc : k + 1 ≤ R.cells) (hsl : j + 8 ≤ R.slots) (hd : decode Y.2.1 pc = .ok (.anewarray 9, 3)) (hq : pc + 3 = q) (h : G Y R Z n0 q L (.ref n :: st) (n + 1) (I, F) (k + 1) (j + 8)) : G Y R Z n0 pc L (.int x :: st) n (I, F) k j :=
  g_newq (C := RX2) hx hs (by decide) (fun _ => rfl) (fun D aC A ad0 s hK => hK.2.2.2.1.1) (by rw [hy]; exact wc_X6_9) hw hlt hL hst hc hsl (by decide) hd hq h
theorem nq_X6_22 {Y : MD} {R : Room} {Z : Zt} {n0 pc q n k j : Nat} {L st : List Value} {I : Nat → Nat → Int32} {F : Nat → Nat → Option Nat} {x : Int32} (hy : Y.1.cls = RX6) (hx : x = nI 2) (hs : shT.getD n (9, 0) = (4, 2)) (hw : Wz (I, F) n) (hlt : n < 1000) (hL : L.all (okV n) = true) (hst : st.all (okV n) = true) (hc : k + 1 ≤ R.cells) (hsl : j + 2 ≤ R.slots) (hd : decode Y.2.1 pc = .ok (.anewarray 22, 3)) (hq : pc + 3 = q) (h : G Y R Z n0 q L (.ref n :: st) (n + 1) (I, F) (k + 1) (j + 2)) : G Y R Z n0 pc L (.int x :: st) n (I, F) k j :=
  g_newq (C := RX5) hx hs (by decide) (fun _ => rfl) (fun D aC A ad0 s hK => hK.2.2.2.1.2) (by rw [hy]; exact wc_X6_22) hw hlt hL hst hc hsl (by decide) hd hq h
