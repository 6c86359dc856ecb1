set_option maxRecDepth 100000 in
set_option maxHeartbeats 400000 in
theorem law_start {N : Nat} {xs : Nat → Int32} (hN : N ≤ 3072) : G (mLw N xs) room_1 ZL 0 0 [.ref 1000, .null, .null, .null] [] 0 (zI, zF) 0 0 := by
  refine nw_L_7 (q := 3) rfl rfl Wz.z (by decide) rfl rfl (Nat.le_of_ble_eq_true rfl) (Nat.le_of_ble_eq_true rfl) dL_law_0 rfl ?_
  refine g_nkj (n' := 1) (k' := 1) (j' := 10) rfl rfl rfl ?_
  refine g_dup (q := 4) dL_law_3 rfl rfl ?_
  refine k_L_9 (q := 7) (d := 2) (mc := 51) (ms := 1093) (n1 := 52) rfl ⟨(Nat.le_of_ble_eq_true rfl), (Nat.le_of_ble_eq_true rfl)⟩ ⟨(Nat.le_of_ble_eq_true rfl), (Nat.le_of_ble_eq_true rfl)⟩ (Or.inr ⟨rfl, rfl⟩) (Nat.le_of_ble_eq_true rfl) dL_law_4 rfl (c_X6_init_0 (fun w1 => ?_))
  refine g_nkj (n' := 52) (k' := 52) (j' := 1103) rfl rfl rfl ?_
  refine g_astore_n (q := 8) dL_law_7 rfl (by show 1 < 4; decide) rfl rfl ?_
  refine nw_L_10 (q := 11) rfl rfl w1 (by decide) rfl rfl (Nat.le_of_ble_eq_true rfl) (Nat.le_of_ble_eq_true rfl) dL_law_8 rfl ?_
  refine g_nkj (n' := 53) (k' := 53) (j' := 1135) rfl rfl rfl ?_
  refine g_dup (q := 12) dL_law_11 rfl rfl ?_
  refine k_L_12 (q := 15) (d := 1) (mc := 15) (ms := 3262) (n1 := 68) rfl ⟨(Nat.le_of_ble_eq_true rfl), (Nat.le_of_ble_eq_true rfl)⟩ ⟨(Nat.le_of_ble_eq_true rfl), (Nat.le_of_ble_eq_true rfl)⟩ (Or.inr ⟨rfl, rfl⟩) (Nat.le_of_ble_eq_true rfl) dL_law_12 rfl (c_X7_init_52 w1 ?_)
  rw [fM_FC]
  refine g_nkj (n' := 68) (k' := 68) (j' := 4397) rfl rfl rfl ?_
  refine g_astore_n (q := 16) dL_law_15 rfl (by show 2 < 4; decide) rfl rfl ?_
  refine g_iconst (q := 17) (v := nI 0) dL_law_16 rfl (by decide) ?_
  refine g_istore_n (q := 18) dL_law_17 rfl (by show 3 < 4; decide) rfl rfl ?_
  exact law_loop hN (N + 1) 0 4 _ S0 (by omega) (by omega) (Or.inl rfl) S0_C S0_M
theorem st_nest {args : Array Value} {s : State} (hts : ∀ w ∈ lw_tbl, w.before args s = true) : ∀ x ∈ nestM, va_Nw (.methodLinkNest x.1 x.2.1 x.2.2.1 x.2.2.2) s := by
  intro x hx
  have hw : Cond.methodLinkNest x.1 x.2.1 x.2.2.1 x.2.2.2 ∈ lw_tbl := by
    simp only [nestM, List.mem_cons, List.not_mem_nil, or_false] at hx
    rcases hx with rfl | rfl | rfl | rfl | rfl | rfl | rfl
    · exact List.mem_of_getElem? (i := 87) (by decide +kernel)
    · exact List.mem_of_getElem? (i := 116) (by decide +kernel)
    · exact List.mem_of_getElem? (i := 145) (by decide +kernel)
    · exact List.mem_of_getElem? (i := 204) (by decide +kernel)
    · exact List.mem_of_getElem? (i := 367) (by decide +kernel)
    · exact List.mem_of_getElem? (i := 558) (by decide +kernel)
    · exact List.mem_of_getElem? (i := 612) (by decide +kernel)
  exact va_Nw.of rfl (hts _ hw)
def StA (s : State) : Nat → Prop := fun q => s.heap.size ≤ q
theorem st_s0 {b : Nat} {s : State} (hts : ∀ w ∈ lw_tbl, w.before #[Value.ref b] s = true) (hgv : (Jvm.Cond.and given_1 narrow_1).before #[Value.ref b] s = true) : ∃ t : Nat, va_Z (stC 0).1 (stC 0).2 "[I" (.ref t) (StA s) s s.heap ∧ va_T .int t (stV 0).length (fun j => .int ((stV 0).getD j 0)) (StA s) s s.heap := by
  have hs := flat_of_before _ hgv
  have hA : ∀ a : Nat, a < s.heap.size → ¬ StA s a := fun a h => Nat.not_le.mpr h
  have harr : (Cond.arrayOf (.static "WovenCalls" "CLASS_OR_BELOW" "[I") .int).before #[Value.ref b] s = true := hs _ (by decide +kernel)
  have hlen : (Cond.eq (.length (.static "WovenCalls" "CLASS_OR_BELOW" "[I")) (.int 5)).before #[Value.ref b] s = true := hs _ (by decide +kernel)
  have e0 : (Cond.eq (.elem (.static "WovenCalls" "CLASS_OR_BELOW" "[I") (.int 0)) (.int 15)).before #[Value.ref b] s = true := hs _ (by decide +kernel)
  have e1 : (Cond.eq (.elem (.static "WovenCalls" "CLASS_OR_BELOW" "[I") (.int 1)) (.int 10)).before #[Value.ref b] s = true := hs _ (by decide +kernel)
  have e2 : (Cond.eq (.elem (.static "WovenCalls" "CLASS_OR_BELOW" "[I") (.int 2)) (.int 4)).before #[Value.ref b] s = true := hs _ (by decide +kernel)
  have e3 : (Cond.eq (.elem (.static "WovenCalls" "CLASS_OR_BELOW" "[I") (.int 3)) (.int 8)).before #[Value.ref b] s = true := hs _ (by decide +kernel)
  have e4 : (Cond.eq (.elem (.static "WovenCalls" "CLASS_OR_BELOW" "[I") (.int 4)) (.int 15)).before #[Value.ref b] s = true := hs _ (by decide +kernel)
  obtain ⟨t, h1, h2⟩ := va_Tof (tm := (.static "WovenCalls" "CLASS_OR_BELOW" "[I")) (ty := .int) (N := 5) (f := fun j => .int ((stV 0).getD j 0)) (A := StA s) (by decide) harr (va_eqt hlen) (fun j hj => by
    have h : j = 0 ∨ j = 1 ∨ j = 2 ∨ j = 3 ∨ j = 4 := by omega
    rcases h with rfl | rfl | rfl | rfl | rfl
    · exact va_eqt e0
    · exact va_eqt e1
    · exact va_eqt e2
    · exact va_eqt e3
    · exact va_eqt e4) hA
  exact ⟨t, va_Zref (hts (.laysStatic "WovenCalls" "CLASS_OR_BELOW" "[I") (List.mem_of_getElem? (i := 584) (by decide +kernel))) (hts (.initialized "WovenCalls") (List.mem_of_getElem? (i := 65) (by decide +kernel))) h1 hA, h2⟩
theorem st_s1 {b : Nat} {s : State} (hts : ∀ w ∈ lw_tbl, w.before #[Value.ref b] s = true) (hgv : (Jvm.Cond.and given_1 narrow_1).before #[Value.ref b] s = true) : ∃ t : Nat, va_Z (stC 1).1 (stC 1).2 "[I" (.ref t) (StA s) s s.heap ∧ va_T .int t (stV 1).length (fun j => .int ((stV 1).getD j 0)) (StA s) s s.heap := by
  have hs := flat_of_before _ hgv
  have hA : ∀ a : Nat, a < s.heap.size → ¬ StA s a := fun a h => Nat.not_le.mpr h
  have harr : (Cond.arrayOf (.static "WovenCalls" "KINDS_OF_KIND" "[I") .int).before #[Value.ref b] s = true := hs _ (by decide +kernel)
  have hlen : (Cond.eq (.length (.static "WovenCalls" "KINDS_OF_KIND" "[I")) (.int 6)).before #[Value.ref b] s = true := hs _ (by decide +kernel)
  have e0 : (Cond.eq (.elem (.static "WovenCalls" "KINDS_OF_KIND" "[I") (.int 0)) (.int 1)).before #[Value.ref b] s = true := hs _ (by decide +kernel)
  have e1 : (Cond.eq (.elem (.static "WovenCalls" "KINDS_OF_KIND" "[I") (.int 1)) (.int 3)).before #[Value.ref b] s = true := hs _ (by decide +kernel)
  have e2 : (Cond.eq (.elem (.static "WovenCalls" "KINDS_OF_KIND" "[I") (.int 2)) (.int 7)).before #[Value.ref b] s = true := hs _ (by decide +kernel)
  have e3 : (Cond.eq (.elem (.static "WovenCalls" "KINDS_OF_KIND" "[I") (.int 3)) (.int 11)).before #[Value.ref b] s = true := hs _ (by decide +kernel)
  have e4 : (Cond.eq (.elem (.static "WovenCalls" "KINDS_OF_KIND" "[I") (.int 4)) (.int 17)).before #[Value.ref b] s = true := hs _ (by decide +kernel)
  have e5 : (Cond.eq (.elem (.static "WovenCalls" "KINDS_OF_KIND" "[I") (.int 5)) (.int 49)).before #[Value.ref b] s = true := hs _ (by decide +kernel)
  obtain ⟨t, h1, h2⟩ := va_Tof (tm := (.static "WovenCalls" "KINDS_OF_KIND" "[I")) (ty := .int) (N := 6) (f := fun j => .int ((stV 1).getD j 0)) (A := StA s) (by decide) harr (va_eqt hlen) (fun j hj => by
    have h : j = 0 ∨ j = 1 ∨ j = 2 ∨ j = 3 ∨ j = 4 ∨ j = 5 := by omega
    rcases h with rfl | rfl | rfl | rfl | rfl | rfl
    · exact va_eqt e0
    · exact va_eqt e1
    · exact va_eqt e2
    · exact va_eqt e3
    · exact va_eqt e4
    · exact va_eqt e5) hA
  exact ⟨t, va_Zref (hts (.laysStatic "WovenCalls" "KINDS_OF_KIND" "[I") (List.mem_of_getElem? (i := 731) (by decide +kernel))) (hts (.initialized "WovenCalls") (List.mem_of_getElem? (i := 65) (by decide +kernel))) h1 hA, h2⟩
theorem st_s2 {b : Nat} {s : State} (hts : ∀ w ∈ lw_tbl, w.before #[Value.ref b] s = true) (hgv : (Jvm.Cond.and given_1 narrow_1).before #[Value.ref b] s = true) : ∃ t : Nat, va_Z (stC 2).1 (stC 2).2 "[I" (.ref t) (StA s) s s.heap ∧ va_T .int t (stV 2).length (fun j => .int ((stV 2).getD j 0)) (StA s) s s.heap := by
  have hs := flat_of_before _ hgv
  have hA : ∀ a : Nat, a < s.heap.size → ¬ StA s a := fun a h => Nat.not_le.mpr h
  have harr : (Cond.arrayOf (.static "WovenCalls$Asks" "SIZE_BODIES" "[I") .int).before #[Value.ref b] s = true := hs _ (by decide +kernel)
  have hlen : (Cond.eq (.length (.static "WovenCalls$Asks" "SIZE_BODIES" "[I")) (.int 6)).before #[Value.ref b] s = true := hs _ (by decide +kernel)
  have e0 : (Cond.eq (.elem (.static "WovenCalls$Asks" "SIZE_BODIES" "[I") (.int 0)) (.int 10)).before #[Value.ref b] s = true := hs _ (by decide +kernel)
  have e1 : (Cond.eq (.elem (.static "WovenCalls$Asks" "SIZE_BODIES" "[I") (.int 1)) (.int 11)).before #[Value.ref b] s = true := hs _ (by decide +kernel)
  have e2 : (Cond.eq (.elem (.static "WovenCalls$Asks" "SIZE_BODIES" "[I") (.int 2)) (.int 12)).before #[Value.ref b] s = true := hs _ (by decide +kernel)
  have e3 : (Cond.eq (.elem (.static "WovenCalls$Asks" "SIZE_BODIES" "[I") (.int 3)) (.int 11)).before #[Value.ref b] s = true := hs _ (by decide +kernel)
  have e4 : (Cond.eq (.elem (.static "WovenCalls$Asks" "SIZE_BODIES" "[I") (.int 4)) (.int 13)).before #[Value.ref b] s = true := hs _ (by decide +kernel)
  have e5 : (Cond.eq (.elem (.static "WovenCalls$Asks" "SIZE_BODIES" "[I") (.int 5)) (.int 14)).before #[Value.ref b] s = true := hs _ (by decide +kernel)
  obtain ⟨t, h1, h2⟩ := va_Tof (tm := (.static "WovenCalls$Asks" "SIZE_BODIES" "[I")) (ty := .int) (N := 6) (f := fun j => .int ((stV 2).getD j 0)) (A := StA s) (by decide) harr (va_eqt hlen) (fun j hj => by
    have h : j = 0 ∨ j = 1 ∨ j = 2 ∨ j = 3 ∨ j = 4 ∨ j = 5 := by omega
    rcases h with rfl | rfl | rfl | rfl | rfl | rfl
    · exact va_eqt e0
    · exact va_eqt e1
    · exact va_eqt e2
    · exact va_eqt e3
    · exact va_eqt e4
    · exact va_eqt e5) hA
  exact ⟨t, va_Zref (hts (.laysStatic "WovenCalls$Asks" "SIZE_BODIES" "[I") (List.mem_of_getElem? (i := 747) (by decide +kernel))) (hts (.initialized "WovenCalls$Asks") (List.mem_of_getElem? (i := 70) (by decide +kernel))) h1 hA, h2⟩
theorem st_s3 {b : Nat} {s : State} (hts : ∀ w ∈ lw_tbl, w.before #[Value.ref b] s = true) (hgv : (Jvm.Cond.and given_1 narrow_1).before #[Value.ref b] s = true) : ∃ t : Nat, va_Z (stC 3).1 (stC 3).2 "[I" (.ref t) (StA s) s s.heap ∧ va_T .int t (stV 3).length (fun j => .int ((stV 3).getD j 0)) (StA s) s s.heap := by
  have hs := flat_of_before _ hgv
  have hA : ∀ a : Nat, a < s.heap.size → ¬ StA s a := fun a h => Nat.not_le.mpr h
  have harr : (Cond.arrayOf (.static "WovenCalls$Asks" "MARK_BODIES" "[I") .int).before #[Value.ref b] s = true := hs _ (by decide +kernel)
  have hlen : (Cond.eq (.length (.static "WovenCalls$Asks" "MARK_BODIES" "[I")) (.int 6)).before #[Value.ref b] s = true := hs _ (by decide +kernel)
  have e0 : (Cond.eq (.elem (.static "WovenCalls$Asks" "MARK_BODIES" "[I") (.int 0)) (.int 20)).before #[Value.ref b] s = true := hs _ (by decide +kernel)
  have e1 : (Cond.eq (.elem (.static "WovenCalls$Asks" "MARK_BODIES" "[I") (.int 1)) (.int 21)).before #[Value.ref b] s = true := hs _ (by decide +kernel)
  have e2 : (Cond.eq (.elem (.static "WovenCalls$Asks" "MARK_BODIES" "[I") (.int 2)) (.int 24)).before #[Value.ref b] s = true := hs _ (by decide +kernel)
  have e3 : (Cond.eq (.elem (.static "WovenCalls$Asks" "MARK_BODIES" "[I") (.int 3)) (.int 22)).before #[Value.ref b] s = true := hs _ (by decide +kernel)
  have e4 : (Cond.eq (.elem (.static "WovenCalls$Asks" "MARK_BODIES" "[I") (.int 4)) (.int 23)).before #[Value.ref b] s = true := hs _ (by decide +kernel)
  have e5 : (Cond.eq (.elem (.static "WovenCalls$Asks" "MARK_BODIES" "[I") (.int 5)) (.int 23)).before #[Value.ref b] s = true := hs _ (by decide +kernel)
  obtain ⟨t, h1, h2⟩ := va_Tof (tm := (.static "WovenCalls$Asks" "MARK_BODIES" "[I")) (ty := .int) (N := 6) (f := fun j => .int ((stV 3).getD j 0)) (A := StA s) (by decide) harr (va_eqt hlen) (fun j hj => by
    have h : j = 0 ∨ j = 1 ∨ j = 2 ∨ j = 3 ∨ j = 4 ∨ j = 5 := by omega
    rcases h with rfl | rfl | rfl | rfl | rfl | rfl
    · exact va_eqt e0
    · exact va_eqt e1
    · exact va_eqt e2
    · exact va_eqt e3
    · exact va_eqt e4
    · exact va_eqt e5) hA
  exact ⟨t, va_Zref (hts (.laysStatic "WovenCalls$Asks" "MARK_BODIES" "[I") (List.mem_of_getElem? (i := 757) (by decide +kernel))) (hts (.initialized "WovenCalls$Asks") (List.mem_of_getElem? (i := 70) (by decide +kernel))) h1 hA, h2⟩
theorem st_cls {args : Array Value} {s : State} (hTB : ∀ w ∈ TB, w.before args s = true) : ∃ D : va_G, ∀ (k : Nat) (q : vw_C), vwCl[k]? = some q → u_Kn s q.1 q.2.1 q.2.2 (D.1 k) (D.2 k) := by
  obtain ⟨c0, i0, K0⟩ := u_known (C := RX0) (T := TX0) (N := 2) (n := 2) hTB hinX0 (hTB _ wi_X0)
  obtain ⟨c1, i1, K1⟩ := u_known (C := RX1) (T := TX1) (N := 3) (n := 3) hTB hinX1 (hTB _ wi_X1)
  obtain ⟨c2, i2, K2⟩ := u_known (C := RX2) (T := TX2) (N := 3) (n := 3) hTB hinX2 (hTB _ wi_X2)
  obtain ⟨c3, i3, K3⟩ := u_known (C := RX3) (T := TX3) (N := 8) (n := 8) hTB hinX3 (hTB _ wi_X3)
  obtain ⟨c4, i4, K4⟩ := u_known (C := RX4) (T := TX4) (N := 7) (n := 7) hTB hinX4 (hTB _ wi_X4)
  obtain ⟨c5, i5, K5⟩ := u_known (C := RX5) (T := TX5) (N := 7) (n := 7) hTB hinX5 (hTB _ wi_X5)
  obtain ⟨c6, i6, K6⟩ := u_known (C := RX6) (T := TX6) (N := 10) (n := 10) hTB hinX6 (hTB _ wi_X6)
  obtain ⟨c7, i7, K7⟩ := u_known (C := RX7) (T := TX7) (N := 32) (n := 32) hTB hinX7 (hTB _ wi_X7)
  refine ⟨(fun k => [c0, c1, c2, c3, c4, c5, c6, c7].getD k c0, fun k => [i0, i1, i2, i3, i4, i5, i6, i7].getD k i0), ?_⟩
  intro k q hq
  match k, hq with
  | 0, hq => cases hq; exact K0
  | 1, hq => cases hq; exact K1
  | 2, hq => cases hq; exact K2
  | 3, hq => cases hq; exact K3
  | 4, hq => cases hq; exact K4
  | 5, hq => cases hq; exact K5
  | 6, hq => cases hq; exact K6
  | 7, hq => cases hq; exact K7
  | k + 8, hq => simp at hq
theorem st_arr {args : Array Value} {s : State} (hTB : ∀ w ∈ TB, w.before args s = true) (hR : va_AO RX2 s) (hW : va_AO RX5 s) : ∃ aC : Nat → ClassId, ∀ (k : Nat) (q : ClassId × FieldType), (tysOf aC)[k]? = some q → ArrOfT s q.1 q.2 ∧ va_RA s q.1 q.2 := by
  obtain ⟨cI, kI, pI, f1, f2, f3⟩ := Cond.arrayClass_spec (hTB _ wa_int)
  obtain ⟨cB, kB, pB, g1, g2, g3⟩ := Cond.arrayClass_spec (hTB _ wa_bool)
  obtain ⟨pR, cR, kR, r1, r2, r3, r4, r5⟩ := Cond.arrayOver_spec hR
  obtain ⟨pW, cW, kW, w1, w2, w3, w4, w5⟩ := Cond.arrayOver_spec hW
  refine ⟨fun k => [cI, cI, cB, cR, cW].getD k cI, ?_⟩
  intro k q hq
  match k, hq with
  | 0, hq => cases hq; exact ⟨fun n z => ⟨fun k h => (by cases h), kI, f2, pI, f3⟩, f1⟩
  | 1, hq => cases hq; exact ⟨fun n z => ⟨fun k h => (by cases h), kB, g2, pB, g3⟩, g1⟩
  | 2, hq => cases hq; exact ⟨fun n z => ⟨fun k h => (by cases h), kR, r3, pR, r4⟩, kR, pR, r3, r4, r1, r5⟩
  | 3, hq => cases hq; exact ⟨fun n z => ⟨fun k h => (by cases h), kW, w3, pW, w4⟩, kW, pW, w3, w4, w1, w5⟩
  | k + 4, hq => simp [tysOf] at hq
theorem whole_start {p : Program} {e : Env} {s : State} {m : MethodId} {below : List Frame} {meth : Method} {c : Code} (l : Launch) (hflags : l.flags = flags0) {b L : Nat} {xs : Nat → Int32} (hL : L ≤ 3072) (C0 : lw_At p s m meth c b L xs) : W p l e room_1 s m #[Value.ref b] below meth c s.heap [] 0 0 (lw_Z below #[Value.ref b] s) (entryFrame m ([Value.ref b] : List Value).toArray 4) := by
  obtain ⟨hx, hb, hr, hml, hown, hts, hX, hbl, hlocks, hgv⟩ := C0
  have hTB : ∀ w ∈ TB, w.before #[Value.ref b] s = true := fun w hw => hts w (List.mem_filter.mp hw).1
  have hR : va_AO RX2 s := va_AO.of (hts (.arrayOver (.object "WovenCalls$Row")) (List.mem_of_getElem? (i := 84) (by decide +kernel)))
  have hW : va_AO RX5 s := va_AO.of (hts (.arrayOver (.object "WovenCalls$Weave")) (List.mem_of_getElem? (i := 142) (by decide +kernel)))
  obtain ⟨D, hD⟩ := st_cls hTB
  obtain ⟨aC, haC⟩ := st_arr hTB hR hW
  obtain ⟨t0, z0, y0⟩ := st_s0 hts hgv
  obtain ⟨t1, z1, y1⟩ := st_s1 hts hgv
  obtain ⟨t2, z2, y2⟩ := st_s2 hts hgv
  obtain ⟨t3, z3, y3⟩ := st_s3 hts hgv
  have hl := lv_entry ([.ref b]) (n := 4) (Nat.le_of_ble_eq_true rfl)
  rw [lg_entry_eq]
  generalize (lg_sl ([.ref b]) ++ List.replicate (4 - (lg_sl ([.ref b])).length) Slot.unset).toArray = ls at hl ⊢
  have hK : Ks (some (L, xs)) D aC (StA s) (fun q => [b, t0, t1, t2, t3].getD (q - 1000) 0) s := by
    refine ⟨⟨hD, haC⟩, st_nest hts, va_Nw.of rfl (hts (.fieldLinkNest "WovenCalls$Weave" 65 "WovenCalls" "CLASS_OR_BELOW" "[I" "WovenCalls") (List.mem_of_getElem? (i := 583) (by decide +kernel))), ⟨hR, hW⟩, fun k hk => ?_, fun x hx => ?_⟩
    · have h4 : k = 0 ∨ k = 1 ∨ k = 2 ∨ k = 3 := by omega
      rcases h4 with rfl | rfl | rfl | rfl
      · exact ⟨z0, y0⟩
      · exact ⟨z1, y1⟩
      · exact ⟨z2, y2⟩
      · exact ⟨z3, y3⟩
    · cases hx
      exact ⟨hX, hbl, Nat.not_le.mpr hbl⟩
  have hY : Dy D aC (StA s) (fun q => [b, t0, t1, t2, t3].getD (q - 1000) 0) (fun q => [b, t0, t1, t2, t3].getD (q - 1000) 0) 0 0 (zI, zF) s.heap s.heap [] := ⟨fun k q h => by simp [wsOf] at h, ⟨fun i j p q h => by simp [wsOf] at h, fun k q h => by simp [wsOf] at h⟩, va_S.rf, fun _ h => h, Nat.le_refl _, fun _ _ => rfl⟩
  have key := law_start (N := L) (xs := xs) hL p l e s m #[Value.ref b] below meth c D aC (StA s) (fun q => [b, t0, t1, t2, t3].getD (q - 1000) 0) (fun q => [b, t0, t1, t2, t3].getD (q - 1000) 0) s.heap [] ls ⟨hx, hb, hr, hml, hown, hTB, hlocks, fun hz => absurd (show "law" = "<init>" from hz) (by decide +kernel)⟩ hK hY hl
  intro T hT X
  obtain ⟨t, a1, b1⟩ := key T hT X
  exact ⟨t, a1, b1 (fun _ h => h)⟩
set_option maxHeartbeats 4000000 in
theorem lw_walk (l : Launch) (hflags : l.flags = flags0) (b : Addr) (xs : List Int32) : MetFree l x (headSpec (Jvm.Cond.code x code maxLocals ret :: tables_1) room_1) (lw_P b xs) (fun _ _ _ _ _ => True) lw_Q := by
  refine MetFree.of_bodyS (code := code) (maxLocals := maxLocals) (ret := ret) (by decide) ?_ ?_
  · intro args s m h hn
    obtain ⟨meth, c, h1, h2, h3, h4, h5, h6, -, -⟩ := Cond.code_spec hn (atoms_spec (ws := Jvm.Cond.code x code maxLocals ret :: tables_1) h _ List.mem_cons_self)
    exact ⟨meth, c, h1, h2, h3, h4, h5, h6⟩
  · intro p e s m args below meth c s₁ B hml0 hP _
    obtain ⟨rfl, hx, hbd, hgv⟩ := hP
    obtain ⟨scr, harrAt, hlist, hof, hsmall⟩ := hx
    obtain ⟨hcb, hkn, -, -⟩ := State.arrayAt?_spec harrAt
    have hown : s.vm.findClass R_law = some m.cls := findClass_of_methodNamed B.named
    have hts0 : ∀ c ∈ (Jvm.Cond.code x code maxLocals ret :: tables_1), c.before #[Value.ref b] s = true := atoms_spec (ws := Jvm.Cond.code x code maxLocals ret :: tables_1) B.pre
    have hts : ∀ w ∈ lw_tbl, w.before #[Value.ref b] s = true := k2_hts_sels lw_privs (fun w hw => hts0 w (List.mem_cons_of_mem _ hw)) lw_privs_ok
    have hml : c.maxLocals = 4 := B.maxLocals_eq (hts0 _ List.mem_cons_self)
    have X₀ : Stand p l e room_1 s m #[Value.ref b] below meth c s₁ [] 0 0 := Stand.of_body B
    have hh0 : s₁.heap = s.heap := by rw [B.state]; rfl
    have hsz : scr.slots.size = xs.length := by rw [← Array.length_toList, hlist, List.length_map]
    have hval : ∀ j : Nat, j < xs.length → scr.slots[j]? = some (.int (xs.getD j 0)) := fun j hj => by
      rw [← Array.getElem?_toList, hlist]
      simp [hj]
    have hbl : b < s.heap.size := (Array.getElem?_eq_some_iff.mp hcb).1
    have hX : va_X b xs.length (fun j => xs.getD j 0) s s.heap := ⟨scr, hcb, hof, hkn, hsz, hval⟩
    have K : W p l e room_1 s m #[Value.ref b] below meth c s₁.heap [] 0 0 (lw_Z below #[Value.ref b] s) (entryFrame m ([Value.ref b] : List Value).toArray 4) := by
      rw [hh0]
      exact whole_start l hflags hbd ⟨B.exec, B.bytes, B.returns, hml, hown, hts, hX, hbl, B.notSynchronized, hgv⟩
    obtain ⟨t, a1, o, b1, b2, b3⟩ := K s₁ rfl X₀
    exact ⟨t, o, a1, b1, b2, b3⟩
theorem lw_pre_spec {args : Array Value} {s : State} (h : (Jvm.Cond.and given_1 narrow_1).before args s = true) (hr : rest_1_c.before args s = true) : ∃ (b : Addr) (xs : List Int32), lw_P b xs args s := by
  have hs := flat_of_before _ h
  have hq := flat_of_before _ hr
  have hc : (Cond.count 1).before args s = true := hs _ (by decide +kernel)
  have harr : (Cond.arrayOf (.arg 0) .int).before args s = true := hs _ (by decide +kernel)
  have hle : (Cond.le (.length (.arg 0)) (.int 3072)).before args s = true := hs _ (by decide +kernel)
  have hlen : (Cond.isInt (.length (.arg 0))).before args s = true := hq _ (by decide +kernel)
  have hall : (Cond.all (.arg 0) (.isInt (.elem (.arg 0) (.index 0)))).before args s = true := hq _ (by decide +kernel)
  obtain ⟨b, xs, hb, hx⟩ := State.ints_of_pre rfl harr hlen hall
  have hsm : xs.length < 2 ^ 31 := hx.choose_spec.2.2.2
  have hev : (Term.length (.arg 0)).eval args s none [] s = some (.int xs.length.toInt32) := hx.length_eval hb
  have hv := Cond.le_ints hev (show (Term.int 3072).eval args s none [] s = some (.int 3072) from rfl)
  have hd : xs.length.toInt32 ≤ 3072 := by
    simpa [Cond.before, Cond.holds, hv] using hle
  have hN : xs.length ≤ 3072 := (Int32.ofNat_le_ofNat hsm (by decide)).mp (show Int32.ofNat xs.length ≤ Int32.ofNat 3072 from hd)
  exact ⟨b, xs, Cond.one_arg hc (show args[0]? = some (.ref b) from hb), hx, hN, h⟩
theorem lw_comes (l : Launch) (hflags : l.flags = flags0) : Comes l x (Jvm.Cond.code x code maxLocals ret :: tables_1) room_1 (fun tb e args s => Calls_1 tb e args s ∧ rest_1 tb e args s ∧ Pre_1 tb e args s)
    (fun _ _ args s o t => lw_Q args s o t) := by
  intro p e ha hc hk s m args below hf hfit hheap happ hpre
  obtain ⟨b, xs, hP⟩ := lw_pre_spec hpre.2.2 hpre.2.1
  obtain ⟨k, o, h1, h2, h3, hQ⟩ := lw_walk l hflags b xs p e ha hc hk s m args below hf ((Spec.applies_iff_loose hf).mp happ).1 hP trivial
  exact ⟨k, o, h1, h2, h3, hQ⟩
theorem lw_frame {s t : State} {o : Outcome} {args : Array Value} (h : Framed s o t [] 600000 7302250) :
    Framed s o t (fieldLocs frame_1_writes args s ++ arrayLocs frame_1_arrays args s ++ staticLocs frame_1_statics s) 600000 7302250 := h
theorem lw_limb (L : Cond) (hL : ∀ (args : Array Value) (s t : State), L.after args s (.returned (some (.int 1))) t = true) :
    ArmFor flags0 classFile x code maxLocals ret World_1 tables_1 room_1 Calls_1 rest_1 Pre_1
      (fun tb e a s o t => postC L tb e a s o t ∧ Framed s o t (fieldLocs frame_1_writes a s ++ arrayLocs frame_1_arrays a s ++ staticLocs frame_1_statics s) 600000 7302250) := by
  intro l hflags _ _ p e ha hc hk s m args below hf hfit hheap happ hpre
  obtain ⟨k, o, h1, h2, h3, rfl, hF⟩ := lw_comes l hflags p e ha hc hk s m args below hf hfit hheap happ hpre
  exact ⟨k, _, h1, h2, h3, hL args s _, lw_frame hF⟩
theorem i_vc : Claimed_1_1 ∧ Claimed_1_2 := ⟨lw_limb limb_1_1 (fun args s t => by simp [limb_1_1, Cond.after, Cond.holds, Cond.value]), lw_limb limb_1_2 (fun args s t => Cond.after_iff.mpr (by
  first | (rw [show limb_1_2 = Cond.eq .result (.int 1) from rfl, Cond.eq_ints (x := 1) (y := 1) rfl rfl]; simp; done) | (simp [limb_1_2, Cond.value, Term.eval]; done)))⟩

