theorem RActs.pop {I J : Nat → Nat → Int32} {u : Vv} {us : List Vv} (h3 : Chn I 0 us.length u us) (hl : us.length < 16) (e7 : J 17 1 = nI us.length) (e8 : J 18 = I 18) : RActs J u us := ⟨e7, by omega, Chn.eq e8 _ _ _ h3⟩
set_option maxRecDepth 100000 in
set_option maxHeartbeats 400000 in
theorem c_X6_undo {d k : Nat} {I : Nat → Nat → Int32} {Q : Option Int32 → Wd → Prop} {S : Sg} (hk : k = 4 ∨ k = 10) (hr : RepC I S) (h : ∀ I2 k2, RepC I2 (undoS S).2 → FrC I I2 → (k2 = 4 ∨ k2 = 10) → Q (some (undoS S).1) (I2, RR k2)) : Ex (d + 3) 0 0 mX6_undo [.ref 0] 68 (I, RR k) 68 Q := by
  have hC : CRep I 4 (gv S) := hr.2.2.2.2.1.1
  have hV : VOk (gv S) := hr.2.2.2.2.1.2
  obtain ⟨v1, v2, v3, v4⟩ := id hV
  have hW := wv4 k
  obtain ⟨a1, a2, a3⟩ := id hr.2.2.2.2.2.1
  refine ex_intro (L0 := [.ref 0]) (by decide +kernel) rfl rfl (Nat.le_of_ble_eq_true rfl) rfl ?_
  unfold undoS at h
  generalize hus : S.2.2.2.2.2.1 = ac at h a1 a2 a3
  refine g_aload_n (q := 1) dX6_undo_0 rfl rfl ?_
  refine gf_X6_39 (q := 4) rfl (by first | assumption | rfl) (by first | assumption | rfl) dX6_undo_1 rfl ?_
  refine k_X6_187 (q := 7) rfl (Nat.le_of_ble_eq_true rfl) (by first | assumption | rfl) dX6_undo_4 rfl (c_X0_size ?_)
  rw [a1]
  refine g_if_ne (tgt := 13) (q := 10) dX6_undo_7 (by decide) rfl (fun c7 => ?_) (fun c7 => ?_)
  · cases ac with
    | nil => exact absurd rfl c7
    | cons u us =>
      obtain ⟨u', t', ht, hA, hu, h3⟩ := a3
      cases ht
      obtain ⟨x0, x1, x2, x3, x4, g0, g1, g2, g3, g4, hok, rfl⟩ := hA
      rw [Nat.zero_add] at g0 g1 g2 g3 g4
      have hlt : us.length < 16 := by simp at a2; omega
      refine g_aload_n (q := 14) dX6_undo_13 rfl rfl ?_
      refine gf_X6_39 (q := 17) rfl rfl rfl dX6_undo_14 rfl ?_
      refine g_aload_n (q := 18) dX6_undo_17 rfl rfl ?_
      refine gf_X6_25 (q := 21) rfl rfl rfl dX6_undo_18 rfl ?_
      refine k_X6_188 (q := 24) rfl (Nat.le_of_ble_eq_true rfl) rfl dX6_undo_21 rfl ?_
      rcases hok with ⟨rfl, hk1, hk2⟩ | ⟨rfl, hk1, hk2⟩ | ⟨rfl, hk1, hk2⟩ | ⟨rfl, hk1⟩
      · have hk1 : x1 < vna (gv S) := hk1
        refine c_tb_fact hW a1 hlt g0 g1 g2 g3 (by omega) hk2 ?_
        refine g_aload_n (q := 25) dX6_undo_24 rfl rfl ?_
        refine gf_X6_39 (q := 28) rfl rfl rfl dX6_undo_25 rfl ?_
        refine k_X6_187 (q := 31) rfl (Nat.le_of_ble_eq_true rfl) rfl dX6_undo_28 rfl (c_X0_size ?_)
        refine g_iret rfl dX6_undo_31 (Nat.le_refl _) (Nat.le_refl _) ?_
        have ne : ∀ p, p < 4 ∨ 10 ≤ p → p ≠ 17 → (uI (uI I 17 1 (nI us.length)) (4 + 5) (x1 * 6 + x2) (nI x3)) p = I p := fun p h1 h2 => (uI_ne (by omega)).trans (uI_ne h2)
        have e17 : (uI (uI I 17 1 (nI us.length)) (4 + 5) (x1 * 6 + x2) (nI x3)) 17 1 = nI us.length := by simp [uI]
        rw [e17]
        exact h _ k (RepC.wv hr ⟨CRep_setFa (hC.eq (fun i hi => uI_ne (by omega))) hk2, hu⟩ (RActs.pop h3 (by omega) e17 (ne 18 (by omega) (by omega))) (fun p hp => ne p (by omega) (by omega))) (fun p hp => ne p (by omega) (by omega)) hk
      · have hk1 : x1 < vna (gv S) := hk1
        have hk2 : x2 < vna (gv S) := hk2
        refine c_tb_exch hW a1 hlt g0 g1 g2 (by omega) (by omega) ?_
        refine g_aload_n (q := 25) dX6_undo_24 rfl rfl ?_
        refine gf_X6_39 (q := 28) rfl rfl rfl dX6_undo_25 rfl ?_
        refine k_X6_187 (q := 31) rfl (Nat.le_of_ble_eq_true rfl) rfl dX6_undo_28 rfl (c_X0_size ?_)
        refine g_iret rfl dX6_undo_31 (Nat.le_refl _) (Nat.le_refl _) ?_
        have ne : ∀ p, p < 4 ∨ 10 ≤ p → p ≠ 17 → (exP (uI I 17 1 (nI us.length)) 4 x1 x2 6) p = I p := fun p h1 h2 => (by funext j; unfold exP; rw [if_neg (by omega)]; exact congrFun (uI_ne h2) j)
        have e17 : (exP (uI I 17 1 (nI us.length)) 4 x1 x2 6) 17 1 = nI us.length := by simp [exP, uI]
        rw [e17]
        exact h _ k (RepC.wv hr ⟨CRep_exV (hC.eq (fun i hi => uI_ne (by omega))) hk1 hk2, hu⟩ (RActs.pop h3 (by omega) e17 (ne 18 (by omega) (by omega))) (fun p hp => ne p (by omega) (by omega))) (fun p hp => ne p (by omega) (by omega)) hk
      · have hk1 : x1 < vnm (gv S) := hk1
        have hk2 : x2 < vln (gv S) x1 := hk2
        refine c_tb_stat hW a1 hlt g0 g1 g2 g3 g4 (by omega) (by have := (v3 x1 hk1).2.1; omega) ?_
        refine g_aload_n (q := 25) dX6_undo_24 rfl rfl ?_
        refine gf_X6_39 (q := 28) rfl rfl rfl dX6_undo_25 rfl ?_
        refine k_X6_187 (q := 31) rfl (Nat.le_of_ble_eq_true rfl) rfl dX6_undo_28 rfl (c_X0_size ?_)
        refine g_iret rfl dX6_undo_31 (Nat.le_refl _) (Nat.le_refl _) ?_
        have ne : ∀ p, p < 4 ∨ 10 ≤ p → p ≠ 17 → (uI (uI (uI I 17 1 (nI us.length)) (4 + 3) (x1 * 4 + x2) (nI x3)) (4 + 4) (x1 * 4 + x2) (nI x4)) p = I p := fun p h1 h2 => ((uI_ne (by omega)).trans (uI_ne (by omega))).trans (uI_ne h2)
        have e17 : (uI (uI (uI I 17 1 (nI us.length)) (4 + 3) (x1 * 4 + x2) (nI x3)) (4 + 4) (x1 * 4 + x2) (nI x4)) 17 1 = nI us.length := by simp [uI]
        rw [e17]
        exact h _ k (RepC.wv hr ⟨CRep_setSt (hC.eq (fun i hi => uI_ne (by omega))) hV (by have := (v3 x1 hk1).2.1; omega), hu⟩ (RActs.pop h3 (by omega) e17 (ne 18 (by omega) (by omega))) (fun p hp => ne p (by omega) (by omega))) (fun p hp => ne p (by omega) (by omega)) hk
      · have hk1 : x1 < vnm (gv S) := hk1
        refine c_tb_class hW a1 hlt g0 g1 g2 (by omega) ?_
        refine g_aload_n (q := 25) dX6_undo_24 rfl rfl ?_
        refine gf_X6_39 (q := 28) rfl rfl rfl dX6_undo_25 rfl ?_
        refine k_X6_187 (q := 31) rfl (Nat.le_of_ble_eq_true rfl) rfl dX6_undo_28 rfl (c_X0_size ?_)
        refine g_iret rfl dX6_undo_31 (Nat.le_refl _) (Nat.le_refl _) ?_
        have ne : ∀ p, p < 4 ∨ 10 ≤ p → p ≠ 17 → (uI (uI I 17 1 (nI us.length)) (4 + 1) x1 (nI x2)) p = I p := fun p h1 h2 => (uI_ne (by omega)).trans (uI_ne h2)
        have e17 : (uI (uI I 17 1 (nI us.length)) (4 + 1) x1 (nI x2)) 17 1 = nI us.length := by simp [uI]
        rw [e17]
        exact h _ k (RepC.wv hr ⟨CRep_setCl (hC.eq (fun i hi => uI_ne (by omega))), hu⟩ (RActs.pop h3 (by omega) e17 (ne 18 (by omega) (by omega))) (fun p hp => ne p (by omega) (by omega))) (fun p hp => ne p (by omega) (by omega)) hk
  · refine lc_X6_144 (q := 12) rfl dX6_undo_10 rfl ?_
    refine g_iret rfl dX6_undo_12 (Nat.le_refl _) (Nat.le_refl _) ?_
    cases ac with
    | nil => exact h I k hr FrC.rf hk
    | cons u us => exact absurd c7 (nI_ne0 (by simp) (by simp at a2 ⊢; omega))
set_option maxRecDepth 100000 in
set_option maxHeartbeats 400000 in
theorem c_X6_trace {d k : Nat} {I : Nat → Nat → Int32} {Q : Option Int32 → Wd → Prop} {S : Sg} {i : Int32} (hk : k = 4 ∨ k = 10) (hr : RepC I S) (h : ∀ I2 k2, RepC I2 (traceS S i).2 → FrC I I2 → (k2 = 4 ∨ k2 = 10) → Q (some (traceS S i).1) (I2, RR k2)) : Ex (d + 1) 0 0 mX6_trace [.ref 0, .int i] 68 (I, RR k) 68 Q := by
  refine ex_intro (L0 := [.ref 0, .int i]) (by decide +kernel) rfl rfl (Nat.le_of_ble_eq_true rfl) rfl ?_
  refine g_aload_n (q := 1) dX6_trace_0 rfl rfl ?_
  refine gf_X6_55 (q := 4) rfl (by first | assumption | rfl) (by first | assumption | rfl) dX6_trace_1 rfl ?_
  refine g_iload_n (q := 5) dX6_trace_4 rfl rfl ?_
  refine k_X6_271 (q := 8) rfl (Nat.le_of_ble_eq_true rfl) (by first | assumption | rfl) dX6_trace_5 rfl (c_X1_traced hr.2.2.2.2.2.2.2 (fun j hj e => ?_) (fun z => ?_))
  · subst e
    have hl := hr.2.2.2.2.2.2.2.2.2
    refine g_iret rfl dX6_trace_8 (Nat.le_refl _) (Nat.le_refl _) ?_
    rw [traceS, if_pos ⟨nI_pos' (by omega), nI_lt hj (by omega)⟩, nI_clamp (by omega)] at h
    exact h I k hr FrC.rf hk
  · refine g_iret rfl dX6_trace_8 (Nat.le_refl _) (Nat.le_refl _) ?_
    rw [traceS, if_neg (fun y => z.elim (fun q => absurd q (Int32.not_lt.mpr y.1)) (fun q => absurd y.2 (Int32.not_lt.mpr q)))] at h
    exact h I k hr FrC.rf hk
set_option maxRecDepth 100000 in
set_option maxHeartbeats 400000 in
theorem c_X6_as {d k : Nat} {I : Nat → Nat → Int32} {Q : Option Int32 → Wd → Prop} {S : Sg} {a x : Int32} (hk : k = 4 ∨ k = 10) (hr : RepC I S) (h : ∀ I2 k2, RepC I2 (asS S a x).2 → FrC I I2 → (k2 = 4 ∨ k2 = 10) → Q (some (asS S a x).1) (I2, RR k2)) : Ex (d + 2) 0 0 mX6_as [.ref 0, .int a, .int x] 68 (I, RR k) 68 Q := by
  have hC : CRep I 4 (gv S) := hr.2.2.2.2.1.1
  have hV : VOk (gv S) := hr.2.2.2.2.1.2
  obtain ⟨v1, v2, v3, v4⟩ := id hV
  have hW := wv4 k
  refine ex_intro (L0 := [.ref 0, .int a, .int x, .null]) (by decide +kernel) rfl rfl (Nat.le_of_ble_eq_true rfl) rfl ?_
  refine g_aload_n (q := 1) dX6_as_0 rfl rfl ?_
  refine g_iload_n (q := 2) dX6_as_1 rfl rfl ?_
  refine k_X6_134 (q := 5) rfl (Nat.le_of_ble_eq_true rfl) (by first | assumption | rfl) dX6_as_2 rfl (c_X6_isAdvice hC (fun z2 => ?_) (fun z2 => ?_))
  · refine g_if_eq (tgt := 17) (q := 8) dX6_as_5 (by decide) rfl (fun c5 => absurd c5 (by decide)) (fun _ => ?_)
    refine g_iload_n (q := 9) dX6_as_8 rfl rfl ?_
    refine g_iconst (q := 10) (v := nI 0) dX6_as_9 rfl (by decide) ?_
    refine g_iconst (q := 11) (v := nI 5) dX6_as_10 rfl (by decide) ?_
    refine k_X6_71 (q := 14) rfl (Nat.le_of_ble_eq_true rfl) dX6_as_11 rfl (c_X6_isWithin (fun z111 z112 => ?_) (fun z11 => ?_))
    · have z11 := And.intro z111 z112
      refine g_if_ne (tgt := 20) (q := 17) dX6_as_14 (by decide) rfl (fun _ => ?_) (fun c14 => absurd c14 (by decide))
      have y2 := z2
      have y11 := z11
      obtain ⟨a, ha, rfl⟩ := in1_nat (by omega) z2
      obtain ⟨x, hx, rfl⟩ := inR_nat (by decide) z11
      obtain ⟨w1, w2, w3, w4, w5, w6, w7, w8⟩ := v4 a ha
      have hki := kinds_is _ w8 w7 x hx
      refine gs_X6_261 (q := 23) rfl dX6_as_20 rfl ?_
      refine g_aload_n (q := 24) dX6_as_23 rfl rfl ?_
      refine gf_X6_25 (q := 27) rfl (by first | assumption | rfl) (by first | assumption | rfl) dX6_as_24 rfl ?_
      refine g_iload_n (q := 28) dX6_as_27 rfl rfl ?_
      refine g_iconst (q := 29) (v := nI 5) dX6_as_28 rfl (by decide) ?_
      refine k_X6_141 (q := 32) rfl (Nat.le_of_ble_eq_true rfl) (by first | assumption | rfl) dX6_as_29 rfl (c_X5_fact hW (by omega) (by omega) ?_)
      rw [hC.2.2.2 a ha 5 (by omega)]
      refine g_tald (i := 1) (q := 33) (by decide) (nI_in w8 (by decide)) dX6_as_32 rfl ?_
      rw [nI_clamp (by omega), (kinds_ok _ w8).1]
      refine g_istore_n (q := 34) dX6_as_33 rfl (by decide) rfl rfl ?_
      refine g_iload_n (q := 35) dX6_as_34 rfl rfl ?_
      refine g_iload_n (q := 36) dX6_as_35 rfl rfl ?_
      refine k_X6_265 (q := 39) rfl (Nat.le_of_ble_eq_true rfl) dX6_as_36 rfl (c_X6_hasBit (kinds_ok _ w8).2 (by omega) (fun z36 => ?_) (fun z36 => ?_))
      · refine g_if_eq (tgt := 50) (q := 42) dX6_as_39 (by decide) rfl (fun c39 => absurd c39 (by decide)) (fun _ => ?_)
        refine g_aload_n (q := 43) dX6_as_42 rfl rfl ?_
        refine g_iload_n (q := 44) dX6_as_43 rfl rfl ?_
        refine k_X6_84 (q := 47) rfl (Nat.le_of_ble_eq_true rfl) (by first | assumption | rfl) dX6_as_44 rfl (c_X6_findNothing ?_)
        refine g_goto (q := 55) dX6_as_47 (by decide) ?_
        refine g_iret rfl dX6_as_55 (Nat.le_refl _) (Nat.le_refl _) ?_
        rw [asS, if_pos y2, if_pos y11, nI_clamp (by omega), nI_clamp (by omega), if_pos (by rw [← hki]; exact z36)] at h
        exact h _ k (hr.fnd (by decide)) (FrC.ui (by decide)) hk
      · refine g_if_eq (tgt := 50) (q := 42) dX6_as_39 (by decide) rfl (fun _ => ?_) (fun c39 => absurd c39 (by decide))
        refine g_aload_n (q := 51) dX6_as_50 rfl rfl ?_
        refine g_iconst (q := 52) (v := nI 3) dX6_as_51 rfl (by decide) ?_
        refine k_X6_76 (q := 55) rfl (Nat.le_of_ble_eq_true rfl) (by first | assumption | rfl) dX6_as_52 rfl (c_X6_find ?_)
        refine g_iret rfl dX6_as_55 (Nat.le_refl _) (Nat.le_refl _) ?_
        rw [asS, if_pos y2, if_pos y11, nI_clamp (by omega), nI_clamp (by omega), if_neg (by rw [← hki, z36]; decide)] at h
        exact h _ k (hr.fnd (by decide)) (FrC.ui (by decide)) hk
    · refine g_if_ne (tgt := 20) (q := 17) dX6_as_14 (by decide) rfl (fun c14 => absurd c14 (by decide)) (fun _ => ?_)
      refine lc_X6_75 (q := 19) rfl dX6_as_17 rfl ?_
      refine g_iret rfl dX6_as_19 (Nat.le_refl _) (Nat.le_refl _) ?_
      rw [asS, if_pos z2, if_neg z11] at h
      exact h I k hr FrC.rf hk
  · refine g_if_eq (tgt := 17) (q := 8) dX6_as_5 (by decide) rfl (fun _ => ?_) (fun c5 => absurd c5 (by decide))
    refine lc_X6_75 (q := 19) rfl dX6_as_17 rfl ?_
    refine g_iret rfl dX6_as_19 (Nat.le_refl _) (Nat.le_refl _) ?_
    rw [asS, if_neg z2] at h
    exact h I k hr FrC.rf hk
set_option maxRecDepth 100000 in
set_option maxHeartbeats 400000 in
theorem c_X6_ask {d k : Nat} {I : Nat → Nat → Int32} {Q : Option Int32 → Wd → Prop} {S : Sg} {a x : Int32} (hk : k = 4 ∨ k = 10) (hr : RepC I S) (h : ∀ I2 k2, RepC I2 (askS S a x).2 → FrC I I2 → (k2 = 4 ∨ k2 = 10) → Q (some (askS S a x).1) (I2, RR k2)) : Ex (d + 14) 0 0 mX6_ask [.ref 0, .int a, .int x] 68 (I, RR k) 68 Q := by
  have hC : CRep I 4 (gv S) := hr.2.2.2.2.1.1
  have hV : VOk (gv S) := hr.2.2.2.2.1.2
  obtain ⟨v1, v2, v3, v4⟩ := id hV
  have hW := wv4 k
  refine ex_intro (L0 := [.ref 0, .int a, .int x]) (by decide +kernel) rfl rfl (Nat.le_of_ble_eq_true rfl) rfl ?_
  refine g_aload_n (q := 1) dX6_ask_0 rfl rfl ?_
  refine g_iload_n (q := 2) dX6_ask_1 rfl rfl ?_
  refine k_X6_134 (q := 5) rfl (Nat.le_of_ble_eq_true rfl) (by first | assumption | rfl) dX6_ask_2 rfl (c_X6_isAdvice hC (fun z2 => ?_) (fun z2 => ?_))
  · refine g_if_eq (tgt := 17) (q := 8) dX6_ask_5 (by decide) rfl (fun c5 => absurd c5 (by decide)) (fun _ => ?_)
    refine g_iload_n (q := 9) dX6_ask_8 rfl rfl ?_
    refine g_iconst (q := 10) (v := nI 0) dX6_ask_9 rfl (by decide) ?_
    refine g_iconst (q := 11) (v := nI 1) dX6_ask_10 rfl (by decide) ?_
    refine k_X6_71 (q := 14) rfl (Nat.le_of_ble_eq_true rfl) dX6_ask_11 rfl (c_X6_isWithin (fun z111 z112 => ?_) (fun z11 => ?_))
    · have z11 := And.intro z111 z112
      refine g_if_ne (tgt := 20) (q := 17) dX6_ask_14 (by decide) rfl (fun _ => ?_) (fun c14 => absurd c14 (by decide))
      have y2 := z2
      have y11 := z11
      obtain ⟨a, ha, rfl⟩ := in1_nat (by omega) z2
      obtain ⟨x, hx, rfl⟩ := inR_nat (by decide) z11
      refine g_aload_n (q := 21) dX6_ask_20 rfl rfl ?_
      refine gf_X6_55 (q := 24) rfl (by first | assumption | rfl) (by first | assumption | rfl) dX6_ask_21 rfl ?_
      refine g_iload_n (q := 25) dX6_ask_24 rfl rfl ?_
      refine g_iload_n (q := 26) dX6_ask_25 rfl rfl ?_
      refine k_X6_268 (q := 29) rfl (Nat.le_of_ble_eq_true rfl) (by first | assumption | rfl) dX6_ask_26 rfl (?_)
      have hx2 : x = 0 ∨ x = 1 := by omega
      have hFC : ∀ J, Fr [22, 23] I J → FrC I J := fun J hF => FrC.of hF (by intro p hp; simp only [List.mem_cons, List.not_mem_nil, or_false] at hp; omega)
      rcases hx2 with rfl | rfl
      · refine c_ans0 hC hV ha (fun I2 hF hA => ?_)
        refine g_iret rfl dX6_ask_29 (Nat.le_refl _) (Nat.le_refl _) ?_
        rw [askS, if_pos y2, if_pos y11, if_pos (show nI 0 = 0 from rfl), nI_clamp (by omega)] at h
        exact h I2 k (hr.trc hF hA) (hFC I2 hF) hk
      · refine c_ans1 hC hV ha (fun I2 hF hA => ?_)
        refine g_iret rfl dX6_ask_29 (Nat.le_refl _) (Nat.le_refl _) ?_
        rw [askS, if_pos y2, if_pos y11, if_neg (by decide), nI_clamp (by omega)] at h
        exact h I2 k (hr.trc hF hA) (hFC I2 hF) hk
    · refine g_if_ne (tgt := 20) (q := 17) dX6_ask_14 (by decide) rfl (fun c14 => absurd c14 (by decide)) (fun _ => ?_)
      refine lc_X6_75 (q := 19) rfl dX6_ask_17 rfl ?_
      refine g_iret rfl dX6_ask_19 (Nat.le_refl _) (Nat.le_refl _) ?_
      rw [askS, if_pos z2, if_neg z11] at h
      exact h I k hr FrC.rf hk
  · refine g_if_eq (tgt := 17) (q := 8) dX6_ask_5 (by decide) rfl (fun _ => ?_) (fun c5 => absurd c5 (by decide))
    refine lc_X6_75 (q := 19) rfl dX6_ask_17 rfl ?_
    refine g_iret rfl dX6_ask_19 (Nat.le_refl _) (Nat.le_refl _) ?_
    rw [askS, if_neg z2] at h
    exact h I k hr FrC.rf hk
