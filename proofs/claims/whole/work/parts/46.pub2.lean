theorem RepC.wv {I J : Nat → Nat → Int32} {S : Sg} {u : Vv} {us : List Vv} (h : RepC I S) (hv : CRep J 4 u ∧ VOk u) (ha : RActs J u us) (e : ∀ p, p < 4 ∨ (10 ≤ p ∧ p < 17) ∨ 19 ≤ p → J p = I p) : RepC J (S.1, S.2.1, S.2.2.1, S.2.2.2.1, u, us, S.2.2.2.2.2.2) := by
  obtain ⟨h1, h2, h3, h4, h5, h6, h7, h8⟩ := h
  have e0 := e 0 (by omega)
  exact ⟨h1.eq (fun p _ _ => e p (by omega)), by rw [e0]; exact h2, h3.eq (e 2 (by omega)) (e 3 (by omega)), by rw [e0]; exact h4, hv, ha, h7.eq (fun p _ _ => e p (by omega)), h8.eq (e 22 (by omega)) (e 23 (by omega))⟩
theorem CRep_tkI {I : Nat → Nat → Int32} {b p : Nat} {v : Vv} (h : CRep I p v) (hV : VOk v) (hbp : b + 6 ≤ p ∨ p + 6 ≤ b) : CRep (tkI I b p) b v := by
  obtain ⟨h1, h2, h3, h4⟩ := h
  obtain ⟨v1, v2, v3, v4⟩ := hV
  refine ⟨by simp [tkI, uI]; exact h1, by simp [tkI, uI]; exact h2, fun m hm => ?_, fun a ha f hf => ?_⟩
  · obtain ⟨e1, e2, e3⟩ := h3 m hm
    obtain ⟨u1, u2, u3⟩ := v3 m hm
    have m6 : m < 6 := by omega
    refine ⟨by simp [tkI, uI, uA, va_cpy, m6]; exact e1, by simp [tkI, uI, uA, va_cpy, m6]; exact e2, fun i hi => ?_⟩
    have m24 : m * 4 + i < 24 := by omega
    exact ⟨by simp [tkI, uI, uA, va_cpy, m24]; exact (e3 i hi).1, by simp [tkI, uI, uA, va_cpy, m24]; exact (e3 i hi).2⟩
  · have a30 : a * 6 + f < 30 := by omega
    simp [tkI, uI, uA, va_cpy, a30]
    exact h4 a ha f hf
theorem tkI_ne {I : Nat → Nat → Int32} {b p q : Nat} (h : q < b ∨ b + 5 < q) : tkI I b p q = I q := by
  have n0 : q ≠ b := by omega
  have n1 : q ≠ b + 1 := by omega
  have n2 : q ≠ b + 2 := by omega
  have n3 : q ≠ b + 3 := by omega
  have n4 : q ≠ b + 4 := by omega
  have n5 : q ≠ b + 5 := by omega
  funext j
  simp [tkI, uI, uA, n0, n1, n2, n3, n4, n5]

set_option maxRecDepth 100000 in
set_option maxHeartbeats 400000 in
theorem c_X6_isMethod {d k : Nat} {I : Nat → Nat → Int32} {Q : Option Int32 → Wd → Prop} {x : Int32} {v : Vv} (hC : CRep I 4 v) (h1 : inM v x → Q (some (nI 1)) (I, RR k)) (h0 : ¬ inM v x → Q (some (nI 0)) (I, RR k)) : Ex (d + 1) 0 0 mX6_isMethod [.ref 0, .int x] 68 (I, RR k) 68 Q := by
  have hW := wv4 k
  refine ex_intro (L0 := [.ref 0, .int x]) (by decide +kernel) rfl rfl (Nat.le_of_ble_eq_true rfl) rfl ?_
  refine g_iload_n (q := 1) dX6_isMethod_0 rfl rfl ?_
  refine g_iconst (q := 2) (v := nI 0) dX6_isMethod_1 rfl (by decide) ?_
  refine g_aload_n (q := 3) dX6_isMethod_2 rfl rfl ?_
  refine gf_X6_25 (q := 6) rfl (by first | assumption | rfl) (by first | assumption | rfl) dX6_isMethod_3 rfl ?_
  refine k_X6_131 (q := 9) rfl (Nat.le_of_ble_eq_true rfl) (by first | assumption | rfl) dX6_isMethod_6 rfl (c_X5_methods hW ?_)
  rw [hC.1]
  refine g_iconst (q := 10) (v := nI 1) dX6_isMethod_9 rfl (by decide) ?_
  refine g_isub (q := 11) dX6_isMethod_10 rfl ?_
  refine k_X6_71 (q := 14) rfl (Nat.le_of_ble_eq_true rfl) dX6_isMethod_11 rfl (c_X6_isWithin (fun z111 z112 => ?_) (fun z11 => ?_))
  · have z11 := And.intro z111 z112
    refine g_zret rfl (by decide) dX6_isMethod_14 (Nat.le_refl _) (Nat.le_refl _) ?_
    exact h1 z11
  · refine g_zret rfl (by decide) dX6_isMethod_14 (Nat.le_refl _) (Nat.le_refl _) ?_
    exact h0 z11
set_option maxRecDepth 100000 in
set_option maxHeartbeats 400000 in
theorem c_X6_isAdvice {d k : Nat} {I : Nat → Nat → Int32} {Q : Option Int32 → Wd → Prop} {x : Int32} {v : Vv} (hC : CRep I 4 v) (h1 : inA v x → Q (some (nI 1)) (I, RR k)) (h0 : ¬ inA v x → Q (some (nI 0)) (I, RR k)) : Ex (d + 1) 0 0 mX6_isAdvice [.ref 0, .int x] 68 (I, RR k) 68 Q := by
  have hW := wv4 k
  refine ex_intro (L0 := [.ref 0, .int x]) (by decide +kernel) rfl rfl (Nat.le_of_ble_eq_true rfl) rfl ?_
  refine g_iload_n (q := 1) dX6_isAdvice_0 rfl rfl ?_
  refine g_iconst (q := 2) (v := nI 0) dX6_isAdvice_1 rfl (by decide) ?_
  refine g_aload_n (q := 3) dX6_isAdvice_2 rfl rfl ?_
  refine gf_X6_25 (q := 6) rfl (by first | assumption | rfl) (by first | assumption | rfl) dX6_isAdvice_3 rfl ?_
  refine k_X6_229 (q := 9) rfl (Nat.le_of_ble_eq_true rfl) (by first | assumption | rfl) dX6_isAdvice_6 rfl (c_X5_adviceCount hW ?_)
  rw [hC.2.1]
  refine g_iconst (q := 10) (v := nI 1) dX6_isAdvice_9 rfl (by decide) ?_
  refine g_isub (q := 11) dX6_isAdvice_10 rfl ?_
  refine k_X6_71 (q := 14) rfl (Nat.le_of_ble_eq_true rfl) dX6_isAdvice_11 rfl (c_X6_isWithin (fun z111 z112 => ?_) (fun z11 => ?_))
  · have z11 := And.intro z111 z112
    refine g_zret rfl (by decide) dX6_isAdvice_14 (Nat.le_refl _) (Nat.le_refl _) ?_
    exact h1 z11
  · refine g_zret rfl (by decide) dX6_isAdvice_14 (Nat.le_refl _) (Nat.le_refl _) ?_
    exact h0 z11
set_option maxRecDepth 100000 in
set_option maxHeartbeats 400000 in
theorem c_X6_kind {d k : Nat} {I : Nat → Nat → Int32} {Q : Option Int32 → Wd → Prop} {S : Sg} {a : Int32} (hk : k = 4 ∨ k = 10) (hr : RepC I S) (h : ∀ I2 k2, RepC I2 (kindS S a).2 → FrC I I2 → (k2 = 4 ∨ k2 = 10) → Q (some (kindS S a).1) (I2, RR k2)) : Ex (d + 2) 0 0 mX6_kind [.ref 0, .int a] 68 (I, RR k) 68 Q := by
  have hC : CRep I 4 (gv S) := hr.2.2.2.2.1.1
  have hV : VOk (gv S) := hr.2.2.2.2.1.2
  obtain ⟨v1, v2, v3, v4⟩ := id hV
  have hW := wv4 k
  refine ex_intro (L0 := [.ref 0, .int a]) (by decide +kernel) rfl rfl (Nat.le_of_ble_eq_true rfl) rfl ?_
  refine g_aload_n (q := 1) dX6_kind_0 rfl rfl ?_
  refine g_iload_n (q := 2) dX6_kind_1 rfl rfl ?_
  refine k_X6_134 (q := 5) rfl (Nat.le_of_ble_eq_true rfl) (by first | assumption | rfl) dX6_kind_2 rfl (c_X6_isAdvice hC (fun z2 => ?_) (fun z2 => ?_))
  · refine g_if_eq (tgt := 20) (q := 8) dX6_kind_5 (by decide) rfl (fun c5 => absurd c5 (by decide)) (fun _ => ?_)
    have y2 := z2
    obtain ⟨a, ha, rfl⟩ := in1_nat (by omega) z2
    refine g_aload_n (q := 9) dX6_kind_8 rfl rfl ?_
    refine gf_X6_25 (q := 12) rfl (by first | assumption | rfl) (by first | assumption | rfl) dX6_kind_9 rfl ?_
    refine g_iload_n (q := 13) dX6_kind_12 rfl rfl ?_
    refine g_iconst (q := 14) (v := nI 5) dX6_kind_13 rfl (by decide) ?_
    refine k_X6_141 (q := 17) rfl (Nat.le_of_ble_eq_true rfl) (by first | assumption | rfl) dX6_kind_14 rfl (c_X5_fact hW (by omega) (by omega) ?_)
    rw [hC.2.2.2 a ha 5 (by omega)]
    refine g_goto (q := 22) dX6_kind_17 (by decide) ?_
    refine g_iret rfl dX6_kind_22 (Nat.le_refl _) (Nat.le_refl _) ?_
    rw [kindS, if_pos y2, nI_clamp (by omega)] at h
    exact h I k hr FrC.rf hk
  · refine g_if_eq (tgt := 20) (q := 8) dX6_kind_5 (by decide) rfl (fun _ => ?_) (fun c5 => absurd c5 (by decide))
    refine lc_X6_75 (q := 22) rfl dX6_kind_20 rfl ?_
    refine g_iret rfl dX6_kind_22 (Nat.le_refl _) (Nat.le_refl _) ?_
    rw [kindS, if_neg z2] at h
    exact h I k hr FrC.rf hk
set_option maxRecDepth 100000 in
set_option maxHeartbeats 400000 in
theorem c_X6_advice {d k : Nat} {I : Nat → Nat → Int32} {Q : Option Int32 → Wd → Prop} {S : Sg} {a w : Int32} (hk : k = 4 ∨ k = 10) (hr : RepC I S) (h : ∀ I2 k2, RepC I2 (adviceS S a w).2 → FrC I I2 → (k2 = 4 ∨ k2 = 10) → Q (some (adviceS S a w).1) (I2, RR k2)) : Ex (d + 2) 0 0 mX6_advice [.ref 0, .int a, .int w] 68 (I, RR k) 68 Q := by
  have hC : CRep I 4 (gv S) := hr.2.2.2.2.1.1
  have hV : VOk (gv S) := hr.2.2.2.2.1.2
  obtain ⟨v1, v2, v3, v4⟩ := id hV
  have hW := wv4 k
  refine ex_intro (L0 := [.ref 0, .int a, .int w]) (by decide +kernel) rfl rfl (Nat.le_of_ble_eq_true rfl) rfl ?_
  refine g_aload_n (q := 1) dX6_advice_0 rfl rfl ?_
  refine g_iload_n (q := 2) dX6_advice_1 rfl rfl ?_
  refine k_X6_134 (q := 5) rfl (Nat.le_of_ble_eq_true rfl) (by first | assumption | rfl) dX6_advice_2 rfl (c_X6_isAdvice hC (fun z2 => ?_) (fun z2 => ?_))
  · refine g_if_eq (tgt := 17) (q := 8) dX6_advice_5 (by decide) rfl (fun c5 => absurd c5 (by decide)) (fun _ => ?_)
    refine g_iload_n (q := 9) dX6_advice_8 rfl rfl ?_
    refine g_iconst (q := 10) (v := nI 0) dX6_advice_9 rfl (by decide) ?_
    refine g_iconst (q := 11) (v := nI 4) dX6_advice_10 rfl (by decide) ?_
    refine k_X6_71 (q := 14) rfl (Nat.le_of_ble_eq_true rfl) dX6_advice_11 rfl (c_X6_isWithin (fun z111 z112 => ?_) (fun z11 => ?_))
    · have z11 := And.intro z111 z112
      refine g_if_ne (tgt := 20) (q := 17) dX6_advice_14 (by decide) rfl (fun _ => ?_) (fun c14 => absurd c14 (by decide))
      have y2 := z2
      have y11 := z11
      obtain ⟨a, ha, rfl⟩ := in1_nat (by omega) z2
      obtain ⟨w, hw, rfl⟩ := inR_nat (by decide) z11
      refine g_aload_n (q := 21) dX6_advice_20 rfl rfl ?_
      refine gf_X6_25 (q := 24) rfl (by first | assumption | rfl) (by first | assumption | rfl) dX6_advice_21 rfl ?_
      refine g_iload_n (q := 25) dX6_advice_24 rfl rfl ?_
      refine g_iload_n (q := 26) dX6_advice_25 rfl rfl ?_
      refine k_X6_141 (q := 29) rfl (Nat.le_of_ble_eq_true rfl) (by first | assumption | rfl) dX6_advice_26 rfl (c_X5_fact hW (by omega) (by omega) ?_)
      rw [hC.2.2.2 a ha w (by omega)]
      refine g_iret rfl dX6_advice_29 (Nat.le_refl _) (Nat.le_refl _) ?_
      rw [adviceS, if_pos y2, if_pos y11, nI_clamp (by omega), nI_clamp (by omega)] at h
      exact h I k hr FrC.rf hk
    · refine g_if_ne (tgt := 20) (q := 17) dX6_advice_14 (by decide) rfl (fun c14 => absurd c14 (by decide)) (fun _ => ?_)
      refine lc_X6_75 (q := 19) rfl dX6_advice_17 rfl ?_
      refine g_iret rfl dX6_advice_19 (Nat.le_refl _) (Nat.le_refl _) ?_
      rw [adviceS, if_pos z2, if_neg z11] at h
      exact h I k hr FrC.rf hk
  · refine g_if_eq (tgt := 17) (q := 8) dX6_advice_5 (by decide) rfl (fun _ => ?_) (fun c5 => absurd c5 (by decide))
    refine lc_X6_75 (q := 19) rfl dX6_advice_17 rfl ?_
    refine g_iret rfl dX6_advice_19 (Nat.le_refl _) (Nat.le_refl _) ?_
    rw [adviceS, if_neg z2] at h
    exact h I k hr FrC.rf hk
set_option maxRecDepth 100000 in
set_option maxHeartbeats 400000 in
theorem c_X6_ahead {d k : Nat} {I : Nat → Nat → Int32} {Q : Option Int32 → Wd → Prop} {S : Sg} {m a : Int32} (hk : k = 4 ∨ k = 10) (hr : RepC I S) (h : ∀ I2 k2, RepC I2 (aheadS S m a).2 → FrC I I2 → (k2 = 4 ∨ k2 = 10) → Q (some (aheadS S m a).1) (I2, RR k2)) : Ex (d + 6) 0 0 mX6_ahead [.ref 0, .int m, .int a] 68 (I, RR k) 68 Q := by
  have hC : CRep I 4 (gv S) := hr.2.2.2.2.1.1
  have hV : VOk (gv S) := hr.2.2.2.2.1.2
  obtain ⟨v1, v2, v3, v4⟩ := id hV
  have hW := wv4 k
  refine ex_intro (L0 := [.ref 0, .int m, .int a]) (by decide +kernel) rfl rfl (Nat.le_of_ble_eq_true rfl) rfl ?_
  refine g_aload_n (q := 1) dX6_ahead_0 rfl rfl ?_
  refine g_iload_n (q := 2) dX6_ahead_1 rfl rfl ?_
  refine k_X6_156 (q := 5) rfl (Nat.le_of_ble_eq_true rfl) (by first | assumption | rfl) dX6_ahead_2 rfl (c_X6_isMethod hC (fun z2 => ?_) (fun z2 => ?_))
  · refine g_if_eq (tgt := 16) (q := 8) dX6_ahead_5 (by decide) rfl (fun c5 => absurd c5 (by decide)) (fun _ => ?_)
    refine g_aload_n (q := 9) dX6_ahead_8 rfl rfl ?_
    refine g_iload_n (q := 10) dX6_ahead_9 rfl rfl ?_
    refine k_X6_134 (q := 13) rfl (Nat.le_of_ble_eq_true rfl) (by first | assumption | rfl) dX6_ahead_10 rfl (c_X6_isAdvice hC (fun z10 => ?_) (fun z10 => ?_))
    · refine g_if_ne (tgt := 19) (q := 16) dX6_ahead_13 (by decide) rfl (fun _ => ?_) (fun c13 => absurd c13 (by decide))
      have y2 := z2
      have y10 := z10
      obtain ⟨m, hm, rfl⟩ := in1_nat (by omega) z2
      obtain ⟨a, ha, rfl⟩ := in1_nat (by omega) z10
      refine g_aload_n (q := 20) dX6_ahead_19 rfl rfl ?_
      refine gf_X6_25 (q := 23) rfl (by first | assumption | rfl) (by first | assumption | rfl) dX6_ahead_20 rfl ?_
      refine g_iload_n (q := 24) dX6_ahead_23 rfl rfl ?_
      refine g_iload_n (q := 25) dX6_ahead_24 rfl rfl ?_
      refine k_X6_197 (q := 28) rfl (Nat.le_of_ble_eq_true rfl) (by first | assumption | rfl) dX6_ahead_25 rfl (c_X5_known hW hC hV hm ha ?_)
      refine g_iret rfl dX6_ahead_28 (Nat.le_refl _) (Nat.le_refl _) ?_
      rw [aheadS, if_pos y2, if_pos y10, nI_clamp (by omega), nI_clamp (by omega)] at h
      exact h I k hr FrC.rf hk
    · refine g_if_ne (tgt := 19) (q := 16) dX6_ahead_13 (by decide) rfl (fun c13 => absurd c13 (by decide)) (fun _ => ?_)
      refine lc_X6_75 (q := 18) rfl dX6_ahead_16 rfl ?_
      refine g_iret rfl dX6_ahead_18 (Nat.le_refl _) (Nat.le_refl _) ?_
      rw [aheadS, if_pos z2, if_neg z10] at h
      exact h I k hr FrC.rf hk
  · refine g_if_eq (tgt := 16) (q := 8) dX6_ahead_5 (by decide) rfl (fun _ => ?_) (fun c5 => absurd c5 (by decide))
    refine lc_X6_75 (q := 18) rfl dX6_ahead_16 rfl ?_
    refine g_iret rfl dX6_ahead_18 (Nat.le_refl _) (Nat.le_refl _) ?_
    rw [aheadS, if_neg z2] at h
    exact h I k hr FrC.rf hk
set_option maxRecDepth 100000 in
set_option maxHeartbeats 400000 in
theorem c_X6_changeFact {d k : Nat} {I : Nat → Nat → Int32} {Q : Option Int32 → Wd → Prop} {S : Sg} {a f x : Nat} (hk : k = 4 ∨ k = 10) (hr : RepC I S) (ha : a < vna (gv S)) (hf : f < 6) (hx : fok f x) (h : ∀ I2, RepC I2 (chS S a f x).2 → FrC I I2 → Q (some (chS S a f x).1) (I2, RR k)) : Ex (d + 3) 0 0 mX6_changeFact [.ref 0, .int (nI a), .int (nI f), .int (nI x)] 68 (I, RR k) 68 Q := by
  have hC : CRep I 4 (gv S) := hr.2.2.2.2.1.1
  have hV : VOk (gv S) := hr.2.2.2.2.1.2
  obtain ⟨v1, v2, v3, v4⟩ := id hV
  have hW := wv4 k
  have hef := hC.2.2.2 a ha f hf
  obtain ⟨a1, a2, a3⟩ := id hr.2.2.2.2.2.1
  refine ex_intro (L0 := [.ref 0, .int (nI a), .int (nI f), .int (nI x), .null]) (by decide +kernel) rfl rfl (Nat.le_of_ble_eq_true rfl) rfl ?_
  refine g_aload_n (q := 1) dX6_changeFact_0 rfl rfl ?_
  refine gf_X6_25 (q := 4) rfl (by first | assumption | rfl) (by first | assumption | rfl) dX6_changeFact_1 rfl ?_
  refine g_iload_n (q := 5) dX6_changeFact_4 rfl rfl ?_
  refine g_iload_n (q := 6) dX6_changeFact_5 rfl rfl ?_
  refine k_X6_141 (q := 9) rfl (Nat.le_of_ble_eq_true rfl) (by first | assumption | rfl) dX6_changeFact_6 rfl (c_X5_fact hW (by omega) (by omega) ?_)
  rw [hef]
  refine g_istore (q := 11) dX6_changeFact_9 rfl (by decide) rfl rfl ?_
  refine g_aload_n (q := 12) dX6_changeFact_11 rfl rfl ?_
  refine gf_X6_39 (q := 15) rfl (by first | assumption | rfl) (by first | assumption | rfl) dX6_changeFact_12 rfl ?_
  refine g_iload_n (q := 16) dX6_changeFact_15 rfl rfl ?_
  refine g_iload_n (q := 17) dX6_changeFact_16 rfl rfl ?_
  refine g_iload (q := 19) dX6_changeFact_17 rfl rfl ?_
  refine k_X6_281 (q := 22) rfl (Nat.le_of_ble_eq_true rfl) (by first | assumption | rfl) dX6_changeFact_19 rfl (c_X0_keepFact a1 a2 ?_)
  refine g_aload_n (q := 23) dX6_changeFact_22 rfl rfl ?_
  refine gf_X6_25 (q := 26) rfl (by first | assumption | rfl) (by first | assumption | rfl) dX6_changeFact_23 rfl ?_
  refine g_iload_n (q := 27) dX6_changeFact_26 rfl rfl ?_
  refine g_iload_n (q := 28) dX6_changeFact_27 rfl rfl ?_
  refine g_iload_n (q := 29) dX6_changeFact_28 rfl rfl ?_
  refine k_X6_232 (q := 32) rfl (Nat.le_of_ble_eq_true rfl) (by first | assumption | rfl) dX6_changeFact_29 rfl (c_X5_putFact hW (by omega) (by omega) ?_)
  refine g_iload (q := 34) dX6_changeFact_32 rfl rfl ?_
  refine g_iret rfl dX6_changeFact_34 (Nat.le_refl _) (Nat.le_refl _) ?_
  refine h _ (RepC.act hr ⟨CRep_setFa (hC.eq (fun i hi => acK_ne (by omega) (by omega))) hf, VOk_setFa hV hx⟩ ?_ (fun p hp => (uI_ne (by omega)).trans (acK_ne (by omega) (by omega)))) (FrC.tr (fun p hp => acK_ne (by omega) (by omega)) (FrC.ui (by decide)))
  refine (RActs.push (w := setFa (gv S) a f x) hr.2.2.2.2.2.1 hV (x0 := 0) (x1 := a) (x2 := f) (x3 := vfa (gv S) a f) (x4 := 0) (Or.inl ⟨rfl, ha, hf⟩) ?_).eq (uI_ne (show 17 ≠ 4 + 5 by decide)) (uI_ne (show 18 ≠ 4 + 5 by decide))
  exact (setFa_back (gv S) a f x).symm
set_option maxRecDepth 100000 in
set_option maxHeartbeats 400000 in
theorem c_X6_change {d k : Nat} {I : Nat → Nat → Int32} {Q : Option Int32 → Wd → Prop} {S : Sg} {a w x : Int32} (hk : k = 4 ∨ k = 10) (hr : RepC I S) (h : ∀ I2 k2, RepC I2 (changeS S a w x).2 → FrC I I2 → (k2 = 4 ∨ k2 = 10) → Q (some (changeS S a w x).1) (I2, RR k2)) : Ex (d + 4) 0 0 mX6_change [.ref 0, .int a, .int w, .int x] 68 (I, RR k) 68 Q := by
  have hC : CRep I 4 (gv S) := hr.2.2.2.2.1.1
  have hV : VOk (gv S) := hr.2.2.2.2.1.2
  obtain ⟨v1, v2, v3, v4⟩ := id hV
  have hW := wv4 k
  refine ex_intro (L0 := [.ref 0, .int a, .int w, .int x]) (by decide +kernel) rfl rfl (Nat.le_of_ble_eq_true rfl) rfl ?_
  refine g_aload_n (q := 1) dX6_change_0 rfl rfl ?_
  refine g_iload_n (q := 2) dX6_change_1 rfl rfl ?_
  refine k_X6_134 (q := 5) rfl (Nat.le_of_ble_eq_true rfl) (by first | assumption | rfl) dX6_change_2 rfl (c_X6_isAdvice hC (fun z2 => ?_) (fun z2 => ?_))
  · refine g_if_ne (tgt := 11) (q := 8) dX6_change_5 (by decide) rfl (fun _ => ?_) (fun c5 => absurd c5 (by decide))
    refine g_iload_n (q := 12) dX6_change_11 rfl rfl ?_
    refine g_if_ne (tgt := 33) (q := 15) dX6_change_12 (by decide) rfl (fun c12 => ?_) (fun c12 => ?_)
    · refine g_iload_n (q := 34) dX6_change_33 rfl rfl ?_
      refine g_iconst (q := 35) (v := nI 1) dX6_change_34 rfl (by decide) ?_
      refine g_icmp_ne (tgt := 56) (q := 38) dX6_change_35 (by decide) rfl (fun c35 => ?_) (fun c35 => ?_)
      · refine g_iload_n (q := 57) dX6_change_56 rfl rfl ?_
        refine g_iconst (q := 58) (v := nI 2) dX6_change_57 rfl (by decide) ?_
        refine g_icmp_ne (tgt := 79) (q := 61) dX6_change_58 (by decide) rfl (fun c58 => ?_) (fun c58 => ?_)
        · refine lc_X6_75 (q := 81) rfl dX6_change_79 rfl ?_
          refine g_iret rfl dX6_change_81 (Nat.le_refl _) (Nat.le_refl _) ?_
          rw [changeS, if_pos z2, if_neg (fun z => c12 z.1), if_neg (fun z => c35 z.1), if_neg (fun z => c58 z.1)] at h
          exact h I k hr FrC.rf hk
        · refine g_iload_n (q := 62) dX6_change_61 rfl rfl ?_
          refine g_iconst (q := 63) (v := nI 0) dX6_change_62 rfl (by decide) ?_
          refine g_bipush (q := 65) (v := nI 6) dX6_change_63 rfl (by decide) ?_
          refine k_X6_71 (q := 68) rfl (Nat.le_of_ble_eq_true rfl) dX6_change_65 rfl (c_X6_isWithin (fun z651 z652 => ?_) (fun z65 => ?_))
          · have z65 := And.intro z651 z652
            refine g_if_eq (tgt := 79) (q := 71) dX6_change_68 (by decide) rfl (fun c68 => absurd c68 (by decide)) (fun _ => ?_)
            refine g_aload_n (q := 72) dX6_change_71 rfl rfl ?_
            refine g_iload_n (q := 73) dX6_change_72 rfl rfl ?_
            refine g_iconst (q := 74) (v := nI 4) dX6_change_73 rfl (by decide) ?_
            refine g_iload_n (q := 75) dX6_change_74 rfl rfl ?_
            refine k_X6_137 (q := 78) rfl (Nat.le_of_ble_eq_true rfl) (by first | assumption | rfl) dX6_change_75 rfl (?_)
            have y2 := z2
            have yw := z65
            obtain ⟨a, ha, rfl⟩ := in1_nat (by omega) z2
            obtain ⟨x, hx, rfl⟩ := inR_nat (by decide) ⟨Int32.le_trans (by decide) z65.1, z65.2⟩
            refine c_X6_changeFact hk hr ha (by decide) ⟨fun z => absurd z (by decide), fun z => absurd z (by decide), fun z => absurd z (by decide), fun z => absurd z (by decide), fun _ => by omega, fun z => absurd z (by decide)⟩ (fun I2 hR2 hF2 => ?_)
            refine g_iret rfl dX6_change_78 (Nat.le_refl _) (Nat.le_refl _) ?_
            rw [changeS, if_pos y2, if_neg (fun z => c12 z.1), if_neg (fun z => c35 z.1), if_pos ⟨c58, yw⟩, nI_clamp (by omega), nI_clamp (by omega)] at h
            exact h I2 k hR2 hF2 hk
          · refine g_if_eq (tgt := 79) (q := 71) dX6_change_68 (by decide) rfl (fun _ => ?_) (fun c68 => absurd c68 (by decide))
            refine lc_X6_75 (q := 81) rfl dX6_change_79 rfl ?_
            refine g_iret rfl dX6_change_81 (Nat.le_refl _) (Nat.le_refl _) ?_
            rw [changeS, if_pos z2, if_neg (fun z => c12 z.1), if_neg (fun z => c35 z.1), if_neg (fun z => z65 z.2)] at h
            exact h I k hr FrC.rf hk
      · refine g_iload_n (q := 39) dX6_change_38 rfl rfl ?_
        refine g_iconst (q := 40) (v := nI 0) dX6_change_39 rfl (by decide) ?_
        refine g_bipush (q := 42) (v := nI 10) dX6_change_40 rfl (by decide) ?_
        refine k_X6_71 (q := 45) rfl (Nat.le_of_ble_eq_true rfl) dX6_change_42 rfl (c_X6_isWithin (fun z421 z422 => ?_) (fun z42 => ?_))
        · have z42 := And.intro z421 z422
          refine g_if_eq (tgt := 56) (q := 48) dX6_change_45 (by decide) rfl (fun c45 => absurd c45 (by decide)) (fun _ => ?_)
          refine g_aload_n (q := 49) dX6_change_48 rfl rfl ?_
          refine g_iload_n (q := 50) dX6_change_49 rfl rfl ?_
          refine g_iconst (q := 51) (v := nI 3) dX6_change_50 rfl (by decide) ?_
          refine g_iload_n (q := 52) dX6_change_51 rfl rfl ?_
          refine k_X6_137 (q := 55) rfl (Nat.le_of_ble_eq_true rfl) (by first | assumption | rfl) dX6_change_52 rfl (?_)
          have y2 := z2
          have yw := z42
          obtain ⟨a, ha, rfl⟩ := in1_nat (by omega) z2
          obtain ⟨x, hx, rfl⟩ := inR_nat (by decide) ⟨Int32.le_trans (by decide) z42.1, z42.2⟩
          refine c_X6_changeFact hk hr ha (by decide) ⟨fun z => absurd z (by decide), fun z => absurd z (by decide), fun z => absurd z (by decide), fun _ => by omega, fun z => absurd z (by decide), fun z => absurd z (by decide)⟩ (fun I2 hR2 hF2 => ?_)
          refine g_iret rfl dX6_change_55 (Nat.le_refl _) (Nat.le_refl _) ?_
          rw [changeS, if_pos y2, if_neg (fun z => c12 z.1), if_pos ⟨c35, yw⟩, nI_clamp (by omega), nI_clamp (by omega)] at h
          exact h I2 k hR2 hF2 hk
        · refine g_if_eq (tgt := 56) (q := 48) dX6_change_45 (by decide) rfl (fun _ => ?_) (fun c45 => absurd c45 (by decide))
          refine g_iload_n (q := 57) dX6_change_56 rfl rfl ?_
          refine g_iconst (q := 58) (v := nI 2) dX6_change_57 rfl (by decide) ?_
          refine g_icmp_ne (tgt := 79) (q := 61) dX6_change_58 (by decide) rfl (fun c58 => ?_) (fun c58 => ?_)
          · refine lc_X6_75 (q := 81) rfl dX6_change_79 rfl ?_
            refine g_iret rfl dX6_change_81 (Nat.le_refl _) (Nat.le_refl _) ?_
            rw [changeS, if_pos z2, if_neg (fun z => c12 z.1), if_neg (fun z => z42 z.2), if_neg (fun z => c58 z.1)] at h
            exact h I k hr FrC.rf hk
          · refine g_iload_n (q := 62) dX6_change_61 rfl rfl ?_
            refine g_iconst (q := 63) (v := nI 0) dX6_change_62 rfl (by decide) ?_
            refine g_bipush (q := 65) (v := nI 6) dX6_change_63 rfl (by decide) ?_
            refine k_X6_71 (q := 68) rfl (Nat.le_of_ble_eq_true rfl) dX6_change_65 rfl (c_X6_isWithin (fun z651 z652 => ?_) (fun z65 => ?_))
            · have z65 := And.intro z651 z652
              refine g_if_eq (tgt := 79) (q := 71) dX6_change_68 (by decide) rfl (fun c68 => absurd c68 (by decide)) (fun _ => ?_)
              refine g_aload_n (q := 72) dX6_change_71 rfl rfl ?_
              refine g_iload_n (q := 73) dX6_change_72 rfl rfl ?_
              refine g_iconst (q := 74) (v := nI 4) dX6_change_73 rfl (by decide) ?_
              refine g_iload_n (q := 75) dX6_change_74 rfl rfl ?_
              refine k_X6_137 (q := 78) rfl (Nat.le_of_ble_eq_true rfl) (by first | assumption | rfl) dX6_change_75 rfl (?_)
              have y2 := z2
              have yw := z65
              obtain ⟨a, ha, rfl⟩ := in1_nat (by omega) z2
              obtain ⟨x, hx, rfl⟩ := inR_nat (by decide) ⟨Int32.le_trans (by decide) z65.1, z65.2⟩
              refine c_X6_changeFact hk hr ha (by decide) ⟨fun z => absurd z (by decide), fun z => absurd z (by decide), fun z => absurd z (by decide), fun z => absurd z (by decide), fun _ => by omega, fun z => absurd z (by decide)⟩ (fun I2 hR2 hF2 => ?_)
              refine g_iret rfl dX6_change_78 (Nat.le_refl _) (Nat.le_refl _) ?_
              rw [changeS, if_pos y2, if_neg (fun z => c12 z.1), if_neg (fun z => z42 z.2), if_pos ⟨c58, yw⟩, nI_clamp (by omega), nI_clamp (by omega)] at h
              exact h I2 k hR2 hF2 hk
            · refine g_if_eq (tgt := 79) (q := 71) dX6_change_68 (by decide) rfl (fun _ => ?_) (fun c68 => absurd c68 (by decide))
              refine lc_X6_75 (q := 81) rfl dX6_change_79 rfl ?_
              refine g_iret rfl dX6_change_81 (Nat.le_refl _) (Nat.le_refl _) ?_
              rw [changeS, if_pos z2, if_neg (fun z => c12 z.1), if_neg (fun z => z42 z.2), if_neg (fun z => z65 z.2)] at h
              exact h I k hr FrC.rf hk
    · refine g_iload_n (q := 16) dX6_change_15 rfl rfl ?_
      refine g_iconst (q := 17) (v := nI 1) dX6_change_16 rfl (by decide) ?_
      refine g_bipush (q := 19) (v := nI 99) dX6_change_17 rfl (by decide) ?_
      refine k_X6_71 (q := 22) rfl (Nat.le_of_ble_eq_true rfl) dX6_change_19 rfl (c_X6_isWithin (fun z191 z192 => ?_) (fun z19 => ?_))
      · have z19 := And.intro z191 z192
        refine g_if_eq (tgt := 33) (q := 25) dX6_change_22 (by decide) rfl (fun c22 => absurd c22 (by decide)) (fun _ => ?_)
        refine g_aload_n (q := 26) dX6_change_25 rfl rfl ?_
        refine g_iload_n (q := 27) dX6_change_26 rfl rfl ?_
        refine g_iconst (q := 28) (v := nI 0) dX6_change_27 rfl (by decide) ?_
        refine g_iload_n (q := 29) dX6_change_28 rfl rfl ?_
        refine k_X6_137 (q := 32) rfl (Nat.le_of_ble_eq_true rfl) (by first | assumption | rfl) dX6_change_29 rfl (?_)
        have y2 := z2
        have yw := z19
        obtain ⟨a, ha, rfl⟩ := in1_nat (by omega) z2
        obtain ⟨x, hx, rfl⟩ := inR_nat (by decide) ⟨Int32.le_trans (by decide) z19.1, z19.2⟩
        have hx1 : 1 ≤ x := (nI_leI (by omega) (by omega)).mp yw.1
        refine c_X6_changeFact hk hr ha (by decide) ⟨fun _ => by omega, fun z => absurd z (by decide), fun z => absurd z (by decide), fun z => absurd z (by decide), fun z => absurd z (by decide), fun z => absurd z (by decide)⟩ (fun I2 hR2 hF2 => ?_)
        refine g_iret rfl dX6_change_32 (Nat.le_refl _) (Nat.le_refl _) ?_
        rw [changeS, if_pos y2, if_pos ⟨c12, yw⟩, nI_clamp (by omega), nI_clamp (by omega)] at h
        exact h I2 k hR2 hF2 hk
      · refine g_if_eq (tgt := 33) (q := 25) dX6_change_22 (by decide) rfl (fun _ => ?_) (fun c22 => absurd c22 (by decide))
        refine g_iload_n (q := 34) dX6_change_33 rfl rfl ?_
        refine g_iconst (q := 35) (v := nI 1) dX6_change_34 rfl (by decide) ?_
        refine g_icmp_ne (tgt := 56) (q := 38) dX6_change_35 (by decide) rfl (fun c35 => ?_) (fun c35 => ?_)
        · refine g_iload_n (q := 57) dX6_change_56 rfl rfl ?_
          refine g_iconst (q := 58) (v := nI 2) dX6_change_57 rfl (by decide) ?_
          refine g_icmp_ne (tgt := 79) (q := 61) dX6_change_58 (by decide) rfl (fun c58 => ?_) (fun c58 => ?_)
          · refine lc_X6_75 (q := 81) rfl dX6_change_79 rfl ?_
            refine g_iret rfl dX6_change_81 (Nat.le_refl _) (Nat.le_refl _) ?_
            rw [changeS, if_pos z2, if_neg (fun z => z19 z.2), if_neg (fun z => c35 z.1), if_neg (fun z => c58 z.1)] at h
            exact h I k hr FrC.rf hk
          · refine g_iload_n (q := 62) dX6_change_61 rfl rfl ?_
            refine g_iconst (q := 63) (v := nI 0) dX6_change_62 rfl (by decide) ?_
            refine g_bipush (q := 65) (v := nI 6) dX6_change_63 rfl (by decide) ?_
            refine k_X6_71 (q := 68) rfl (Nat.le_of_ble_eq_true rfl) dX6_change_65 rfl (c_X6_isWithin (fun z651 z652 => ?_) (fun z65 => ?_))
            · have z65 := And.intro z651 z652
              refine g_if_eq (tgt := 79) (q := 71) dX6_change_68 (by decide) rfl (fun c68 => absurd c68 (by decide)) (fun _ => ?_)
              refine g_aload_n (q := 72) dX6_change_71 rfl rfl ?_
              refine g_iload_n (q := 73) dX6_change_72 rfl rfl ?_
              refine g_iconst (q := 74) (v := nI 4) dX6_change_73 rfl (by decide) ?_
              refine g_iload_n (q := 75) dX6_change_74 rfl rfl ?_
              refine k_X6_137 (q := 78) rfl (Nat.le_of_ble_eq_true rfl) (by first | assumption | rfl) dX6_change_75 rfl (?_)
              have y2 := z2
              have yw := z65
              obtain ⟨a, ha, rfl⟩ := in1_nat (by omega) z2
              obtain ⟨x, hx, rfl⟩ := inR_nat (by decide) ⟨Int32.le_trans (by decide) z65.1, z65.2⟩
              refine c_X6_changeFact hk hr ha (by decide) ⟨fun z => absurd z (by decide), fun z => absurd z (by decide), fun z => absurd z (by decide), fun z => absurd z (by decide), fun _ => by omega, fun z => absurd z (by decide)⟩ (fun I2 hR2 hF2 => ?_)
              refine g_iret rfl dX6_change_78 (Nat.le_refl _) (Nat.le_refl _) ?_
              rw [changeS, if_pos y2, if_neg (fun z => z19 z.2), if_neg (fun z => c35 z.1), if_pos ⟨c58, yw⟩, nI_clamp (by omega), nI_clamp (by omega)] at h
              exact h I2 k hR2 hF2 hk
            · refine g_if_eq (tgt := 79) (q := 71) dX6_change_68 (by decide) rfl (fun _ => ?_) (fun c68 => absurd c68 (by decide))
              refine lc_X6_75 (q := 81) rfl dX6_change_79 rfl ?_
              refine g_iret rfl dX6_change_81 (Nat.le_refl _) (Nat.le_refl _) ?_
              rw [changeS, if_pos z2, if_neg (fun z => z19 z.2), if_neg (fun z => c35 z.1), if_neg (fun z => z65 z.2)] at h
              exact h I k hr FrC.rf hk
        · refine g_iload_n (q := 39) dX6_change_38 rfl rfl ?_
          refine g_iconst (q := 40) (v := nI 0) dX6_change_39 rfl (by decide) ?_
          refine g_bipush (q := 42) (v := nI 10) dX6_change_40 rfl (by decide) ?_
          refine k_X6_71 (q := 45) rfl (Nat.le_of_ble_eq_true rfl) dX6_change_42 rfl (c_X6_isWithin (fun z421 z422 => ?_) (fun z42 => ?_))
          · have z42 := And.intro z421 z422
            refine g_if_eq (tgt := 56) (q := 48) dX6_change_45 (by decide) rfl (fun c45 => absurd c45 (by decide)) (fun _ => ?_)
            refine g_aload_n (q := 49) dX6_change_48 rfl rfl ?_
            refine g_iload_n (q := 50) dX6_change_49 rfl rfl ?_
            refine g_iconst (q := 51) (v := nI 3) dX6_change_50 rfl (by decide) ?_
            refine g_iload_n (q := 52) dX6_change_51 rfl rfl ?_
            refine k_X6_137 (q := 55) rfl (Nat.le_of_ble_eq_true rfl) (by first | assumption | rfl) dX6_change_52 rfl (?_)
            have y2 := z2
            have yw := z42
            obtain ⟨a, ha, rfl⟩ := in1_nat (by omega) z2
            obtain ⟨x, hx, rfl⟩ := inR_nat (by decide) ⟨Int32.le_trans (by decide) z42.1, z42.2⟩
            refine c_X6_changeFact hk hr ha (by decide) ⟨fun z => absurd z (by decide), fun z => absurd z (by decide), fun z => absurd z (by decide), fun _ => by omega, fun z => absurd z (by decide), fun z => absurd z (by decide)⟩ (fun I2 hR2 hF2 => ?_)
            refine g_iret rfl dX6_change_55 (Nat.le_refl _) (Nat.le_refl _) ?_
            rw [changeS, if_pos y2, if_neg (fun z => z19 z.2), if_pos ⟨c35, yw⟩, nI_clamp (by omega), nI_clamp (by omega)] at h
            exact h I2 k hR2 hF2 hk
          · refine g_if_eq (tgt := 56) (q := 48) dX6_change_45 (by decide) rfl (fun _ => ?_) (fun c45 => absurd c45 (by decide))
            refine g_iload_n (q := 57) dX6_change_56 rfl rfl ?_
            refine g_iconst (q := 58) (v := nI 2) dX6_change_57 rfl (by decide) ?_
            refine g_icmp_ne (tgt := 79) (q := 61) dX6_change_58 (by decide) rfl (fun c58 => ?_) (fun c58 => ?_)
            · refine lc_X6_75 (q := 81) rfl dX6_change_79 rfl ?_
              refine g_iret rfl dX6_change_81 (Nat.le_refl _) (Nat.le_refl _) ?_
              rw [changeS, if_pos z2, if_neg (fun z => z19 z.2), if_neg (fun z => z42 z.2), if_neg (fun z => c58 z.1)] at h
              exact h I k hr FrC.rf hk
            · refine g_iload_n (q := 62) dX6_change_61 rfl rfl ?_
              refine g_iconst (q := 63) (v := nI 0) dX6_change_62 rfl (by decide) ?_
              refine g_bipush (q := 65) (v := nI 6) dX6_change_63 rfl (by decide) ?_
              refine k_X6_71 (q := 68) rfl (Nat.le_of_ble_eq_true rfl) dX6_change_65 rfl (c_X6_isWithin (fun z651 z652 => ?_) (fun z65 => ?_))
              · have z65 := And.intro z651 z652
                refine g_if_eq (tgt := 79) (q := 71) dX6_change_68 (by decide) rfl (fun c68 => absurd c68 (by decide)) (fun _ => ?_)
                refine g_aload_n (q := 72) dX6_change_71 rfl rfl ?_
                refine g_iload_n (q := 73) dX6_change_72 rfl rfl ?_
                refine g_iconst (q := 74) (v := nI 4) dX6_change_73 rfl (by decide) ?_
                refine g_iload_n (q := 75) dX6_change_74 rfl rfl ?_
                refine k_X6_137 (q := 78) rfl (Nat.le_of_ble_eq_true rfl) (by first | assumption | rfl) dX6_change_75 rfl (?_)
                have y2 := z2
                have yw := z65
                obtain ⟨a, ha, rfl⟩ := in1_nat (by omega) z2
                obtain ⟨x, hx, rfl⟩ := inR_nat (by decide) ⟨Int32.le_trans (by decide) z65.1, z65.2⟩
                refine c_X6_changeFact hk hr ha (by decide) ⟨fun z => absurd z (by decide), fun z => absurd z (by decide), fun z => absurd z (by decide), fun z => absurd z (by decide), fun _ => by omega, fun z => absurd z (by decide)⟩ (fun I2 hR2 hF2 => ?_)
                refine g_iret rfl dX6_change_78 (Nat.le_refl _) (Nat.le_refl _) ?_
                rw [changeS, if_pos y2, if_neg (fun z => z19 z.2), if_neg (fun z => z42 z.2), if_pos ⟨c58, yw⟩, nI_clamp (by omega), nI_clamp (by omega)] at h
                exact h I2 k hR2 hF2 hk
              · refine g_if_eq (tgt := 79) (q := 71) dX6_change_68 (by decide) rfl (fun _ => ?_) (fun c68 => absurd c68 (by decide))
                refine lc_X6_75 (q := 81) rfl dX6_change_79 rfl ?_
                refine g_iret rfl dX6_change_81 (Nat.le_refl _) (Nat.le_refl _) ?_
                rw [changeS, if_pos z2, if_neg (fun z => z19 z.2), if_neg (fun z => z42 z.2), if_neg (fun z => z65 z.2)] at h
                exact h I k hr FrC.rf hk
  · refine g_if_ne (tgt := 11) (q := 8) dX6_change_5 (by decide) rfl (fun c5 => absurd c5 (by decide)) (fun _ => ?_)
    refine lc_X6_75 (q := 10) rfl dX6_change_8 rfl ?_
    refine g_iret rfl dX6_change_10 (Nat.le_refl _) (Nat.le_refl _) ?_
    rw [changeS, if_neg z2] at h
    exact h I k hr FrC.rf hk
set_option maxRecDepth 100000 in
set_option maxHeartbeats 400000 in
theorem c_X6_become {d k : Nat} {I : Nat → Nat → Int32} {Q : Option Int32 → Wd → Prop} {S : Sg} {a x : Int32} (hk : k = 4 ∨ k = 10) (hr : RepC I S) (h : ∀ I2 k2, RepC I2 (becomeS S a x).2 → FrC I I2 → (k2 = 4 ∨ k2 = 10) → Q (some (becomeS S a x).1) (I2, RR k2)) : Ex (d + 4) 0 0 mX6_become [.ref 0, .int a, .int x] 68 (I, RR k) 68 Q := by
  have hC : CRep I 4 (gv S) := hr.2.2.2.2.1.1
  have hV : VOk (gv S) := hr.2.2.2.2.1.2
  obtain ⟨v1, v2, v3, v4⟩ := id hV
  have hW := wv4 k
  refine ex_intro (L0 := [.ref 0, .int a, .int x]) (by decide +kernel) rfl rfl (Nat.le_of_ble_eq_true rfl) rfl ?_
  refine g_aload_n (q := 1) dX6_become_0 rfl rfl ?_
  refine g_iload_n (q := 2) dX6_become_1 rfl rfl ?_
  refine k_X6_134 (q := 5) rfl (Nat.le_of_ble_eq_true rfl) (by first | assumption | rfl) dX6_become_2 rfl (c_X6_isAdvice hC (fun z2 => ?_) (fun z2 => ?_))
  · refine g_if_eq (tgt := 17) (q := 8) dX6_become_5 (by decide) rfl (fun c5 => absurd c5 (by decide)) (fun _ => ?_)
    refine g_iload_n (q := 9) dX6_become_8 rfl rfl ?_
    refine g_iconst (q := 10) (v := nI 1) dX6_become_9 rfl (by decide) ?_
    refine g_iconst (q := 11) (v := nI 5) dX6_become_10 rfl (by decide) ?_
    refine k_X6_71 (q := 14) rfl (Nat.le_of_ble_eq_true rfl) dX6_become_11 rfl (c_X6_isWithin (fun z111 z112 => ?_) (fun z11 => ?_))
    · have z11 := And.intro z111 z112
      refine g_if_ne (tgt := 20) (q := 17) dX6_become_14 (by decide) rfl (fun _ => ?_) (fun c14 => absurd c14 (by decide))
      have y2 := z2
      have y11 := z11
      obtain ⟨a, ha, rfl⟩ := in1_nat (by omega) z2
      obtain ⟨x, hx, rfl⟩ := inR_nat (by decide) ⟨Int32.le_trans (by decide) z11.1, z11.2⟩
      have hx1 : 1 ≤ x := (nI_leI (by omega) (by omega)).mp y11.1
      refine g_aload_n (q := 21) dX6_become_20 rfl rfl ?_
      refine gf_X6_25 (q := 24) rfl (by first | assumption | rfl) (by first | assumption | rfl) dX6_become_21 rfl ?_
      refine g_iload_n (q := 25) dX6_become_24 rfl rfl ?_
      refine g_iconst (q := 26) (v := nI 5) dX6_become_25 rfl (by decide) ?_
      refine k_X6_141 (q := 29) rfl (Nat.le_of_ble_eq_true rfl) (by first | assumption | rfl) dX6_become_26 rfl (c_X5_fact hW (by omega) (by omega) ?_)
      rw [hC.2.2.2 a ha 5 (by omega)]
      refine g_iload_n (q := 30) dX6_become_29 rfl rfl ?_
      refine g_icmp_ne (tgt := 36) (q := 33) dX6_become_30 (by decide) rfl (fun c30 => ?_) (fun c30 => ?_)
      · refine g_aload_n (q := 37) dX6_become_36 rfl rfl ?_
        refine g_iload_n (q := 38) dX6_become_37 rfl rfl ?_
        refine g_iconst (q := 39) (v := nI 5) dX6_become_38 rfl (by decide) ?_
        refine g_iload_n (q := 40) dX6_become_39 rfl rfl ?_
        refine k_X6_137 (q := 43) rfl (Nat.le_of_ble_eq_true rfl) (by first | assumption | rfl) dX6_become_40 rfl (?_)
        refine c_X6_changeFact hk hr ha (by decide) ⟨fun z => absurd z (by decide), fun z => absurd z (by decide), fun z => absurd z (by decide), fun z => absurd z (by decide), fun z => absurd z (by decide), fun _ => by omega⟩ (fun I2 hR2 hF2 => ?_)
        refine g_iret rfl dX6_become_43 (Nat.le_refl _) (Nat.le_refl _) ?_
        rw [becomeS, if_pos y2, if_pos y11, nI_clamp (by omega), if_neg c30, nI_clamp (by omega)] at h
        exact h I2 k hR2 hF2 hk
      · refine lc_X6_144 (q := 35) rfl dX6_become_33 rfl ?_
        refine g_iret rfl dX6_become_35 (Nat.le_refl _) (Nat.le_refl _) ?_
        rw [becomeS, if_pos y2, if_pos y11, nI_clamp (by omega), if_pos c30] at h
        exact h I k hr FrC.rf hk
    · refine g_if_ne (tgt := 20) (q := 17) dX6_become_14 (by decide) rfl (fun c14 => absurd c14 (by decide)) (fun _ => ?_)
      refine lc_X6_75 (q := 19) rfl dX6_become_17 rfl ?_
      refine g_iret rfl dX6_become_19 (Nat.le_refl _) (Nat.le_refl _) ?_
      rw [becomeS, if_pos z2, if_neg z11] at h
      exact h I k hr FrC.rf hk
  · refine g_if_eq (tgt := 17) (q := 8) dX6_become_5 (by decide) rfl (fun _ => ?_) (fun c5 => absurd c5 (by decide))
    refine lc_X6_75 (q := 19) rfl dX6_become_17 rfl ?_
    refine g_iret rfl dX6_become_19 (Nat.le_refl _) (Nat.le_refl _) ?_
    rw [becomeS, if_neg z2] at h
    exact h I k hr FrC.rf hk
set_option maxRecDepth 100000 in
set_option maxHeartbeats 400000 in
theorem c_X6_belong {d k : Nat} {I : Nat → Nat → Int32} {Q : Option Int32 → Wd → Prop} {S : Sg} {m c : Int32} (hk : k = 4 ∨ k = 10) (hr : RepC I S) (h : ∀ I2 k2, RepC I2 (belongS S m c).2 → FrC I I2 → (k2 = 4 ∨ k2 = 10) → Q (some (belongS S m c).1) (I2, RR k2)) : Ex (d + 3) 0 0 mX6_belong [.ref 0, .int m, .int c] 68 (I, RR k) 68 Q := by
  have hC : CRep I 4 (gv S) := hr.2.2.2.2.1.1
  have hV : VOk (gv S) := hr.2.2.2.2.1.2
  obtain ⟨v1, v2, v3, v4⟩ := id hV
  have hW := wv4 k
  obtain ⟨a1, a2, a3⟩ := id hr.2.2.2.2.2.1
  refine ex_intro (L0 := [.ref 0, .int m, .int c, .null]) (by decide +kernel) rfl rfl (Nat.le_of_ble_eq_true rfl) rfl ?_
  refine g_aload_n (q := 1) dX6_belong_0 rfl rfl ?_
  refine g_iload_n (q := 2) dX6_belong_1 rfl rfl ?_
  refine k_X6_156 (q := 5) rfl (Nat.le_of_ble_eq_true rfl) (by first | assumption | rfl) dX6_belong_2 rfl (c_X6_isMethod hC (fun z2 => ?_) (fun z2 => ?_))
  · refine g_if_eq (tgt := 17) (q := 8) dX6_belong_5 (by decide) rfl (fun c5 => absurd c5 (by decide)) (fun _ => ?_)
    refine g_iload_n (q := 9) dX6_belong_8 rfl rfl ?_
    refine g_iconst (q := 10) (v := nI 0) dX6_belong_9 rfl (by decide) ?_
    refine g_iconst (q := 11) (v := nI 3) dX6_belong_10 rfl (by decide) ?_
    refine k_X6_71 (q := 14) rfl (Nat.le_of_ble_eq_true rfl) dX6_belong_11 rfl (c_X6_isWithin (fun z111 z112 => ?_) (fun z11 => ?_))
    · have z11 := And.intro z111 z112
      refine g_if_ne (tgt := 20) (q := 17) dX6_belong_14 (by decide) rfl (fun _ => ?_) (fun c14 => absurd c14 (by decide))
      have y2 := z2
      have y11 := z11
      obtain ⟨m, hm, rfl⟩ := in1_nat (by omega) z2
      obtain ⟨c, hc, rfl⟩ := inR_nat (by decide) z11
      refine g_aload_n (q := 21) dX6_belong_20 rfl rfl ?_
      refine gf_X6_25 (q := 24) rfl (by first | assumption | rfl) (by first | assumption | rfl) dX6_belong_21 rfl ?_
      refine g_iload_n (q := 25) dX6_belong_24 rfl rfl ?_
      refine k_X6_178 (q := 28) rfl (Nat.le_of_ble_eq_true rfl) (by first | assumption | rfl) dX6_belong_25 rfl (c_X5_classOf hW (by omega) ?_)
      rw [(hC.2.2.1 m hm).1]
      refine g_istore_n (q := 29) dX6_belong_28 rfl (by decide) rfl rfl ?_
      refine g_iload_n (q := 30) dX6_belong_29 rfl rfl ?_
      refine g_iload_n (q := 31) dX6_belong_30 rfl rfl ?_
      refine g_icmp_ne (tgt := 37) (q := 34) dX6_belong_31 (by decide) rfl (fun c31 => ?_) (fun c31 => ?_)
      · refine g_aload_n (q := 38) dX6_belong_37 rfl rfl ?_
        refine gf_X6_39 (q := 41) rfl (by first | assumption | rfl) (by first | assumption | rfl) dX6_belong_38 rfl ?_
        refine g_iload_n (q := 42) dX6_belong_41 rfl rfl ?_
        refine g_iload_n (q := 43) dX6_belong_42 rfl rfl ?_
        refine k_X6_181 (q := 46) rfl (Nat.le_of_ble_eq_true rfl) (by first | assumption | rfl) dX6_belong_43 rfl (c_X0_keepClass a1 a2 ?_)
        refine g_aload_n (q := 47) dX6_belong_46 rfl rfl ?_
        refine gf_X6_25 (q := 50) rfl (by first | assumption | rfl) (by first | assumption | rfl) dX6_belong_47 rfl ?_
        refine g_iload_n (q := 51) dX6_belong_50 rfl rfl ?_
        refine g_iload_n (q := 52) dX6_belong_51 rfl rfl ?_
        refine k_X6_184 (q := 55) rfl (Nat.le_of_ble_eq_true rfl) (by first | assumption | rfl) dX6_belong_52 rfl (c_X5_putClass hW (by omega) ?_)
        refine g_iload_n (q := 56) dX6_belong_55 rfl rfl ?_
        refine g_iret rfl dX6_belong_56 (Nat.le_refl _) (Nat.le_refl _) ?_
        rw [belongS, if_pos y2, if_pos y11, nI_clamp (by omega), if_neg c31, nI_clamp (by omega)] at h
        refine h _ k (RepC.act hr ⟨CRep_setCl (hC.eq (fun i hi => acK_ne (by omega) (by omega))), VOk_setCl hV (by omega)⟩ ?_ (fun p hp => (uI_ne (by omega)).trans (acK_ne (by omega) (by omega)))) (FrC.tr (fun p hp => acK_ne (by omega) (by omega)) (FrC.ui (by decide))) hk
        refine (RActs.push (w := setCl (gv S) m c) hr.2.2.2.2.2.1 hV (x0 := 3) (x1 := m) (x2 := vcl (gv S) m) (x3 := 0) (x4 := 0) (Or.inr (Or.inr (Or.inr ⟨rfl, hm⟩))) ?_).eq (uI_ne (show 17 ≠ 4 + 1 by decide)) (uI_ne (show 18 ≠ 4 + 1 by decide))
        exact (setCl_back (gv S) m c).symm
      · refine lc_X6_144 (q := 36) rfl dX6_belong_34 rfl ?_
        refine g_iret rfl dX6_belong_36 (Nat.le_refl _) (Nat.le_refl _) ?_
        rw [belongS, if_pos y2, if_pos y11, nI_clamp (by omega), if_pos c31] at h
        exact h I k hr FrC.rf hk
    · refine g_if_ne (tgt := 20) (q := 17) dX6_belong_14 (by decide) rfl (fun c14 => absurd c14 (by decide)) (fun _ => ?_)
      refine lc_X6_75 (q := 19) rfl dX6_belong_17 rfl ?_
      refine g_iret rfl dX6_belong_19 (Nat.le_refl _) (Nat.le_refl _) ?_
      rw [belongS, if_pos z2, if_neg z11] at h
      exact h I k hr FrC.rf hk
  · refine g_if_eq (tgt := 17) (q := 8) dX6_belong_5 (by decide) rfl (fun _ => ?_) (fun c5 => absurd c5 (by decide))
    refine lc_X6_75 (q := 19) rfl dX6_belong_17 rfl ?_
    refine g_iret rfl dX6_belong_19 (Nat.le_refl _) (Nat.le_refl _) ?_
    rw [belongS, if_neg z2] at h
    exact h I k hr FrC.rf hk
