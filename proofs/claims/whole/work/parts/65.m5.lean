/-! the reference closes a set in place, six times (33.zreach) -/
theorem below_ok : ∀ c, c < 4 → ∀ x, x < 5 → ([15, 10, 4, 8, 15].getD x 0).testBit c = decide (x = 4 ∨ x = 0 ∨ c = x ∨ (x = 1 ∧ c = 3)) := by decide +kernel

set_option maxRecDepth 100000 in
set_option maxHeartbeats 400000 in
theorem c_X7_isBelow {d k : Nat} {I : Nat → Nat → Int32} {Q : Option Int32 → Wd → Prop} {c x : Nat} (hc : c < 4) (hx : x < 5) (h1 : ([15, 10, 4, 8, 15].getD x 0).testBit c = true → Q (some (nI 1)) (I, RR k)) (h0 : ([15, 10, 4, 8, 15].getD x 0).testBit c = false → Q (some (nI 0)) (I, RR k)) : Ex d 0 0 mX7_isBelow [.int (nI c), .int (nI x)] 68 (I, RR k) 68 Q := by
  refine ex_intro (L0 := [.int (nI c), .int (nI x)]) (by decide +kernel) rfl rfl (Nat.le_of_ble_eq_true rfl) rfl ?_
  refine g_iload_n (q := 1) dX7_isBelow_0 rfl rfl ?_
  refine g_iconst (q := 2) (v := nI 4) dX7_isBelow_1 rfl (by decide) ?_
  refine g_icmp_eq (tgt := 24) (q := 5) dX7_isBelow_2 (by decide) rfl (fun c2 => ?_) (fun c2 => ?_)
  · refine g_iconst (q := 25) (v := nI 1) dX7_isBelow_24 rfl (by decide) ?_
    refine g_goto (q := 29) dX7_isBelow_25 (by decide) ?_
    refine g_zret rfl (by decide) dX7_isBelow_29 (Nat.le_refl _) (Nat.le_refl _) ?_
    have hb : ([15, 10, 4, 8, 15].getD x 0).testBit c = true := by
      rw [below_ok c hc x hx]
      have q4 : nI x = nI 4 ↔ x = 4 := nI_eq (by omega) (by omega)
      have q0 : nI x = 0 ↔ x = 0 := nI_eq (b := 0) (by omega) (by omega)
      have q1 : nI x = nI 1 ↔ x = 1 := nI_eq (by omega) (by omega)
      have qc : nI c = nI x ↔ c = x := nI_eq (by omega) (by omega)
      have q3 : nI c = nI 3 ↔ c = 3 := nI_eq (by omega) (by omega)
      simp only [q4, q0, q1, qc, q3] at *
      simp
      omega
    exact h1 hb
  · refine g_iload_n (q := 6) dX7_isBelow_5 rfl rfl ?_
    refine g_if_eq (tgt := 24) (q := 9) dX7_isBelow_6 (by decide) rfl (fun c6 => ?_) (fun c6 => ?_)
    · refine g_iconst (q := 25) (v := nI 1) dX7_isBelow_24 rfl (by decide) ?_
      refine g_goto (q := 29) dX7_isBelow_25 (by decide) ?_
      refine g_zret rfl (by decide) dX7_isBelow_29 (Nat.le_refl _) (Nat.le_refl _) ?_
      have hb : ([15, 10, 4, 8, 15].getD x 0).testBit c = true := by
        rw [below_ok c hc x hx]
        have q4 : nI x = nI 4 ↔ x = 4 := nI_eq (by omega) (by omega)
        have q0 : nI x = 0 ↔ x = 0 := nI_eq (b := 0) (by omega) (by omega)
        have q1 : nI x = nI 1 ↔ x = 1 := nI_eq (by omega) (by omega)
        have qc : nI c = nI x ↔ c = x := nI_eq (by omega) (by omega)
        have q3 : nI c = nI 3 ↔ c = 3 := nI_eq (by omega) (by omega)
        simp only [q4, q0, q1, qc, q3] at *
        simp
        omega
      exact h1 hb
    · refine g_iload_n (q := 10) dX7_isBelow_9 rfl rfl ?_
      refine g_iload_n (q := 11) dX7_isBelow_10 rfl rfl ?_
      refine g_icmp_eq (tgt := 24) (q := 14) dX7_isBelow_11 (by decide) rfl (fun c11 => ?_) (fun c11 => ?_)
      · refine g_iconst (q := 25) (v := nI 1) dX7_isBelow_24 rfl (by decide) ?_
        refine g_goto (q := 29) dX7_isBelow_25 (by decide) ?_
        refine g_zret rfl (by decide) dX7_isBelow_29 (Nat.le_refl _) (Nat.le_refl _) ?_
        have hb : ([15, 10, 4, 8, 15].getD x 0).testBit c = true := by
          rw [below_ok c hc x hx]
          have q4 : nI x = nI 4 ↔ x = 4 := nI_eq (by omega) (by omega)
          have q0 : nI x = 0 ↔ x = 0 := nI_eq (b := 0) (by omega) (by omega)
          have q1 : nI x = nI 1 ↔ x = 1 := nI_eq (by omega) (by omega)
          have qc : nI c = nI x ↔ c = x := nI_eq (by omega) (by omega)
          have q3 : nI c = nI 3 ↔ c = 3 := nI_eq (by omega) (by omega)
          simp only [q4, q0, q1, qc, q3] at *
          simp
          omega
        exact h1 hb
      · refine g_iload_n (q := 15) dX7_isBelow_14 rfl rfl ?_
        refine g_iconst (q := 16) (v := nI 1) dX7_isBelow_15 rfl (by decide) ?_
        refine g_icmp_ne (tgt := 28) (q := 19) dX7_isBelow_16 (by decide) rfl (fun c16 => ?_) (fun c16 => ?_)
        · refine g_iconst (q := 29) (v := nI 0) dX7_isBelow_28 rfl (by decide) ?_
          refine g_zret rfl (by decide) dX7_isBelow_29 (Nat.le_refl _) (Nat.le_refl _) ?_
          have hb : ([15, 10, 4, 8, 15].getD x 0).testBit c = false := by
            rw [below_ok c hc x hx]
            have q4 : nI x = nI 4 ↔ x = 4 := nI_eq (by omega) (by omega)
            have q0 : nI x = 0 ↔ x = 0 := nI_eq (b := 0) (by omega) (by omega)
            have q1 : nI x = nI 1 ↔ x = 1 := nI_eq (by omega) (by omega)
            have qc : nI c = nI x ↔ c = x := nI_eq (by omega) (by omega)
            have q3 : nI c = nI 3 ↔ c = 3 := nI_eq (by omega) (by omega)
            simp only [q4, q0, q1, qc, q3] at *
            simp
            omega
          exact h0 hb
        · refine g_iload_n (q := 20) dX7_isBelow_19 rfl rfl ?_
          refine g_iconst (q := 21) (v := nI 3) dX7_isBelow_20 rfl (by decide) ?_
          refine g_icmp_ne (tgt := 28) (q := 24) dX7_isBelow_21 (by decide) rfl (fun c21 => ?_) (fun c21 => ?_)
          · refine g_iconst (q := 29) (v := nI 0) dX7_isBelow_28 rfl (by decide) ?_
            refine g_zret rfl (by decide) dX7_isBelow_29 (Nat.le_refl _) (Nat.le_refl _) ?_
            have hb : ([15, 10, 4, 8, 15].getD x 0).testBit c = false := by
              rw [below_ok c hc x hx]
              have q4 : nI x = nI 4 ↔ x = 4 := nI_eq (by omega) (by omega)
              have q0 : nI x = 0 ↔ x = 0 := nI_eq (b := 0) (by omega) (by omega)
              have q1 : nI x = nI 1 ↔ x = 1 := nI_eq (by omega) (by omega)
              have qc : nI c = nI x ↔ c = x := nI_eq (by omega) (by omega)
              have q3 : nI c = nI 3 ↔ c = 3 := nI_eq (by omega) (by omega)
              simp only [q4, q0, q1, qc, q3] at *
              simp
              omega
            exact h0 hb
          · refine g_iconst (q := 25) (v := nI 1) dX7_isBelow_24 rfl (by decide) ?_
            refine g_goto (q := 29) dX7_isBelow_25 (by decide) ?_
            refine g_zret rfl (by decide) dX7_isBelow_29 (Nat.le_refl _) (Nat.le_refl _) ?_
            have hb : ([15, 10, 4, 8, 15].getD x 0).testBit c = true := by
              rw [below_ok c hc x hx]
              have q4 : nI x = nI 4 ↔ x = 4 := nI_eq (by omega) (by omega)
              have q0 : nI x = 0 ↔ x = 0 := nI_eq (b := 0) (by omega) (by omega)
              have q1 : nI x = nI 1 ↔ x = 1 := nI_eq (by omega) (by omega)
              have qc : nI c = nI x ↔ c = x := nI_eq (by omega) (by omega)
              have q3 : nI c = nI 3 ↔ c = 3 := nI_eq (by omega) (by omega)
              simp only [q4, q0, q1, qc, q3] at *
              simp
              omega
            exact h1 hb
set_option maxRecDepth 100000 in
set_option maxHeartbeats 400000 in
theorem c_X7_isPlace {d k : Nat} {I : Nat → Nat → Int32} {Q : Option Int32 → Wd → Prop} {p : Nat} {v : Vv} {m a : Nat} (hsp : shn 68 p = (1, 92)) (hM : MRep I p 0 v) (hV : VOk v) (hm : m < vnm v) (ha : a < vna v) (h1 : aboutF v m a = true → Q (some (nI 1)) (I, RR k)) (h0 : aboutF v m a = false → Q (some (nI 0)) (I, RR k)) : Ex (d + 1) 0 0 mX7_isPlace [.ref p, .int (nI m), .int (nI a)] 68 (I, RR k) 68 Q := by
  obtain ⟨v1, v2, v3, v4⟩ := id hV
  have k1 := (v3 m hm).1
  have k2 := v4 a ha

  refine ex_intro (L0 := [.ref p, .int (nI m), .int (nI a), .null]) (by decide +kernel) rfl rfl (Nat.le_of_ble_eq_true rfl) rfl ?_
  refine g_bipush (q := 2) (v := nI 62) dX7_isPlace_0 rfl (by decide) ?_
  refine g_bipush (q := 4) (v := nI 6) dX7_isPlace_2 rfl (by decide) ?_
  refine g_iload_n (q := 5) dX7_isPlace_4 rfl rfl ?_
  refine g_imul (q := 6) dX7_isPlace_5 rfl ?_
  refine g_iadd (q := 7) dX7_isPlace_6 rfl ?_
  rw [show nI 62 + nI 6 * nI a = nI (62 + 6 * a) from nI_a rfl (nI_m rfl rfl)]
  refine g_istore_n (q := 8) dX7_isPlace_7 rfl (by decide) rfl rfl ?_
  refine g_aload_n (q := 9) dX7_isPlace_8 rfl rfl ?_
  refine g_iconst (q := 10) (v := nI 2) dX7_isPlace_9 rfl (by decide) ?_
  refine g_bipush (q := 12) (v := nI 10) dX7_isPlace_10 rfl (by decide) ?_
  refine g_iload_n (q := 13) dX7_isPlace_12 rfl rfl ?_
  refine g_imul (q := 14) dX7_isPlace_13 rfl ?_
  refine g_iadd (q := 15) dX7_isPlace_14 rfl ?_
  refine g_ialdn (q := 16) (by first | assumption | rfl) (by repeat' first | apply nI_a | apply nI_m | exact rfl) (by omega) dX7_isPlace_15 rfl ?_
  rw [hM.cl hm]
  refine g_aload_n (q := 17) dX7_isPlace_16 rfl rfl ?_
  refine g_iload_n (q := 18) dX7_isPlace_17 rfl rfl ?_
  refine g_iconst (q := 19) (v := nI 2) dX7_isPlace_18 rfl (by decide) ?_
  refine g_iadd (q := 20) dX7_isPlace_19 rfl ?_
  refine g_ialdn (q := 21) (by first | assumption | rfl) (by repeat' first | apply nI_a | apply nI_m | exact rfl) (by omega) dX7_isPlace_20 rfl ?_
  rw [hM.f1 ha]
  refine k_X7_158 (q := 24) rfl (Nat.le_of_ble_eq_true rfl) dX7_isPlace_21 rfl (c_X7_isBelow (by omega) (by omega) (fun z21 => ?_) (fun z21 => ?_))
  · refine g_if_eq (tgt := 50) (q := 27) dX7_isPlace_24 (by decide) rfl (fun c24 => absurd c24 (by decide)) (fun _ => ?_)
    refine g_aload_n (q := 28) dX7_isPlace_27 rfl rfl ?_
    refine g_iload_n (q := 29) dX7_isPlace_28 rfl rfl ?_
    refine g_iconst (q := 30) (v := nI 3) dX7_isPlace_29 rfl (by decide) ?_
    refine g_iadd (q := 31) dX7_isPlace_30 rfl ?_
    refine g_ialdn (q := 32) (by first | assumption | rfl) (by repeat' first | apply nI_a | apply nI_m | exact rfl) (by omega) dX7_isPlace_31 rfl ?_
    rw [hM.f2 ha]
    refine g_bipush (q := 34) (v := nI 6) dX7_isPlace_32 rfl (by decide) ?_
    refine g_icmp_eq (tgt := 46) (q := 37) dX7_isPlace_34 (by decide) rfl (fun c34 => ?_) (fun c34 => ?_)
    · refine g_iconst (q := 47) (v := nI 1) dX7_isPlace_46 rfl (by decide) ?_
      refine g_goto (q := 51) dX7_isPlace_47 (by decide) ?_
      refine g_zret rfl (by decide) dX7_isPlace_51 (Nat.le_refl _) (Nat.le_refl _) ?_
      exact h1 (by unfold aboutF; rw [z21, show vfa v a 2 = 6 from (nI_eq (by omega) (by omega)).mp c34]; rfl)
    · refine g_aload_n (q := 38) dX7_isPlace_37 rfl rfl ?_
      refine g_iload_n (q := 39) dX7_isPlace_38 rfl rfl ?_
      refine g_iconst (q := 40) (v := nI 3) dX7_isPlace_39 rfl (by decide) ?_
      refine g_iadd (q := 41) dX7_isPlace_40 rfl ?_
      refine g_ialdn (q := 42) (by first | assumption | rfl) (by repeat' first | apply nI_a | apply nI_m | exact rfl) (by omega) dX7_isPlace_41 rfl ?_
      rw [hM.f2 ha]
      refine g_iload_n (q := 43) dX7_isPlace_42 rfl rfl ?_
      refine g_icmp_ne (tgt := 50) (q := 46) dX7_isPlace_43 (by decide) rfl (fun c43 => ?_) (fun c43 => ?_)
      · refine g_iconst (q := 51) (v := nI 0) dX7_isPlace_50 rfl (by decide) ?_
        refine g_zret rfl (by decide) dX7_isPlace_51 (Nat.le_refl _) (Nat.le_refl _) ?_
        exact h0 (by unfold aboutF; rw [z21]; have q6 : ¬ vfa v a 2 = 6 := (fun z => c34 (by rw [z])); have qm : ¬ vfa v a 2 = m := (fun z => c43 (by rw [z])); simp [q6, qm])
      · refine g_iconst (q := 47) (v := nI 1) dX7_isPlace_46 rfl (by decide) ?_
        refine g_goto (q := 51) dX7_isPlace_47 (by decide) ?_
        refine g_zret rfl (by decide) dX7_isPlace_51 (Nat.le_refl _) (Nat.le_refl _) ?_
        exact h1 (by unfold aboutF; rw [z21, show vfa v a 2 = m from (nI_eq (by omega) (by omega)).mp c43]; simp)
  · refine g_if_eq (tgt := 50) (q := 27) dX7_isPlace_24 (by decide) rfl (fun _ => ?_) (fun c24 => absurd c24 (by decide))
    refine g_iconst (q := 51) (v := nI 0) dX7_isPlace_50 rfl (by decide) ?_
    refine g_zret rfl (by decide) dX7_isPlace_51 (Nat.le_refl _) (Nat.le_refl _) ?_
    exact h0 (by unfold aboutF; rw [z21]; rfl)
set_option maxRecDepth 100000 in
set_option maxHeartbeats 400000 in
theorem c_X7_callsOf {d k : Nat} {I : Nat → Nat → Int32} {Q : Option Int32 → Wd → Prop} {p : Nat} {v : Vv} {m : Nat} (hsp : shn 68 p = (1, 92)) (hM : MRep I p 0 v) (hV : VOk v) (hm : m < vnm v) (h : Q (some (nI (callF v m))) (I, RR k)) : Ex d 0 0 mX7_callsOf [.ref p, .int (nI m)] 68 (I, RR k) 68 Q := by
  obtain ⟨v1, v2, v3, v4⟩ := id hV
  have k1 := (v3 m hm).2.1

  refine ex_intro (L0 := [.ref p, .int (nI m), .null, .null, .null]) (by decide +kernel) rfl rfl (Nat.le_of_ble_eq_true rfl) rfl ?_
  refine g_iconst (q := 1) (v := nI 0) dX7_callsOf_0 rfl (by decide) ?_
  refine g_istore_n (q := 2) dX7_callsOf_1 rfl (by decide) rfl rfl ?_
  refine g_iconst (q := 3) (v := nI 0) dX7_callsOf_2 rfl (by decide) ?_
  refine g_istore_n (q := 4) dX7_callsOf_3 rfl (by decide) rfl rfl ?_
  suffices hl : ∀ (t i : Nat) (u : Value), i + t = vln v m → G mX7_callsOf (rmd d 0 0) (Zm Q 68 68 0 0) 68 4 [.ref p, .int (nI m), .int (nI (orN i (cbit v m))), .int (nI i), u] [] 68 (I, RR k) 0 0 from hl (vln v m) 0 .null (Nat.zero_add _)
  intro t
  induction t with
  | zero =>
    intro i u hi
    have hi : i = vln v m := by omega
    subst hi
    refine g_iload_n (q := 5) dX7_callsOf_4 rfl rfl ?_
    refine g_aload_n (q := 6) dX7_callsOf_5 rfl rfl ?_
    refine g_iconst (q := 7) (v := nI 2) dX7_callsOf_6 rfl (by decide) ?_
    refine g_bipush (q := 9) (v := nI 10) dX7_callsOf_7 rfl (by decide) ?_
    refine g_iload_n (q := 10) dX7_callsOf_9 rfl rfl ?_
    refine g_imul (q := 11) dX7_callsOf_10 rfl ?_
    refine g_iadd (q := 12) dX7_callsOf_11 rfl ?_
    refine g_iconst (q := 13) (v := nI 1) dX7_callsOf_12 rfl (by decide) ?_
    refine g_iadd (q := 14) dX7_callsOf_13 rfl ?_
    refine g_ialdn (q := 15) (by first | assumption | rfl) (by repeat' first | apply nI_a | apply nI_m | exact rfl) (by omega) dX7_callsOf_14 rfl ?_
    rw [hM.ln hm]
    refine g_icmp_ge (tgt := 61) (q := 18) dX7_callsOf_15 (by decide) rfl (fun _ => ?_) (fun c15 => absurd (Int32.le_refl _) c15)
    refine g_iload_n (q := 62) dX7_callsOf_61 rfl rfl ?_
    refine g_iret rfl dX7_callsOf_62 (Nat.le_refl _) (Nat.le_refl _) ?_
    exact h
  | succ t ih =>
    intro i u hi
    have hi2 : i < vln v m := by omega
    refine g_iload_n (q := 5) dX7_callsOf_4 rfl rfl ?_
    refine g_aload_n (q := 6) dX7_callsOf_5 rfl rfl ?_
    refine g_iconst (q := 7) (v := nI 2) dX7_callsOf_6 rfl (by decide) ?_
    refine g_bipush (q := 9) (v := nI 10) dX7_callsOf_7 rfl (by decide) ?_
    refine g_iload_n (q := 10) dX7_callsOf_9 rfl rfl ?_
    refine g_imul (q := 11) dX7_callsOf_10 rfl ?_
    refine g_iadd (q := 12) dX7_callsOf_11 rfl ?_
    skip
    refine g_iconst (q := 13) (v := nI 1) dX7_callsOf_12 rfl (by decide) ?_
    refine g_iadd (q := 14) dX7_callsOf_13 rfl ?_
    refine g_ialdn (q := 15) (by first | assumption | rfl) (by repeat' first | apply nI_a | apply nI_m | exact rfl) (by omega) dX7_callsOf_14 rfl ?_
    rw [hM.ln hm]
    refine g_icmp_ge (tgt := 61) (q := 18) dX7_callsOf_15 (by decide) rfl (fun c15 => absurd c15 (nI_ge (by omega) (by omega))) (fun _ => ?_)
    refine g_iconst (q := 19) (v := nI 2) dX7_callsOf_18 rfl (by decide) ?_
    refine g_bipush (q := 21) (v := nI 10) dX7_callsOf_19 rfl (by decide) ?_
    refine g_iload_n (q := 22) dX7_callsOf_21 rfl rfl ?_
    refine g_imul (q := 23) dX7_callsOf_22 rfl ?_
    refine g_iadd (q := 24) dX7_callsOf_23 rfl ?_
    refine g_iconst (q := 25) (v := nI 2) dX7_callsOf_24 rfl (by decide) ?_
    refine g_iadd (q := 26) dX7_callsOf_25 rfl ?_
    refine g_iconst (q := 27) (v := nI 2) dX7_callsOf_26 rfl (by decide) ?_
    refine g_iload_n (q := 28) dX7_callsOf_27 rfl rfl ?_
    refine g_imul (q := 29) dX7_callsOf_28 rfl ?_
    refine g_iadd (q := 30) dX7_callsOf_29 rfl ?_
    rw [show nI 2 + nI 10 * nI m + nI 2 + nI 2 * nI i = nI (2 + 10 * m + 2 + 2 * i) from nI_a (nI_a (nI_a rfl (nI_m rfl rfl)) rfl) (nI_m rfl rfl)]
    refine g_istore (q := 32) dX7_callsOf_30 rfl (by decide) rfl rfl ?_
    refine g_iload_n (q := 33) dX7_callsOf_32 rfl rfl ?_
    refine g_aload_n (q := 34) dX7_callsOf_33 rfl rfl ?_
    refine g_iload (q := 36) dX7_callsOf_34 rfl rfl ?_
    refine g_ialdn (q := 37) (by first | assumption | rfl) (by repeat' first | apply nI_a | apply nI_m | exact rfl) (by omega) dX7_callsOf_36 rfl ?_
    rw [hM.so hm hi2]
    refine g_iconst (q := 38) (v := nI 1) dX7_callsOf_37 rfl (by decide) ?_
    refine g_icmp_ne (tgt := 52) (q := 41) dX7_callsOf_38 (by decide) rfl (fun c38 => ?_) (fun c38 => ?_)
    · refine g_iconst (q := 53) (v := nI 0) dX7_callsOf_52 rfl (by decide) ?_
      refine g_ior (q := 54) dX7_callsOf_53 rfl ?_
      first | rw [bit_or _ (callP_lt hV.w hm (by omega)) _ (cbit_lt hV.w hm hi2)] | rw [show nI 0 = nI (cbit v m i) by unfold cbit; rw [if_neg (fun z => c38 (by rw [z]))], bit_or _ (callP_lt hV.w hm (by omega)) _ (cbit_lt hV.w hm hi2)]
      refine g_istore_n (q := 55) dX7_callsOf_54 rfl (by decide) rfl rfl ?_
      refine g_iincn (q := 58) dX7_callsOf_55 rfl rfl (by decide) rfl rfl ?_
      refine g_goto (q := 4) dX7_callsOf_58 (by decide) ?_
      exact ih (i + 1) _ (by omega)
    · refine g_iconst (q := 42) (v := nI 1) dX7_callsOf_41 rfl (by decide) ?_
      refine g_aload_n (q := 43) dX7_callsOf_42 rfl rfl ?_
      refine g_iload (q := 45) dX7_callsOf_43 rfl rfl ?_
      refine g_iconst (q := 46) (v := nI 1) dX7_callsOf_45 rfl (by decide) ?_
      refine g_iadd (q := 47) dX7_callsOf_46 rfl ?_
      refine g_ialdn (q := 48) (by first | assumption | rfl) (by repeat' first | apply nI_a | apply nI_m | exact rfl) (by omega) dX7_callsOf_47 rfl ?_
      rw [hM.op hm hi2]
      refine g_ishl (q := 49) dX7_callsOf_48 rfl ?_
      have e1 : vso v m i = 1 := (nI_eq (by have := ((v3 m hm).2.2 i hi2).1; omega) (by omega)).mp c38
      have e2 := ((v3 m hm).2.2 i hi2).2.2.1 e1
      rw [bit_sh (vop v m i) (by omega), show 1 <<< vop v m i = cbit v m i by unfold cbit; rw [if_pos e1]]
      refine g_goto (q := 53) dX7_callsOf_49 (by decide) ?_
      refine g_ior (q := 54) dX7_callsOf_53 rfl ?_
      first | rw [bit_or _ (callP_lt hV.w hm (by omega)) _ (cbit_lt hV.w hm hi2)] | rw [show nI 0 = nI (cbit v m i) by unfold cbit; rw [if_neg (fun z => c38 (by rw [z]))], bit_or _ (callP_lt hV.w hm (by omega)) _ (cbit_lt hV.w hm hi2)]
      refine g_istore_n (q := 55) dX7_callsOf_54 rfl (by decide) rfl rfl ?_
      refine g_iincn (q := 58) dX7_callsOf_55 rfl rfl (by decide) rfl rfl ?_
      refine g_goto (q := 4) dX7_callsOf_58 (by decide) ?_
      exact ih (i + 1) _ (by omega)
set_option maxRecDepth 100000 in
set_option maxHeartbeats 400000 in
theorem c_X7_reachedOf {d k : Nat} {I : Nat → Nat → Int32} {Q : Option Int32 → Wd → Prop} {p : Nat} {v : Vv} {m : Nat} (hsp : shn 68 p = (1, 92)) (hM : MRep I p 0 v) (hV : VOk v) (hm : m < vnm v) (h : Q (some (nI (reachF v m))) (I, RR k)) : Ex (d + 1) 0 0 mX7_reachedOf [.ref p, .int (nI m)] 68 (I, RR k) 68 Q := by
  obtain ⟨v1, v2, v3, v4⟩ := id hV
  have k0 := callF_lt hV.w hm

  refine ex_intro (L0 := [.ref p, .int (nI m), .null, .null, .null]) (by decide +kernel) rfl rfl (Nat.le_of_ble_eq_true rfl) rfl ?_
  refine g_aload_n (q := 1) dX7_reachedOf_0 rfl rfl ?_
  refine g_iload_n (q := 2) dX7_reachedOf_1 rfl rfl ?_
  refine k_X7_162 (q := 5) rfl (Nat.le_of_ble_eq_true rfl) dX7_reachedOf_2 rfl (c_X7_callsOf hsp hM hV (by assumption) ?_)
  refine g_istore_n (q := 6) dX7_reachedOf_5 rfl (by decide) rfl rfl ?_
  refine g_iconst (q := 7) (v := nI 0) dX7_reachedOf_6 rfl (by decide) ?_
  refine g_istore_n (q := 8) dX7_reachedOf_7 rfl (by decide) rfl rfl ?_
  suffices hl : ∀ (t r : Nat) (u : Value), r + t = 6 → G mX7_reachedOf (rmd (d + 1) 0 0) (Zm Q 68 68 0 0) 68 8 [.ref p, .int (nI m), .int (nI (itN r (pasF v (vnm v)) (callF v m))), .int (nI r), u] [] 68 (I, RR k) 0 0 from hl 6 0 .null rfl
  intro t
  induction t with
  | zero =>
    intro r u hi
    have hi : r = 6 := by omega
    subst hi
    refine g_iload_n (q := 9) dX7_reachedOf_8 rfl rfl ?_
    refine g_bipush (q := 11) (v := nI 6) dX7_reachedOf_9 rfl (by decide) ?_
    refine g_icmp_ge (tgt := 59) (q := 14) dX7_reachedOf_11 (by decide) rfl (fun _ => ?_) (fun c11 => absurd (Int32.le_refl _) c11)
    refine g_iload_n (q := 60) dX7_reachedOf_59 rfl rfl ?_
    refine g_iret rfl dX7_reachedOf_60 (Nat.le_refl _) (Nat.le_refl _) ?_
    rw [reach_pas hV hm]
    exact h
  | succ t ih =>
    intro r u hi
    have hs := itp_lt hV k0 r
    generalize hgs : itN r (pasF v (vnm v)) (callF v m) = s at hs
    refine g_iload_n (q := 9) dX7_reachedOf_8 rfl rfl ?_
    refine g_bipush (q := 11) (v := nI 6) dX7_reachedOf_9 rfl (by decide) ?_
    refine g_icmp_ge (tgt := 59) (q := 14) dX7_reachedOf_11 (by decide) rfl (fun c11 => absurd c11 (nI_ge (by omega) (by omega))) (fun _ => ?_)
    refine g_iconst (q := 15) (v := nI 0) dX7_reachedOf_14 rfl (by decide) ?_
    refine g_istore (q := 17) dX7_reachedOf_15 rfl (by decide) rfl rfl ?_
    suffices hl2 : ∀ (y c : Nat), c + y = vnm v → G mX7_reachedOf (rmd (d + 1) 0 0) (Zm Q 68 68 0 0) 68 17 [.ref p, .int (nI m), .int (nI (pasF v c s)), .int (nI r), .int (nI c)] [] 68 (I, RR k) 0 0 from hl2 (vnm v) 0 (Nat.zero_add _)
    intro y
    induction y with
    | zero =>
      intro c hc
      have hc : c = vnm v := by omega
      subst hc
      refine g_iload (q := 19) dX7_reachedOf_17 rfl rfl ?_
      refine g_aload_n (q := 20) dX7_reachedOf_19 rfl rfl ?_
      refine g_iconst (q := 21) (v := nI 0) dX7_reachedOf_20 rfl (by decide) ?_
      refine g_ialdn (q := 22) (by first | assumption | rfl) (by repeat' first | apply nI_a | apply nI_m | exact rfl) (by omega) dX7_reachedOf_21 rfl ?_
      rw [hM.nm]
      refine g_icmp_ge (tgt := 53) (q := 25) dX7_reachedOf_22 (by decide) rfl (fun _ => ?_) (fun c22 => absurd (Int32.le_refl _) c22)
      refine g_iincn (q := 56) dX7_reachedOf_53 rfl rfl (by decide) rfl rfl ?_
      refine g_goto (q := 8) dX7_reachedOf_56 (by decide) ?_
      have e : pasF v (vnm v) s = itN (r + 1) (pasF v (vnm v)) (callF v m) := by rw [← hgs]; rfl
      rw [e]
      exact ih (r + 1) _ (by omega)
    | succ y ih2 =>
      intro c hc
      have hcm : c < vnm v := by omega
      have hp := pas_lt hV hs c (by omega)
      refine g_iload (q := 19) dX7_reachedOf_17 rfl rfl ?_
      refine g_aload_n (q := 20) dX7_reachedOf_19 rfl rfl ?_
      refine g_iconst (q := 21) (v := nI 0) dX7_reachedOf_20 rfl (by decide) ?_
      refine g_ialdn (q := 22) (by first | assumption | rfl) (by repeat' first | apply nI_a | apply nI_m | exact rfl) (by omega) dX7_reachedOf_21 rfl ?_
      rw [hM.nm]
      refine g_icmp_ge (tgt := 53) (q := 25) dX7_reachedOf_22 (by decide) rfl (fun c22 => absurd c22 (nI_ge (by omega) (by omega))) (fun _ => ?_)
      refine g_iload_n (q := 26) dX7_reachedOf_25 rfl rfl ?_
      refine g_iload_n (q := 27) dX7_reachedOf_26 rfl rfl ?_
      refine g_iload (q := 29) dX7_reachedOf_27 rfl rfl ?_
      refine k_X7_166 (q := 32) rfl (Nat.le_of_ble_eq_true rfl) dX7_reachedOf_29 rfl (c_X7_has hp (by omega) (fun z29 => ?_) (fun z29 => ?_))
      · refine g_if_eq (tgt := 44) (q := 35) dX7_reachedOf_32 (by decide) rfl (fun c32 => absurd c32 (by decide)) (fun _ => ?_)
        refine g_aload_n (q := 36) dX7_reachedOf_35 rfl rfl ?_
        refine g_iload (q := 38) dX7_reachedOf_36 rfl rfl ?_
        refine k_X7_162 (q := 41) rfl (Nat.le_of_ble_eq_true rfl) dX7_reachedOf_38 rfl (c_X7_callsOf hsp hM hV (by assumption) ?_)
        refine g_goto (q := 45) dX7_reachedOf_41 (by decide) ?_
        refine g_ior (q := 46) dX7_reachedOf_45 rfl ?_
        first | rw [show callF v c = abit v (pasF v c s) c by unfold abit; rw [if_pos z29], bit_or _ hp _ (abit_lt hV hcm)] | rw [show nI 0 = nI (abit v (pasF v c s) c) by unfold abit; rw [if_neg (by rw [z29]; decide)], bit_or _ hp _ (abit_lt hV hcm)]
        refine g_istore_n (q := 47) dX7_reachedOf_46 rfl (by decide) rfl rfl ?_
        refine g_iincn (q := 50) dX7_reachedOf_47 rfl rfl (by decide) rfl rfl ?_
        refine g_goto (q := 17) dX7_reachedOf_50 (by decide) ?_
        exact ih2 (c + 1) (by omega)
      · refine g_if_eq (tgt := 44) (q := 35) dX7_reachedOf_32 (by decide) rfl (fun _ => ?_) (fun c32 => absurd c32 (by decide))
        refine g_iconst (q := 45) (v := nI 0) dX7_reachedOf_44 rfl (by decide) ?_
        refine g_ior (q := 46) dX7_reachedOf_45 rfl ?_
        first | rw [show callF v c = abit v (pasF v c s) c by unfold abit; rw [if_pos z29], bit_or _ hp _ (abit_lt hV hcm)] | rw [show nI 0 = nI (abit v (pasF v c s) c) by unfold abit; rw [if_neg (by rw [z29]; decide)], bit_or _ hp _ (abit_lt hV hcm)]
        refine g_istore_n (q := 47) dX7_reachedOf_46 rfl (by decide) rfl rfl ?_
        refine g_iincn (q := 50) dX7_reachedOf_47 rfl rfl (by decide) rfl rfl ?_
        refine g_goto (q := 17) dX7_reachedOf_50 (by decide) ?_
        exact ih2 (c + 1) (by omega)
set_option maxRecDepth 100000 in
set_option maxHeartbeats 400000 in
theorem c_X7_aheadOf {d k : Nat} {I : Nat → Nat → Int32} {Q : Option Int32 → Wd → Prop} {p : Nat} {v : Vv} {m a : Nat} (hsp : shn 68 p = (1, 92)) (hM : MRep I p 0 v) (hV : VOk v) (hm : m < vnm v) (ha : a < vna v) (h : Q (some (nI (knownF v m a))) (I, RR k)) : Ex (d + 2) 0 0 mX7_aheadOf [.ref p, .int (nI m), .int (nI a)] 68 (I, RR k) 68 Q := by
  obtain ⟨v1, v2, v3, v4⟩ := id hV
  have k2 := v4 a ha
  have q6 : nI (vfa v a 4) = nI 6 ↔ vfa v a 4 = 6 := nI_eq (by omega) (by omega)
  have qm : nI (vfa v a 4) = nI m ↔ vfa v a 4 = m := nI_eq (by omega) (by omega)
  have q0 : nI (vfa v a 3) = 0 ↔ vfa v a 3 = 0 := nI_eq (b := 0) (by omega) (by omega)
  have q10 : nI (vfa v a 3) = nI 10 ↔ vfa v a 3 = 10 := nI_eq (by omega) (by omega)

  refine ex_intro (L0 := [.ref p, .int (nI m), .int (nI a), .null, .null, .null]) (by decide +kernel) rfl rfl (Nat.le_of_ble_eq_true rfl) rfl ?_
  refine g_bipush (q := 2) (v := nI 62) dX7_aheadOf_0 rfl (by decide) ?_
  refine g_bipush (q := 4) (v := nI 6) dX7_aheadOf_2 rfl (by decide) ?_
  refine g_iload_n (q := 5) dX7_aheadOf_4 rfl rfl ?_
  refine g_imul (q := 6) dX7_aheadOf_5 rfl ?_
  refine g_iadd (q := 7) dX7_aheadOf_6 rfl ?_
  rw [show nI 62 + nI 6 * nI a = nI (62 + 6 * a) from nI_a rfl (nI_m rfl rfl)]
  refine g_istore_n (q := 8) dX7_aheadOf_7 rfl (by decide) rfl rfl ?_
  refine g_aload_n (q := 9) dX7_aheadOf_8 rfl rfl ?_
  refine g_iload_n (q := 10) dX7_aheadOf_9 rfl rfl ?_
  refine g_iconst (q := 11) (v := nI 5) dX7_aheadOf_10 rfl (by decide) ?_
  refine g_iadd (q := 12) dX7_aheadOf_11 rfl ?_
  refine g_ialdn (q := 13) (by first | assumption | rfl) (by repeat' first | apply nI_a | apply nI_m | exact rfl) (by omega) dX7_aheadOf_12 rfl ?_
  rw [hM.f4 ha]
  refine g_istore (q := 15) dX7_aheadOf_13 rfl (by decide) rfl rfl ?_
  refine g_iload (q := 17) dX7_aheadOf_15 rfl rfl ?_
  refine g_bipush (q := 19) (v := nI 6) dX7_aheadOf_17 rfl (by decide) ?_
  refine g_icmp_eq (tgt := 49) (q := 22) dX7_aheadOf_19 (by decide) rfl (fun c19 => ?_) (fun c19 => ?_)
  · refine g_iconst (q := 50) (v := nI 1) dX7_aheadOf_49 rfl (by decide) ?_
    refine g_goto (q := 54) dX7_aheadOf_50 (by decide) ?_
    have hmay : mayF v m (vfa v a 4) = true := by unfold mayF; rw [q6.mp c19]; rfl
    refine g_istore (q := 56) dX7_aheadOf_54 rfl (by decide) rfl rfl ?_
    refine g_aload_n (q := 57) dX7_aheadOf_56 rfl rfl ?_
    refine g_iload_n (q := 58) dX7_aheadOf_57 rfl rfl ?_
    refine g_iload_n (q := 59) dX7_aheadOf_58 rfl rfl ?_
    refine k_X7_172 (q := 62) rfl (Nat.le_of_ble_eq_true rfl) dX7_aheadOf_59 rfl (c_X7_isPlace hsp hM hV (by assumption) (by assumption) (fun z59 => ?_) (fun z59 => ?_))
    · refine g_if_eq (tgt := 78) (q := 65) dX7_aheadOf_62 (by decide) rfl (fun c62 => absurd c62 (by decide)) (fun _ => ?_)
      refine g_aload_n (q := 66) dX7_aheadOf_65 rfl rfl ?_
      refine g_iload_n (q := 67) dX7_aheadOf_66 rfl rfl ?_
      refine g_iconst (q := 68) (v := nI 4) dX7_aheadOf_67 rfl (by decide) ?_
      refine g_iadd (q := 69) dX7_aheadOf_68 rfl ?_
      refine g_ialdn (q := 70) (by first | assumption | rfl) (by repeat' first | apply nI_a | apply nI_m | exact rfl) (by omega) dX7_aheadOf_69 rfl ?_
      rw [hM.f3 ha]
      refine g_if_eq (tgt := 78) (q := 73) dX7_aheadOf_70 (by decide) rfl (fun c70 => ?_) (fun c70 => ?_)
      · refine g_iconst (q := 79) (v := nI 0) dX7_aheadOf_78 rfl (by decide) ?_
        refine g_iret rfl dX7_aheadOf_79 (Nat.le_refl _) (Nat.le_refl _) ?_
        rw [knownF, if_neg (fun z => z.2.1 (q0.mp c70))] at h
        exact h
      · refine g_iload (q := 75) dX7_aheadOf_73 rfl rfl ?_
        refine g_if_ne (tgt := 80) (q := 78) dX7_aheadOf_75 (by decide) rfl (fun _ => ?_) (fun c75 => absurd c75 (by decide))
        refine g_aload_n (q := 81) dX7_aheadOf_80 rfl rfl ?_
        refine g_iload_n (q := 82) dX7_aheadOf_81 rfl rfl ?_
        refine g_iconst (q := 83) (v := nI 4) dX7_aheadOf_82 rfl (by decide) ?_
        refine g_iadd (q := 84) dX7_aheadOf_83 rfl ?_
        refine g_ialdn (q := 85) (by first | assumption | rfl) (by repeat' first | apply nI_a | apply nI_m | exact rfl) (by omega) dX7_aheadOf_84 rfl ?_
        rw [hM.f3 ha]
        refine g_bipush (q := 87) (v := nI 10) dX7_aheadOf_85 rfl (by decide) ?_
        refine g_icmp_ne (tgt := 107) (q := 90) dX7_aheadOf_87 (by decide) rfl (fun c87 => ?_) (fun c87 => ?_)
        · refine g_iconst (q := 108) (v := nI 2) dX7_aheadOf_107 rfl (by decide) ?_
          refine g_iret rfl dX7_aheadOf_108 (Nat.le_refl _) (Nat.le_refl _) ?_
          rw [knownF, if_pos ⟨z59, fun z => c70 (q0.mpr z), hmay⟩, if_neg (fun z => c87 (q10.mpr z.1))] at h
          exact h
        · refine g_iload (q := 92) dX7_aheadOf_90 rfl rfl ?_
          refine g_bipush (q := 94) (v := nI 6) dX7_aheadOf_92 rfl (by decide) ?_
          refine g_icmp_eq (tgt := 103) (q := 97) dX7_aheadOf_94 (by decide) rfl (fun c94 => ?_) (fun c94 => ?_)
          · refine g_iconst (q := 104) (v := nI 1) dX7_aheadOf_103 rfl (by decide) ?_
            refine g_goto (q := 108) dX7_aheadOf_104 (by decide) ?_
            refine g_iret rfl dX7_aheadOf_108 (Nat.le_refl _) (Nat.le_refl _) ?_
            rw [knownF, if_pos ⟨z59, fun z => c70 (q0.mpr z), hmay⟩, if_pos ⟨q10.mp c87, Or.inl (q6.mp c94)⟩] at h
            exact h
          · refine g_iload (q := 99) dX7_aheadOf_97 rfl rfl ?_
            refine g_iload_n (q := 100) dX7_aheadOf_99 rfl rfl ?_
            refine g_icmp_ne (tgt := 107) (q := 103) dX7_aheadOf_100 (by decide) rfl (fun c100 => ?_) (fun c100 => ?_)
            · refine g_iconst (q := 108) (v := nI 2) dX7_aheadOf_107 rfl (by decide) ?_
              refine g_iret rfl dX7_aheadOf_108 (Nat.le_refl _) (Nat.le_refl _) ?_
              rw [knownF, if_pos ⟨z59, fun z => c70 (q0.mpr z), hmay⟩, if_neg (fun z => z.2.elim (fun y => c94 (q6.mpr y)) (fun y => c100 (qm.mpr y)))] at h
              exact h
            · refine g_iconst (q := 104) (v := nI 1) dX7_aheadOf_103 rfl (by decide) ?_
              refine g_goto (q := 108) dX7_aheadOf_104 (by decide) ?_
              refine g_iret rfl dX7_aheadOf_108 (Nat.le_refl _) (Nat.le_refl _) ?_
              rw [knownF, if_pos ⟨z59, fun z => c70 (q0.mpr z), hmay⟩, if_pos ⟨q10.mp c87, Or.inr (qm.mp c100)⟩] at h
              exact h
    · refine g_if_eq (tgt := 78) (q := 65) dX7_aheadOf_62 (by decide) rfl (fun _ => ?_) (fun c62 => absurd c62 (by decide))
      refine g_iconst (q := 79) (v := nI 0) dX7_aheadOf_78 rfl (by decide) ?_
      refine g_iret rfl dX7_aheadOf_79 (Nat.le_refl _) (Nat.le_refl _) ?_
      rw [knownF, if_neg (fun z => by rw [z59] at z; exact absurd z.1 (by decide))] at h
      exact h
  · refine g_iload (q := 24) dX7_aheadOf_22 rfl rfl ?_
    refine g_aload_n (q := 25) dX7_aheadOf_24 rfl rfl ?_
    refine g_iconst (q := 26) (v := nI 0) dX7_aheadOf_25 rfl (by decide) ?_
    refine g_ialdn (q := 27) (by first | assumption | rfl) (by repeat' first | apply nI_a | apply nI_m | exact rfl) (by omega) dX7_aheadOf_26 rfl ?_
    rw [hM.nm]
    refine g_icmp_ge (tgt := 53) (q := 30) dX7_aheadOf_27 (by decide) rfl (fun c27 => ?_) (fun c27 => ?_)
    · refine g_iconst (q := 54) (v := nI 0) dX7_aheadOf_53 rfl (by decide) ?_
      have hmay : mayF v m (vfa v a 4) = false := by
        have e1 : ¬ vfa v a 4 = 6 := fun z => c19 (q6.mpr z)
        have e2 : vnm v ≤ vfa v a 4 := (nI_leI (by omega) (by omega)).mp c27
        have e3 : ¬ vfa v a 4 = m := by omega
        have e4 : ¬ vfa v a 4 < vnm v := by omega
        simp [mayF, e1, e3, e4]
      refine g_istore (q := 56) dX7_aheadOf_54 rfl (by decide) rfl rfl ?_
      refine g_aload_n (q := 57) dX7_aheadOf_56 rfl rfl ?_
      refine g_iload_n (q := 58) dX7_aheadOf_57 rfl rfl ?_
      refine g_iload_n (q := 59) dX7_aheadOf_58 rfl rfl ?_
      refine k_X7_172 (q := 62) rfl (Nat.le_of_ble_eq_true rfl) dX7_aheadOf_59 rfl (c_X7_isPlace hsp hM hV (by assumption) (by assumption) (fun z59 => ?_) (fun z59 => ?_))
      · refine g_if_eq (tgt := 78) (q := 65) dX7_aheadOf_62 (by decide) rfl (fun c62 => absurd c62 (by decide)) (fun _ => ?_)
        refine g_aload_n (q := 66) dX7_aheadOf_65 rfl rfl ?_
        refine g_iload_n (q := 67) dX7_aheadOf_66 rfl rfl ?_
        refine g_iconst (q := 68) (v := nI 4) dX7_aheadOf_67 rfl (by decide) ?_
        refine g_iadd (q := 69) dX7_aheadOf_68 rfl ?_
        refine g_ialdn (q := 70) (by first | assumption | rfl) (by repeat' first | apply nI_a | apply nI_m | exact rfl) (by omega) dX7_aheadOf_69 rfl ?_
        rw [hM.f3 ha]
        refine g_if_eq (tgt := 78) (q := 73) dX7_aheadOf_70 (by decide) rfl (fun c70 => ?_) (fun c70 => ?_)
        · refine g_iconst (q := 79) (v := nI 0) dX7_aheadOf_78 rfl (by decide) ?_
          refine g_iret rfl dX7_aheadOf_79 (Nat.le_refl _) (Nat.le_refl _) ?_
          rw [knownF, if_neg (fun z => z.2.1 (q0.mp c70))] at h
          exact h
        · refine g_iload (q := 75) dX7_aheadOf_73 rfl rfl ?_
          refine g_if_ne (tgt := 80) (q := 78) dX7_aheadOf_75 (by decide) rfl (fun c75 => absurd c75 (by decide)) (fun _ => ?_)
          refine g_iconst (q := 79) (v := nI 0) dX7_aheadOf_78 rfl (by decide) ?_
          refine g_iret rfl dX7_aheadOf_79 (Nat.le_refl _) (Nat.le_refl _) ?_
          rw [knownF, if_neg (fun z => by rw [hmay] at z; exact absurd z.2.2 (by decide))] at h
          exact h
      · refine g_if_eq (tgt := 78) (q := 65) dX7_aheadOf_62 (by decide) rfl (fun _ => ?_) (fun c62 => absurd c62 (by decide))
        refine g_iconst (q := 79) (v := nI 0) dX7_aheadOf_78 rfl (by decide) ?_
        refine g_iret rfl dX7_aheadOf_79 (Nat.le_refl _) (Nat.le_refl _) ?_
        rw [knownF, if_neg (fun z => by rw [z59] at z; exact absurd z.1 (by decide))] at h
        exact h
    · refine g_iload (q := 32) dX7_aheadOf_30 rfl rfl ?_
      refine g_iload_n (q := 33) dX7_aheadOf_32 rfl rfl ?_
      refine g_icmp_eq (tgt := 49) (q := 36) dX7_aheadOf_33 (by decide) rfl (fun c33 => ?_) (fun c33 => ?_)
      · refine g_iconst (q := 50) (v := nI 1) dX7_aheadOf_49 rfl (by decide) ?_
        refine g_goto (q := 54) dX7_aheadOf_50 (by decide) ?_
        have hmay : mayF v m (vfa v a 4) = true := by unfold mayF; rw [qm.mp c33]; simp
        refine g_istore (q := 56) dX7_aheadOf_54 rfl (by decide) rfl rfl ?_
        refine g_aload_n (q := 57) dX7_aheadOf_56 rfl rfl ?_
        refine g_iload_n (q := 58) dX7_aheadOf_57 rfl rfl ?_
        refine g_iload_n (q := 59) dX7_aheadOf_58 rfl rfl ?_
        refine k_X7_172 (q := 62) rfl (Nat.le_of_ble_eq_true rfl) dX7_aheadOf_59 rfl (c_X7_isPlace hsp hM hV (by assumption) (by assumption) (fun z59 => ?_) (fun z59 => ?_))
        · refine g_if_eq (tgt := 78) (q := 65) dX7_aheadOf_62 (by decide) rfl (fun c62 => absurd c62 (by decide)) (fun _ => ?_)
          refine g_aload_n (q := 66) dX7_aheadOf_65 rfl rfl ?_
          refine g_iload_n (q := 67) dX7_aheadOf_66 rfl rfl ?_
          refine g_iconst (q := 68) (v := nI 4) dX7_aheadOf_67 rfl (by decide) ?_
          refine g_iadd (q := 69) dX7_aheadOf_68 rfl ?_
          refine g_ialdn (q := 70) (by first | assumption | rfl) (by repeat' first | apply nI_a | apply nI_m | exact rfl) (by omega) dX7_aheadOf_69 rfl ?_
          rw [hM.f3 ha]
          refine g_if_eq (tgt := 78) (q := 73) dX7_aheadOf_70 (by decide) rfl (fun c70 => ?_) (fun c70 => ?_)
          · refine g_iconst (q := 79) (v := nI 0) dX7_aheadOf_78 rfl (by decide) ?_
            refine g_iret rfl dX7_aheadOf_79 (Nat.le_refl _) (Nat.le_refl _) ?_
            rw [knownF, if_neg (fun z => z.2.1 (q0.mp c70))] at h
            exact h
          · refine g_iload (q := 75) dX7_aheadOf_73 rfl rfl ?_
            refine g_if_ne (tgt := 80) (q := 78) dX7_aheadOf_75 (by decide) rfl (fun _ => ?_) (fun c75 => absurd c75 (by decide))
            refine g_aload_n (q := 81) dX7_aheadOf_80 rfl rfl ?_
            refine g_iload_n (q := 82) dX7_aheadOf_81 rfl rfl ?_
            refine g_iconst (q := 83) (v := nI 4) dX7_aheadOf_82 rfl (by decide) ?_
            refine g_iadd (q := 84) dX7_aheadOf_83 rfl ?_
            refine g_ialdn (q := 85) (by first | assumption | rfl) (by repeat' first | apply nI_a | apply nI_m | exact rfl) (by omega) dX7_aheadOf_84 rfl ?_
            rw [hM.f3 ha]
            refine g_bipush (q := 87) (v := nI 10) dX7_aheadOf_85 rfl (by decide) ?_
            refine g_icmp_ne (tgt := 107) (q := 90) dX7_aheadOf_87 (by decide) rfl (fun c87 => ?_) (fun c87 => ?_)
            · refine g_iconst (q := 108) (v := nI 2) dX7_aheadOf_107 rfl (by decide) ?_
              refine g_iret rfl dX7_aheadOf_108 (Nat.le_refl _) (Nat.le_refl _) ?_
              rw [knownF, if_pos ⟨z59, fun z => c70 (q0.mpr z), hmay⟩, if_neg (fun z => c87 (q10.mpr z.1))] at h
              exact h
            · refine g_iload (q := 92) dX7_aheadOf_90 rfl rfl ?_
              refine g_bipush (q := 94) (v := nI 6) dX7_aheadOf_92 rfl (by decide) ?_
              refine g_icmp_eq (tgt := 103) (q := 97) dX7_aheadOf_94 (by decide) rfl (fun c94 => ?_) (fun c94 => ?_)
              · refine g_iconst (q := 104) (v := nI 1) dX7_aheadOf_103 rfl (by decide) ?_
                refine g_goto (q := 108) dX7_aheadOf_104 (by decide) ?_
                refine g_iret rfl dX7_aheadOf_108 (Nat.le_refl _) (Nat.le_refl _) ?_
                rw [knownF, if_pos ⟨z59, fun z => c70 (q0.mpr z), hmay⟩, if_pos ⟨q10.mp c87, Or.inl (q6.mp c94)⟩] at h
                exact h
              · refine g_iload (q := 99) dX7_aheadOf_97 rfl rfl ?_
                refine g_iload_n (q := 100) dX7_aheadOf_99 rfl rfl ?_
                refine g_icmp_ne (tgt := 107) (q := 103) dX7_aheadOf_100 (by decide) rfl (fun c100 => ?_) (fun c100 => ?_)
                · refine g_iconst (q := 108) (v := nI 2) dX7_aheadOf_107 rfl (by decide) ?_
                  refine g_iret rfl dX7_aheadOf_108 (Nat.le_refl _) (Nat.le_refl _) ?_
                  rw [knownF, if_pos ⟨z59, fun z => c70 (q0.mpr z), hmay⟩, if_neg (fun z => z.2.elim (fun y => c94 (q6.mpr y)) (fun y => c100 (qm.mpr y)))] at h
                  exact h
                · refine g_iconst (q := 104) (v := nI 1) dX7_aheadOf_103 rfl (by decide) ?_
                  refine g_goto (q := 108) dX7_aheadOf_104 (by decide) ?_
                  refine g_iret rfl dX7_aheadOf_108 (Nat.le_refl _) (Nat.le_refl _) ?_
                  rw [knownF, if_pos ⟨z59, fun z => c70 (q0.mpr z), hmay⟩, if_pos ⟨q10.mp c87, Or.inr (qm.mp c100)⟩] at h
                  exact h
        · refine g_if_eq (tgt := 78) (q := 65) dX7_aheadOf_62 (by decide) rfl (fun _ => ?_) (fun c62 => absurd c62 (by decide))
          refine g_iconst (q := 79) (v := nI 0) dX7_aheadOf_78 rfl (by decide) ?_
          refine g_iret rfl dX7_aheadOf_79 (Nat.le_refl _) (Nat.le_refl _) ?_
          rw [knownF, if_neg (fun z => by rw [z59] at z; exact absurd z.1 (by decide))] at h
          exact h
      · have hfl : vfa v a 4 < vnm v := by
          have : ¬ vnm v ≤ vfa v a 4 := fun z => c27 (nI_le z (by omega))
          omega
        refine g_aload_n (q := 37) dX7_aheadOf_36 rfl rfl ?_
        refine g_iload (q := 39) dX7_aheadOf_37 rfl rfl ?_
        refine k_X7_169 (q := 42) rfl (Nat.le_of_ble_eq_true rfl) dX7_aheadOf_39 rfl (c_X7_reachedOf hsp hM hV (by assumption) ?_)
        refine g_iload_n (q := 43) dX7_aheadOf_42 rfl rfl ?_
        refine k_X7_166 (q := 46) rfl (Nat.le_of_ble_eq_true rfl) dX7_aheadOf_43 rfl (c_X7_has (reachF_lt hV hfl) (by omega) (fun z43 => ?_) (fun z43 => ?_))
        · refine g_if_eq (tgt := 53) (q := 49) dX7_aheadOf_46 (by decide) rfl (fun c46 => absurd c46 (by decide)) (fun _ => ?_)
          refine g_iconst (q := 50) (v := nI 1) dX7_aheadOf_49 rfl (by decide) ?_
          refine g_goto (q := 54) dX7_aheadOf_50 (by decide) ?_
          have e1 : ¬ vfa v a 4 = 6 := fun z => c19 (q6.mpr z)
          have e3 : ¬ vfa v a 4 = m := fun z => c33 (qm.mpr z)
          have hmay : mayF v m (vfa v a 4) = true := by simp [mayF, z43, hfl]
          refine g_istore (q := 56) dX7_aheadOf_54 rfl (by decide) rfl rfl ?_
          refine g_aload_n (q := 57) dX7_aheadOf_56 rfl rfl ?_
          refine g_iload_n (q := 58) dX7_aheadOf_57 rfl rfl ?_
          refine g_iload_n (q := 59) dX7_aheadOf_58 rfl rfl ?_
          refine k_X7_172 (q := 62) rfl (Nat.le_of_ble_eq_true rfl) dX7_aheadOf_59 rfl (c_X7_isPlace hsp hM hV (by assumption) (by assumption) (fun z59 => ?_) (fun z59 => ?_))
          · refine g_if_eq (tgt := 78) (q := 65) dX7_aheadOf_62 (by decide) rfl (fun c62 => absurd c62 (by decide)) (fun _ => ?_)
            refine g_aload_n (q := 66) dX7_aheadOf_65 rfl rfl ?_
            refine g_iload_n (q := 67) dX7_aheadOf_66 rfl rfl ?_
            refine g_iconst (q := 68) (v := nI 4) dX7_aheadOf_67 rfl (by decide) ?_
            refine g_iadd (q := 69) dX7_aheadOf_68 rfl ?_
            refine g_ialdn (q := 70) (by first | assumption | rfl) (by repeat' first | apply nI_a | apply nI_m | exact rfl) (by omega) dX7_aheadOf_69 rfl ?_
            rw [hM.f3 ha]
            refine g_if_eq (tgt := 78) (q := 73) dX7_aheadOf_70 (by decide) rfl (fun c70 => ?_) (fun c70 => ?_)
            · refine g_iconst (q := 79) (v := nI 0) dX7_aheadOf_78 rfl (by decide) ?_
              refine g_iret rfl dX7_aheadOf_79 (Nat.le_refl _) (Nat.le_refl _) ?_
              rw [knownF, if_neg (fun z => z.2.1 (q0.mp c70))] at h
              exact h
            · refine g_iload (q := 75) dX7_aheadOf_73 rfl rfl ?_
              refine g_if_ne (tgt := 80) (q := 78) dX7_aheadOf_75 (by decide) rfl (fun _ => ?_) (fun c75 => absurd c75 (by decide))
              refine g_aload_n (q := 81) dX7_aheadOf_80 rfl rfl ?_
              refine g_iload_n (q := 82) dX7_aheadOf_81 rfl rfl ?_
              refine g_iconst (q := 83) (v := nI 4) dX7_aheadOf_82 rfl (by decide) ?_
              refine g_iadd (q := 84) dX7_aheadOf_83 rfl ?_
              refine g_ialdn (q := 85) (by first | assumption | rfl) (by repeat' first | apply nI_a | apply nI_m | exact rfl) (by omega) dX7_aheadOf_84 rfl ?_
              rw [hM.f3 ha]
              refine g_bipush (q := 87) (v := nI 10) dX7_aheadOf_85 rfl (by decide) ?_
              refine g_icmp_ne (tgt := 107) (q := 90) dX7_aheadOf_87 (by decide) rfl (fun c87 => ?_) (fun c87 => ?_)
              · refine g_iconst (q := 108) (v := nI 2) dX7_aheadOf_107 rfl (by decide) ?_
                refine g_iret rfl dX7_aheadOf_108 (Nat.le_refl _) (Nat.le_refl _) ?_
                rw [knownF, if_pos ⟨z59, fun z => c70 (q0.mpr z), hmay⟩, if_neg (fun z => c87 (q10.mpr z.1))] at h
                exact h
              · refine g_iload (q := 92) dX7_aheadOf_90 rfl rfl ?_
                refine g_bipush (q := 94) (v := nI 6) dX7_aheadOf_92 rfl (by decide) ?_
                refine g_icmp_eq (tgt := 103) (q := 97) dX7_aheadOf_94 (by decide) rfl (fun c94 => ?_) (fun c94 => ?_)
                · refine g_iconst (q := 104) (v := nI 1) dX7_aheadOf_103 rfl (by decide) ?_
                  refine g_goto (q := 108) dX7_aheadOf_104 (by decide) ?_
                  refine g_iret rfl dX7_aheadOf_108 (Nat.le_refl _) (Nat.le_refl _) ?_
                  rw [knownF, if_pos ⟨z59, fun z => c70 (q0.mpr z), hmay⟩, if_pos ⟨q10.mp c87, Or.inl (q6.mp c94)⟩] at h
                  exact h
                · refine g_iload (q := 99) dX7_aheadOf_97 rfl rfl ?_
                  refine g_iload_n (q := 100) dX7_aheadOf_99 rfl rfl ?_
                  refine g_icmp_ne (tgt := 107) (q := 103) dX7_aheadOf_100 (by decide) rfl (fun c100 => ?_) (fun c100 => ?_)
                  · refine g_iconst (q := 108) (v := nI 2) dX7_aheadOf_107 rfl (by decide) ?_
                    refine g_iret rfl dX7_aheadOf_108 (Nat.le_refl _) (Nat.le_refl _) ?_
                    rw [knownF, if_pos ⟨z59, fun z => c70 (q0.mpr z), hmay⟩, if_neg (fun z => z.2.elim (fun y => c94 (q6.mpr y)) (fun y => c100 (qm.mpr y)))] at h
                    exact h
                  · refine g_iconst (q := 104) (v := nI 1) dX7_aheadOf_103 rfl (by decide) ?_
                    refine g_goto (q := 108) dX7_aheadOf_104 (by decide) ?_
                    refine g_iret rfl dX7_aheadOf_108 (Nat.le_refl _) (Nat.le_refl _) ?_
                    rw [knownF, if_pos ⟨z59, fun z => c70 (q0.mpr z), hmay⟩, if_pos ⟨q10.mp c87, Or.inr (qm.mp c100)⟩] at h
                    exact h
          · refine g_if_eq (tgt := 78) (q := 65) dX7_aheadOf_62 (by decide) rfl (fun _ => ?_) (fun c62 => absurd c62 (by decide))
            refine g_iconst (q := 79) (v := nI 0) dX7_aheadOf_78 rfl (by decide) ?_
            refine g_iret rfl dX7_aheadOf_79 (Nat.le_refl _) (Nat.le_refl _) ?_
            rw [knownF, if_neg (fun z => by rw [z59] at z; exact absurd z.1 (by decide))] at h
            exact h
        · refine g_if_eq (tgt := 53) (q := 49) dX7_aheadOf_46 (by decide) rfl (fun _ => ?_) (fun c46 => absurd c46 (by decide))
          refine g_iconst (q := 54) (v := nI 0) dX7_aheadOf_53 rfl (by decide) ?_
          have e1 : ¬ vfa v a 4 = 6 := fun z => c19 (q6.mpr z)
          have e3 : ¬ vfa v a 4 = m := fun z => c33 (qm.mpr z)
          have hmay : mayF v m (vfa v a 4) = false := by simp [mayF, e1, e3, z43]
          refine g_istore (q := 56) dX7_aheadOf_54 rfl (by decide) rfl rfl ?_
          refine g_aload_n (q := 57) dX7_aheadOf_56 rfl rfl ?_
          refine g_iload_n (q := 58) dX7_aheadOf_57 rfl rfl ?_
          refine g_iload_n (q := 59) dX7_aheadOf_58 rfl rfl ?_
          refine k_X7_172 (q := 62) rfl (Nat.le_of_ble_eq_true rfl) dX7_aheadOf_59 rfl (c_X7_isPlace hsp hM hV (by assumption) (by assumption) (fun z59 => ?_) (fun z59 => ?_))
          · refine g_if_eq (tgt := 78) (q := 65) dX7_aheadOf_62 (by decide) rfl (fun c62 => absurd c62 (by decide)) (fun _ => ?_)
            refine g_aload_n (q := 66) dX7_aheadOf_65 rfl rfl ?_
            refine g_iload_n (q := 67) dX7_aheadOf_66 rfl rfl ?_
            refine g_iconst (q := 68) (v := nI 4) dX7_aheadOf_67 rfl (by decide) ?_
            refine g_iadd (q := 69) dX7_aheadOf_68 rfl ?_
            refine g_ialdn (q := 70) (by first | assumption | rfl) (by repeat' first | apply nI_a | apply nI_m | exact rfl) (by omega) dX7_aheadOf_69 rfl ?_
            rw [hM.f3 ha]
            refine g_if_eq (tgt := 78) (q := 73) dX7_aheadOf_70 (by decide) rfl (fun c70 => ?_) (fun c70 => ?_)
            · refine g_iconst (q := 79) (v := nI 0) dX7_aheadOf_78 rfl (by decide) ?_
              refine g_iret rfl dX7_aheadOf_79 (Nat.le_refl _) (Nat.le_refl _) ?_
              rw [knownF, if_neg (fun z => z.2.1 (q0.mp c70))] at h
              exact h
            · refine g_iload (q := 75) dX7_aheadOf_73 rfl rfl ?_
              refine g_if_ne (tgt := 80) (q := 78) dX7_aheadOf_75 (by decide) rfl (fun c75 => absurd c75 (by decide)) (fun _ => ?_)
              refine g_iconst (q := 79) (v := nI 0) dX7_aheadOf_78 rfl (by decide) ?_
              refine g_iret rfl dX7_aheadOf_79 (Nat.le_refl _) (Nat.le_refl _) ?_
              rw [knownF, if_neg (fun z => by rw [hmay] at z; exact absurd z.2.2 (by decide))] at h
              exact h
          · refine g_if_eq (tgt := 78) (q := 65) dX7_aheadOf_62 (by decide) rfl (fun _ => ?_) (fun c62 => absurd c62 (by decide))
            refine g_iconst (q := 79) (v := nI 0) dX7_aheadOf_78 rfl (by decide) ?_
            refine g_iret rfl dX7_aheadOf_79 (Nat.le_refl _) (Nat.le_refl _) ?_
            rw [knownF, if_neg (fun z => by rw [z59] at z; exact absurd z.1 (by decide))] at h
            exact h
