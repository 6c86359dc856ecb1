theorem absI : ∀ a, a < 5 → ∀ b, b < 5 → (if 0 ≤ nI a - nI b then nI a - nI b else 0 - (nI a - nI b)) + nI 1 = nI ((if a < b then b - a else a - b) + 1) := by decide +kernel
theorem rem10 : ∀ x, x < 100 → nI x - nI x / nI 10 * nI 10 = nI (x % 10) := by decide +kernel
theorem sw_out {s : Int32} {n : Nat} (hn : n < 1000) (h : ∀ j, j ≤ n → ¬ s = nI j) : s.toInt < 0 ∨ (n : Int) < s.toInt := by
  apply Decidable.byContradiction
  intro hz
  have h1 : nI 0 ≤ s := by
    rw [Int32.le_iff_toInt_le, nI_toInt (by decide)]
    have : ((0 : Nat) : Int) = 0 := rfl
    omega
  have h2 : s ≤ nI n := by
    rw [Int32.le_iff_toInt_le, nI_toInt (by omega)]
    omega
  obtain ⟨j, hj, e⟩ := inR_nat (by omega) ⟨h1, h2⟩
  exact h j hj e
theorem kinds_ok : ∀ i, i < 6 → (stV 1).getD i 0 = nI (([1, 3, 7, 11, 17, 49] : List Nat).getD i 0) ∧ (([1, 3, 7, 11, 17, 49] : List Nat).getD i 0) < 64 := by decide +kernel
theorem kinds_is : ∀ i, i < 6 → 1 ≤ i → ∀ k, k ≤ 5 → (([1, 3, 7, 11, 17, 49] : List Nat).getD i 0).testBit k = isKd i k := by decide +kernel
theorem RepC.trc {I J : Nat → Nat → Int32} {S : Sg} {t : List Nat} (h : RepC I S) (hf : Fr [22, 23] I J) (ht : ATr J t) : RepC J (upT S t) := by
  obtain ⟨h1, h2, h3, h4, h5, h6, h7, h8⟩ := h
  have e : ∀ p, p ≠ 22 → p ≠ 23 → J p = I p := fun p a b => hf p (by simp [a, b])
  have e0 := e 0 (by decide) (by decide)
  exact ⟨h1.eq (fun p _ _ => e p (by omega) (by omega)), by rw [e0]; exact h2, h3.eq (e 2 (by decide) (by decide)) (e 3 (by decide) (by decide)), by rw [e0]; exact h4, ⟨h5.1.eq (fun i hi => e _ (by omega) (by omega)), h5.2⟩, h6.eq (e 17 (by decide) (by decide)) (e 18 (by decide) (by decide)), h7.eq (fun p _ _ => e p (by omega) (by omega)), ht⟩

set_option maxRecDepth 100000 in
set_option maxHeartbeats 400000 in
theorem c_X6_fault {d k : Nat} {I : Nat → Nat → Int32} {Q : Option Int32 → Wd → Prop} {S : Sg} (hk : k = 4 ∨ k = 10) (hr : RepC I S) (h : Q (some (nI S.2.2.2.1)) (I, RR k)) : Ex d 0 0 mX6_fault [.ref 0] 68 (I, RR k) 68 Q := by
  refine ex_intro (L0 := [.ref 0]) (by decide +kernel) rfl rfl (Nat.le_of_ble_eq_true rfl) rfl ?_
  refine g_aload_n (q := 1) dX6_fault_0 rfl rfl ?_
  refine gf_X6_59 (q := 4) rfl (by first | assumption | rfl) dX6_fault_1 rfl ?_
  rw [hr.2.2.2.1.1]
  exact g_iret rfl dX6_fault_4 (Nat.le_refl _) (Nat.le_refl _) h
set_option maxRecDepth 100000 in
set_option maxHeartbeats 400000 in
theorem c_X6_status {d k : Nat} {I : Nat → Nat → Int32} {Q : Option Int32 → Wd → Prop} {S : Sg} (hk : k = 4 ∨ k = 10) (hr : RepC I S) (h : Q (some (nI S.2.1)) (I, RR k)) : Ex d 0 0 mX6_status [.ref 0] 68 (I, RR k) 68 Q := by
  refine ex_intro (L0 := [.ref 0]) (by decide +kernel) rfl rfl (Nat.le_of_ble_eq_true rfl) rfl ?_
  refine g_aload_n (q := 1) dX6_status_0 rfl rfl ?_
  refine gf_X6_63 (q := 4) rfl (by first | assumption | rfl) dX6_status_1 rfl ?_
  rw [hr.2.1.1]
  exact g_iret rfl dX6_status_4 (Nat.le_refl _) (Nat.le_refl _) h
set_option maxRecDepth 100000 in
set_option maxHeartbeats 400000 in
theorem c_X6_swap {d k : Nat} {I : Nat → Nat → Int32} {Q : Option Int32 → Wd → Prop} {S : Sg} {a b : Int32} (hk : k = 4 ∨ k = 10) (hr : RepC I S) (h : ∀ I2 k2, RepC I2 (swapS S a b).2 → FrC I I2 → (k2 = 4 ∨ k2 = 10) → Q (some (swapS S a b).1) (I2, RR k2)) : Ex (d + 3) 0 0 mX6_swap [.ref 0, .int a, .int b] 68 (I, RR k) 68 Q := by
  have hC : CRep I 4 (gv S) := hr.2.2.2.2.1.1
  have hV : VOk (gv S) := hr.2.2.2.2.1.2
  obtain ⟨v1, v2, v3, v4⟩ := id hV
  have hW := wv4 k
  obtain ⟨a1, a2, a3⟩ := id hr.2.2.2.2.2.1
  refine ex_intro (L0 := [.ref 0, .int a, .int b]) (by decide +kernel) rfl rfl (Nat.le_of_ble_eq_true rfl) rfl ?_
  refine g_aload_n (q := 1) dX6_swap_0 rfl rfl ?_
  refine g_iload_n (q := 2) dX6_swap_1 rfl rfl ?_
  refine k_X6_134 (q := 5) rfl (Nat.le_of_ble_eq_true rfl) (by first | assumption | rfl) dX6_swap_2 rfl (c_X6_isAdvice hC (fun z2 => ?_) (fun z2 => ?_))
  · refine g_if_eq (tgt := 16) (q := 8) dX6_swap_5 (by decide) rfl (fun c5 => absurd c5 (by decide)) (fun _ => ?_)
    refine g_aload_n (q := 9) dX6_swap_8 rfl rfl ?_
    refine g_iload_n (q := 10) dX6_swap_9 rfl rfl ?_
    refine k_X6_134 (q := 13) rfl (Nat.le_of_ble_eq_true rfl) (by first | assumption | rfl) dX6_swap_10 rfl (c_X6_isAdvice hC (fun z10 => ?_) (fun z10 => ?_))
    · refine g_if_ne (tgt := 19) (q := 16) dX6_swap_13 (by decide) rfl (fun _ => ?_) (fun c13 => absurd c13 (by decide))
      have y2 := z2
      have y10 := z10
      obtain ⟨a, ha, rfl⟩ := in1_nat (by omega) z2
      obtain ⟨b, hb, rfl⟩ := in1_nat (by omega) z10
      refine g_iload_n (q := 20) dX6_swap_19 rfl rfl ?_
      refine g_iload_n (q := 21) dX6_swap_20 rfl rfl ?_
      refine g_icmp_ne (tgt := 27) (q := 24) dX6_swap_21 (by decide) rfl (fun c21 => ?_) (fun c21 => ?_)
      · refine g_aload_n (q := 28) dX6_swap_27 rfl rfl ?_
        refine gf_X6_39 (q := 31) rfl (by first | assumption | rfl) (by first | assumption | rfl) dX6_swap_28 rfl ?_
        refine g_iload_n (q := 32) dX6_swap_31 rfl rfl ?_
        refine g_iload_n (q := 33) dX6_swap_32 rfl rfl ?_
        refine k_X6_145 (q := 36) rfl (Nat.le_of_ble_eq_true rfl) (by first | assumption | rfl) dX6_swap_33 rfl (c_X0_keepExchange a1 a2 ?_)
        refine g_aload_n (q := 37) dX6_swap_36 rfl rfl ?_
        refine gf_X6_25 (q := 40) rfl (by first | assumption | rfl) (by first | assumption | rfl) dX6_swap_37 rfl ?_
        refine g_iload_n (q := 41) dX6_swap_40 rfl rfl ?_
        refine g_iload_n (q := 42) dX6_swap_41 rfl rfl ?_
        refine k_X6_148 (q := 45) rfl (Nat.le_of_ble_eq_true rfl) (by first | assumption | rfl) dX6_swap_42 rfl (c_X5_exchange hW (by omega) (by omega) ?_)
        refine g_iload_n (q := 46) dX6_swap_45 rfl rfl ?_
        refine g_iload_n (q := 47) dX6_swap_46 rfl rfl ?_
        refine g_isub (q := 48) dX6_swap_47 rfl ?_
        refine ma_X6_151 (q := 51) rfl (Nat.le_of_ble_eq_true rfl) dX6_swap_48 rfl ?_
        refine g_iconst (q := 52) (v := nI 1) dX6_swap_51 rfl (by decide) ?_
        refine g_iadd (q := 53) dX6_swap_52 rfl ?_
        rw [absI a (by omega) b (by omega)]
        refine g_iret rfl dX6_swap_53 (Nat.le_refl _) (Nat.le_refl _) ?_
        rw [swapS, if_pos y2, if_pos y10, if_neg c21, nI_clamp (by omega), nI_clamp (by omega)] at h
        have ex_ne : ∀ (J : Nat → Nat → Int32) p, p ≠ 9 → exP J 4 a b 6 p = J p := fun J p hp => by
          funext j; unfold exP; rw [if_neg (fun z => hp z.1)]
        refine h _ k (RepC.act hr ⟨CRep_exV (hC.eq (fun i hi => acK_ne (by omega) (by omega))) ha hb, VOk_exV hV ha hb⟩ ?_ (fun p hp => (ex_ne _ p (by omega)).trans (acK_ne (by omega) (by omega)))) (fun p hp => (ex_ne _ p (by omega)).trans (acK_ne (by omega) (by omega))) hk
        refine (RActs.push (w := exV (gv S) a b) hr.2.2.2.2.2.1 hV (x0 := 1) (x1 := a) (x2 := b) (x3 := 0) (x4 := 0) (Or.inr (Or.inl ⟨rfl, ha, hb⟩)) ?_).eq (ex_ne _ _ (by decide)) (ex_ne _ _ (by decide))
        exact (exV_back (gv S) a b).symm
      · refine lc_X6_144 (q := 26) rfl dX6_swap_24 rfl ?_
        refine g_iret rfl dX6_swap_26 (Nat.le_refl _) (Nat.le_refl _) ?_
        rw [swapS, if_pos y2, if_pos y10, if_pos c21] at h
        exact h I k hr FrC.rf hk
    · refine g_if_ne (tgt := 19) (q := 16) dX6_swap_13 (by decide) rfl (fun c13 => absurd c13 (by decide)) (fun _ => ?_)
      refine lc_X6_75 (q := 18) rfl dX6_swap_16 rfl ?_
      refine g_iret rfl dX6_swap_18 (Nat.le_refl _) (Nat.le_refl _) ?_
      rw [swapS, if_pos z2, if_neg z10] at h
      exact h I k hr FrC.rf hk
  · refine g_if_eq (tgt := 16) (q := 8) dX6_swap_5 (by decide) rfl (fun _ => ?_) (fun c5 => absurd c5 (by decide))
    refine lc_X6_75 (q := 18) rfl dX6_swap_16 rfl ?_
    refine g_iret rfl dX6_swap_18 (Nat.le_refl _) (Nat.le_refl _) ?_
    rw [swapS, if_neg z2] at h
    exact h I k hr FrC.rf hk
set_option maxRecDepth 100000 in
set_option maxHeartbeats 400000 in
theorem c_X6_isStatement {d k : Nat} {I : Nat → Nat → Int32} {Q : Option Int32 → Wd → Prop} {s x : Int32} {v : Vv} (hC : CRep I 4 v) (h1 : isSt v s x → Q (some (nI 1)) (I, RR k)) (h0 : ¬ isSt v s x → Q (some (nI 0)) (I, RR k)) : Ex (d + 2) 0 0 mX6_isStatement [.ref 0, .int s, .int x] 68 (I, RR k) 68 Q := by
  refine ex_intro (L0 := [.ref 0, .int s, .int x]) (by decide +kernel) rfl rfl (Nat.le_of_ble_eq_true rfl) rfl ?_
  refine g_iload_n (q := 1) dX6_isStatement_0 rfl rfl ?_
  by_cases e0 : s = 0
  · refine g_tabIn (q := 0) (tgt := 28) (off := 27) dX6_isStatement_1 (by rw [e0]; decide) (by rw [e0]; decide) (by rw [e0]; decide) (by decide) ?_
    refine g_iload_n (q := 29) dX6_isStatement_28 rfl rfl ?_
    refine g_iconst (q := 30) (v := nI 1) dX6_isStatement_29 rfl (by decide) ?_
    refine g_bipush (q := 32) (v := nI 99) dX6_isStatement_30 rfl (by decide) ?_
    refine k_X6_71 (q := 35) rfl (Nat.le_of_ble_eq_true rfl) dX6_isStatement_32 rfl (c_X6_isWithin (fun z321 z322 => ?_) (fun z32 => ?_))
    · have z32 := And.intro z321 z322
      refine g_zret rfl (by decide) dX6_isStatement_35 (Nat.le_refl _) (Nat.le_refl _) ?_
      exact h1 (Or.inl ⟨e0, z32⟩)
    · refine g_zret rfl (by decide) dX6_isStatement_35 (Nat.le_refl _) (Nat.le_refl _) ?_
      exact h0 (fun z => z.elim (fun y => z32 y.2) (fun z => z.elim (fun y => absurd (e0.symm.trans y.1) (by decide)) (fun y => absurd (e0.symm.trans y.1) (by decide))))
  · by_cases e1 : s = nI 1
    · refine g_tabIn (q := 0) (tgt := 36) (off := 35) dX6_isStatement_1 (by rw [e1]; decide) (by rw [e1]; decide) (by rw [e1]; decide) (by decide) ?_
      refine g_aload_n (q := 37) dX6_isStatement_36 rfl rfl ?_
      refine g_iload_n (q := 38) dX6_isStatement_37 rfl rfl ?_
      refine k_X6_156 (q := 41) rfl (Nat.le_of_ble_eq_true rfl) (by first | assumption | rfl) dX6_isStatement_38 rfl (c_X6_isMethod hC (fun z38 => ?_) (fun z38 => ?_))
      · refine g_zret rfl (by decide) dX6_isStatement_41 (Nat.le_refl _) (Nat.le_refl _) ?_
        exact h1 (Or.inr (Or.inl ⟨e1, z38⟩))
      · refine g_zret rfl (by decide) dX6_isStatement_41 (Nat.le_refl _) (Nat.le_refl _) ?_
        exact h0 (fun z => z.elim (fun y => e0 y.1) (fun z => z.elim (fun y => z38 y.2) (fun y => absurd (e1.symm.trans y.1) (by decide))))
    · by_cases e2 : s = nI 2
      · refine g_tabIn (q := 0) (tgt := 42) (off := 41) dX6_isStatement_1 (by rw [e2]; decide) (by rw [e2]; decide) (by rw [e2]; decide) (by decide) ?_
        refine g_iload_n (q := 43) dX6_isStatement_42 rfl rfl ?_
        refine g_iconst (q := 44) (v := nI 1) dX6_isStatement_43 rfl (by decide) ?_
        refine g_bipush (q := 46) (v := nI 9) dX6_isStatement_44 rfl (by decide) ?_
        refine k_X6_71 (q := 49) rfl (Nat.le_of_ble_eq_true rfl) dX6_isStatement_46 rfl (c_X6_isWithin (fun z461 z462 => ?_) (fun z46 => ?_))
        · have z46 := And.intro z461 z462
          refine g_zret rfl (by decide) dX6_isStatement_49 (Nat.le_refl _) (Nat.le_refl _) ?_
          exact h1 (Or.inr (Or.inr ⟨e2, z46⟩))
        · refine g_zret rfl (by decide) dX6_isStatement_49 (Nat.le_refl _) (Nat.le_refl _) ?_
          exact h0 (fun z => z.elim (fun y => e0 y.1) (fun z => z.elim (fun y => e1 y.1) (fun y => z46 y.2)))
      · refine g_tabOut (q := 0) (tgt := 50) dX6_isStatement_1 (sw_out (n := 2) (by decide) (fun j hj => by have : j = 0 ∨ j = 1 ∨ j = 2 := (by omega); rcases this with rfl | rfl | rfl <;> assumption)) (by decide) ?_
        refine g_iconst (q := 51) (v := nI 0) dX6_isStatement_50 rfl (by decide) ?_
        refine g_zret rfl (by decide) dX6_isStatement_51 (Nat.le_refl _) (Nat.le_refl _) ?_
        exact h0 (fun z => z.elim (fun y => e0 y.1) (fun z => z.elim (fun y => e1 y.1) (fun y => e2 y.1)))
set_option maxRecDepth 100000 in
set_option maxHeartbeats 400000 in
theorem c_X6_state {d k : Nat} {I : Nat → Nat → Int32} {Q : Option Int32 → Wd → Prop} {S : Sg} {m i s x : Int32} (hk : k = 4 ∨ k = 10) (hr : RepC I S) (h : ∀ I2 k2, RepC I2 (stateS S m i s x).2 → FrC I I2 → (k2 = 4 ∨ k2 = 10) → Q (some (stateS S m i s x).1) (I2, RR k2)) : Ex (d + 3) 0 0 mX6_state [.ref 0, .int m, .int i, .int s, .int x] 68 (I, RR k) 68 Q := by
  have hC : CRep I 4 (gv S) := hr.2.2.2.2.1.1
  have hV : VOk (gv S) := hr.2.2.2.2.1.2
  obtain ⟨v1, v2, v3, v4⟩ := id hV
  have hW := wv4 k
  obtain ⟨a1, a2, a3⟩ := id hr.2.2.2.2.2.1
  refine ex_intro (L0 := [.ref 0, .int m, .int i, .int s, .int x, .null]) (by decide +kernel) rfl rfl (Nat.le_of_ble_eq_true rfl) rfl ?_
  refine g_aload_n (q := 1) dX6_state_0 rfl rfl ?_
  refine g_iload_n (q := 2) dX6_state_1 rfl rfl ?_
  refine k_X6_156 (q := 5) rfl (Nat.le_of_ble_eq_true rfl) (by first | assumption | rfl) dX6_state_2 rfl (c_X6_isMethod hC (fun z2 => ?_) (fun z2 => ?_))
  · refine g_if_eq (tgt := 34) (q := 8) dX6_state_5 (by decide) rfl (fun c5 => absurd c5 (by decide)) (fun _ => ?_)
    have y2 := z2
    obtain ⟨m, hm, rfl⟩ := in1_nat (by omega) z2
    obtain ⟨f1, f2, f3⟩ := hC.2.2.1 m hm
    obtain ⟨u1, u2, u3⟩ := v3 m hm
    refine g_iload_n (q := 9) dX6_state_8 rfl rfl ?_
    refine g_if_lt (tgt := 34) (q := 12) dX6_state_9 (by decide) rfl (fun c9 => ?_) (fun c9 => ?_)
    · refine lc_X6_75 (q := 36) rfl dX6_state_34 rfl ?_
      refine g_iret rfl dX6_state_36 (Nat.le_refl _) (Nat.le_refl _) ?_
      rw [stateS, if_pos y2, nI_clamp (by omega), if_neg (fun z => absurd c9 (Int32.not_lt.mpr z.1))] at h
      exact h I k hr FrC.rf hk
    · refine g_iload_n (q := 13) dX6_state_12 rfl rfl ?_
      refine g_aload_n (q := 14) dX6_state_13 rfl rfl ?_
      refine gf_X6_25 (q := 17) rfl (by first | assumption | rfl) (by first | assumption | rfl) dX6_state_14 rfl ?_
      refine g_iload_n (q := 18) dX6_state_17 rfl rfl ?_
      refine k_X6_159 (q := 21) rfl (Nat.le_of_ble_eq_true rfl) (by first | assumption | rfl) dX6_state_18 rfl (c_X5_length hW (by omega) ?_)
      rw [f2]
      refine g_icmp_ge (tgt := 34) (q := 24) dX6_state_21 (by decide) rfl (fun c21 => ?_) (fun c21 => ?_)
      · refine lc_X6_75 (q := 36) rfl dX6_state_34 rfl ?_
        refine g_iret rfl dX6_state_36 (Nat.le_refl _) (Nat.le_refl _) ?_
        rw [stateS, if_pos y2, nI_clamp (by omega), if_neg (fun z => absurd z.2 (Int32.not_lt.mpr c21))] at h
        exact h I k hr FrC.rf hk
      · refine g_aload_n (q := 25) dX6_state_24 rfl rfl ?_
        refine g_iload_n (q := 26) dX6_state_25 rfl rfl ?_
        refine g_iload (q := 28) dX6_state_26 rfl rfl ?_
        refine k_X6_162 (q := 31) rfl (Nat.le_of_ble_eq_true rfl) (by first | assumption | rfl) dX6_state_28 rfl (c_X6_isStatement hC (fun z28 => ?_) (fun z28 => ?_))
        · refine g_if_ne (tgt := 37) (q := 34) dX6_state_31 (by decide) rfl (fun _ => ?_) (fun c31 => absurd c31 (by decide))
          have y28 := z28
          have hi0 := Int32.not_lt.mp c9
          obtain ⟨i, hi, rfl⟩ := nI_of c9
          have hiz : i < vln (gv S) m := by have := mt (nI_leI (a := vln (gv S) m) (b := i) (by omega) (by omega)).mpr c21; omega
          obtain ⟨sn, xn, rfl, rfl, hsx⟩ : ∃ sn xn : Nat, s = nI sn ∧ x = nI xn ∧ sok (gv S) sn xn := by
            rcases z28 with ⟨e, g1, g2⟩ | ⟨e, g⟩ | ⟨e, g1, g2⟩
            · obtain ⟨xn, hx, rfl⟩ := inR_nat (by decide) ⟨Int32.le_trans (by decide) g1, g2⟩
              exact ⟨0, xn, e, rfl, by decide, by omega, fun z => absurd z (by decide), fun z => absurd z (by decide)⟩
            · obtain ⟨xn, hx, rfl⟩ := in1_nat (by omega) g
              exact ⟨1, xn, e, rfl, by decide, by omega, fun _ => hx, fun z => absurd z (by decide)⟩
            · obtain ⟨xn, hx, rfl⟩ := inR_nat (by decide) ⟨Int32.le_trans (by decide) g1, g2⟩
              exact ⟨2, xn, e, rfl, by decide, by omega, fun z => absurd z (by decide), fun _ => ⟨(nI_leI (by omega) (by omega)).mp g1, by omega⟩⟩
          have hsn := hsx.1
          have hxn := hsx.2.1
          refine g_aload_n (q := 38) dX6_state_37 rfl rfl ?_
          refine gf_X6_25 (q := 41) rfl (by first | assumption | rfl) (by first | assumption | rfl) dX6_state_38 rfl ?_
          refine g_iload_n (q := 42) dX6_state_41 rfl rfl ?_
          refine g_iload_n (q := 43) dX6_state_42 rfl rfl ?_
          refine k_X6_165 (q := 46) rfl (Nat.le_of_ble_eq_true rfl) (by first | assumption | rfl) dX6_state_43 rfl (c_X5_sort hW (by omega) (by omega) ?_)
          rw [(f3 i hiz).1]
          refine g_istore (q := 48) dX6_state_46 rfl (by decide) rfl rfl ?_
          refine g_aload_n (q := 49) dX6_state_48 rfl rfl ?_
          refine gf_X6_39 (q := 52) rfl (by first | assumption | rfl) (by first | assumption | rfl) dX6_state_49 rfl ?_
          refine g_iload_n (q := 53) dX6_state_52 rfl rfl ?_
          refine g_iload_n (q := 54) dX6_state_53 rfl rfl ?_
          refine g_iload (q := 56) dX6_state_54 rfl rfl ?_
          refine g_aload_n (q := 57) dX6_state_56 rfl rfl ?_
          refine gf_X6_25 (q := 60) rfl (by first | assumption | rfl) (by first | assumption | rfl) dX6_state_57 rfl ?_
          refine g_iload_n (q := 61) dX6_state_60 rfl rfl ?_
          refine g_iload_n (q := 62) dX6_state_61 rfl rfl ?_
          refine k_X6_168 (q := 65) rfl (Nat.le_of_ble_eq_true rfl) (by first | assumption | rfl) dX6_state_62 rfl (c_X5_operand hW (by omega) (by omega) ?_)
          rw [(f3 i hiz).2]
          refine k_X6_171 (q := 68) rfl (Nat.le_of_ble_eq_true rfl) (by first | assumption | rfl) dX6_state_65 rfl (c_X0_keepStatement a1 a2 ?_)
          refine g_aload_n (q := 69) dX6_state_68 rfl rfl ?_
          refine gf_X6_25 (q := 72) rfl (by first | assumption | rfl) (by first | assumption | rfl) dX6_state_69 rfl ?_
          refine g_iload_n (q := 73) dX6_state_72 rfl rfl ?_
          refine g_iload_n (q := 74) dX6_state_73 rfl rfl ?_
          refine g_iload_n (q := 75) dX6_state_74 rfl rfl ?_
          refine g_iload (q := 77) dX6_state_75 rfl rfl ?_
          refine k_X6_175 (q := 80) rfl (Nat.le_of_ble_eq_true rfl) (by first | assumption | rfl) dX6_state_77 rfl (c_X5_putStatement hW (by omega) (by omega) ?_)
          refine g_iload (q := 82) dX6_state_80 rfl rfl ?_
          refine g_iret rfl dX6_state_82 (Nat.le_refl _) (Nat.le_refl _) ?_
          rw [stateS, if_pos y2, nI_clamp (by omega), if_pos ⟨hi0, nI_lt hiz (by omega)⟩, if_pos y28, nI_clamp (by omega), nI_clamp (by omega), nI_clamp (by omega)] at h
          have ne2 : ∀ (J : Nat → Nat → Int32) p, p ≠ 7 → p ≠ 8 → uI (uI J (4 + 3) (m * 4 + i) (nI sn)) (4 + 4) (m * 4 + i) (nI xn) p = J p := fun J p h7 h8 => (uI_ne h8).trans (uI_ne h7)
          refine h _ k (RepC.act hr ⟨CRep_setSt (hC.eq (fun i hi => acK_ne (by omega) (by omega))) hV (by omega), VOk_setSt hV hsx⟩ ?_ (fun p hp => (ne2 _ p (by omega) (by omega)).trans (acK_ne (by omega) (by omega)))) (fun p hp => (ne2 _ p (by omega) (by omega)).trans (acK_ne (by omega) (by omega))) hk
          refine (RActs.push (w := setSt (gv S) m i sn xn) hr.2.2.2.2.2.1 hV (x0 := 2) (x1 := m) (x2 := i) (x3 := vso (gv S) m i) (x4 := vop (gv S) m i) (Or.inr (Or.inr (Or.inl ⟨rfl, hm, hiz⟩))) ?_).eq (ne2 _ _ (by decide) (by decide)) (ne2 _ _ (by decide) (by decide))
          exact (setSt_back (gv S) m i sn xn).symm
        · refine g_if_ne (tgt := 37) (q := 34) dX6_state_31 (by decide) rfl (fun c31 => absurd c31 (by decide)) (fun _ => ?_)
          refine lc_X6_75 (q := 36) rfl dX6_state_34 rfl ?_
          refine g_iret rfl dX6_state_36 (Nat.le_refl _) (Nat.le_refl _) ?_
          rw [stateS, if_pos y2, nI_clamp (by omega), if_pos ⟨Int32.not_lt.mp c9, Int32.not_le.mp c21⟩, if_neg z28] at h
          exact h I k hr FrC.rf hk
  · refine g_if_eq (tgt := 34) (q := 8) dX6_state_5 (by decide) rfl (fun _ => ?_) (fun c5 => absurd c5 (by decide))
    refine lc_X6_75 (q := 36) rfl dX6_state_34 rfl ?_
    refine g_iret rfl dX6_state_36 (Nat.le_refl _) (Nat.le_refl _) ?_
    rw [stateS, if_neg z2] at h
    exact h I k hr FrC.rf hk
set_option maxRecDepth 100000 in
set_option maxHeartbeats 400000 in
theorem c_X6_statementOf {d k : Nat} {I : Nat → Nat → Int32} {Q : Option Int32 → Wd → Prop} {m : Nat} {w : Int32} {v : Vv} (hC : CRep I 4 v) (hV : VOk v) (hm : m < vnm v) (h1 : ∀ j, j < 4 → w = nI (10 + j) → Q (some (if j < vln v m then nI (vso v m j) else -1000000)) (I, RR k)) (h2 : ∀ j, j < 4 → w = nI (20 + j) → Q (some (if j < vln v m then nI (vop v m j) else -1000000)) (I, RR k)) (hb : ¬ (nI 10 ≤ w ∧ w ≤ nI 13) → ¬ (nI 20 ≤ w ∧ w ≤ nI 23) → Q (some (-1000001)) (I, RR k)) : Ex (d + 1) 0 0 mX6_statementOf [.ref 0, .int (nI m), .int w] 68 (I, RR k) 68 Q := by
  have hW := wv4 k
  obtain ⟨v1, v2, v3, v4⟩ := id hV
  obtain ⟨f1, f2, f3⟩ := hC.2.2.1 m hm
  obtain ⟨u1, u2, u3⟩ := v3 m hm
  refine ex_intro (L0 := [.ref 0, .int (nI m), .int w, .null, .null]) (by decide +kernel) rfl rfl (Nat.le_of_ble_eq_true rfl) rfl ?_
  refine g_iload_n (q := 1) dX6_statementOf_0 rfl rfl ?_
  refine g_bipush (q := 3) (v := nI 10) dX6_statementOf_1 rfl (by decide) ?_
  refine g_bipush (q := 5) (v := nI 13) dX6_statementOf_3 rfl (by decide) ?_
  refine k_X6_71 (q := 8) rfl (Nat.le_of_ble_eq_true rfl) dX6_statementOf_5 rfl (c_X6_isWithin (fun z51 z52 => ?_) (fun z5 => ?_))
  · have z5 := And.intro z51 z52
    refine g_istore_n (q := 9) dX6_statementOf_8 rfl (by decide) rfl rfl ?_
    refine g_iload_n (q := 10) dX6_statementOf_9 rfl rfl ?_
    refine g_if_ne (tgt := 27) (q := 13) dX6_statementOf_10 (by decide) rfl (fun _ => ?_) (fun c10 => absurd c10 (by decide))
    obtain ⟨jj, hj, rfl⟩ : ∃ j, j < 4 ∧ w = nI (10 + j) := by
      obtain ⟨x, hx, e⟩ := inR_nat (by decide) ⟨Int32.le_trans (by decide) z5.1, z5.2⟩
      have h10 : 10 ≤ x := (nI_leI (by omega) (by omega)).mp (e ▸ z5.1)
      exact ⟨x - 10, by omega, by rw [e]; congr 1; omega⟩
    refine g_iload_n (q := 28) dX6_statementOf_27 rfl rfl ?_
    refine g_bipush (q := 30) (v := nI 10) dX6_statementOf_28 rfl (by decide) ?_
    refine g_irem (q := 31) dX6_statementOf_30 rfl (by decide) ?_
    rw [rem10 _ (by omega), show (10 + jj) % 10 = jj by omega]
    refine g_istore (q := 33) dX6_statementOf_31 rfl (by decide) rfl rfl ?_
    refine g_iload (q := 35) dX6_statementOf_33 rfl rfl ?_
    refine g_aload_n (q := 36) dX6_statementOf_35 rfl rfl ?_
    refine gf_X6_25 (q := 39) rfl (by first | assumption | rfl) (by first | assumption | rfl) dX6_statementOf_36 rfl ?_
    refine g_iload_n (q := 40) dX6_statementOf_39 rfl rfl ?_
    refine k_X6_159 (q := 43) rfl (Nat.le_of_ble_eq_true rfl) (by first | assumption | rfl) dX6_statementOf_40 rfl (c_X5_length hW (by omega) ?_)
    rw [f2]
    refine g_icmp_lt (tgt := 49) (q := 46) dX6_statementOf_43 (by decide) rfl (fun c43 => ?_) (fun c43 => ?_)
    · refine g_iload_n (q := 50) dX6_statementOf_49 rfl rfl ?_
      refine g_if_eq (tgt := 66) (q := 53) dX6_statementOf_50 (by decide) rfl (fun c50 => absurd c50 (by decide)) (fun _ => ?_)
      refine g_aload_n (q := 54) dX6_statementOf_53 rfl rfl ?_
      refine gf_X6_25 (q := 57) rfl (by first | assumption | rfl) (by first | assumption | rfl) dX6_statementOf_54 rfl ?_
      refine g_iload_n (q := 58) dX6_statementOf_57 rfl rfl ?_
      refine g_iload (q := 60) dX6_statementOf_58 rfl rfl ?_
      refine k_X6_165 (q := 63) rfl (Nat.le_of_ble_eq_true rfl) (by first | assumption | rfl) dX6_statementOf_60 rfl (c_X5_sort hW (by omega) (by have := (nI_ltI (by omega) (by omega)).mp c43; omega) ?_)
      rw [(f3 jj ((nI_ltI (by omega) (by omega)).mp c43)).1]
      refine g_goto (q := 76) dX6_statementOf_63 (by decide) ?_
      refine g_iret rfl dX6_statementOf_76 (Nat.le_refl _) (Nat.le_refl _) ?_
      have := h1 jj hj rfl
      rw [if_pos ((nI_ltI (by omega) (by omega)).mp c43)] at this
      exact this
    · refine lc_X6_228 (q := 48) rfl dX6_statementOf_46 rfl ?_
      refine g_iret rfl dX6_statementOf_48 (Nat.le_refl _) (Nat.le_refl _) ?_
      have := h1 jj hj rfl
      rw [if_neg (fun z => c43 (nI_lt z (by omega)))] at this
      exact this
  · refine g_istore_n (q := 9) dX6_statementOf_8 rfl (by decide) rfl rfl ?_
    refine g_iload_n (q := 10) dX6_statementOf_9 rfl rfl ?_
    refine g_if_ne (tgt := 27) (q := 13) dX6_statementOf_10 (by decide) rfl (fun c10 => absurd c10 (fun z => z rfl)) (fun _ => ?_)
    refine g_iload_n (q := 14) dX6_statementOf_13 rfl rfl ?_
    refine g_bipush (q := 16) (v := nI 20) dX6_statementOf_14 rfl (by decide) ?_
    refine g_bipush (q := 18) (v := nI 23) dX6_statementOf_16 rfl (by decide) ?_
    refine k_X6_71 (q := 21) rfl (Nat.le_of_ble_eq_true rfl) dX6_statementOf_18 rfl (c_X6_isWithin (fun z181 z182 => ?_) (fun z18 => ?_))
    · have z18 := And.intro z181 z182
      refine g_if_ne (tgt := 27) (q := 24) dX6_statementOf_21 (by decide) rfl (fun _ => ?_) (fun c21 => absurd c21 (by decide))
      obtain ⟨jj, hj, rfl⟩ : ∃ j, j < 4 ∧ w = nI (20 + j) := by
        obtain ⟨x, hx, e⟩ := inR_nat (by decide) ⟨Int32.le_trans (by decide) z18.1, z18.2⟩
        have h10 : 20 ≤ x := (nI_leI (by omega) (by omega)).mp (e ▸ z18.1)
        exact ⟨x - 20, by omega, by rw [e]; congr 1; omega⟩
      refine g_iload_n (q := 28) dX6_statementOf_27 rfl rfl ?_
      refine g_bipush (q := 30) (v := nI 10) dX6_statementOf_28 rfl (by decide) ?_
      refine g_irem (q := 31) dX6_statementOf_30 rfl (by decide) ?_
      rw [rem10 _ (by omega), show (20 + jj) % 10 = jj by omega]
      refine g_istore (q := 33) dX6_statementOf_31 rfl (by decide) rfl rfl ?_
      refine g_iload (q := 35) dX6_statementOf_33 rfl rfl ?_
      refine g_aload_n (q := 36) dX6_statementOf_35 rfl rfl ?_
      refine gf_X6_25 (q := 39) rfl (by first | assumption | rfl) (by first | assumption | rfl) dX6_statementOf_36 rfl ?_
      refine g_iload_n (q := 40) dX6_statementOf_39 rfl rfl ?_
      refine k_X6_159 (q := 43) rfl (Nat.le_of_ble_eq_true rfl) (by first | assumption | rfl) dX6_statementOf_40 rfl (c_X5_length hW (by omega) ?_)
      rw [f2]
      refine g_icmp_lt (tgt := 49) (q := 46) dX6_statementOf_43 (by decide) rfl (fun c43 => ?_) (fun c43 => ?_)
      · refine g_iload_n (q := 50) dX6_statementOf_49 rfl rfl ?_
        refine g_if_eq (tgt := 66) (q := 53) dX6_statementOf_50 (by decide) rfl (fun _ => ?_) (fun c50 => absurd rfl c50)
        refine g_aload_n (q := 67) dX6_statementOf_66 rfl rfl ?_
        refine gf_X6_25 (q := 70) rfl (by first | assumption | rfl) (by first | assumption | rfl) dX6_statementOf_67 rfl ?_
        refine g_iload_n (q := 71) dX6_statementOf_70 rfl rfl ?_
        refine g_iload (q := 73) dX6_statementOf_71 rfl rfl ?_
        refine k_X6_168 (q := 76) rfl (Nat.le_of_ble_eq_true rfl) (by first | assumption | rfl) dX6_statementOf_73 rfl (c_X5_operand hW (by omega) (by have := (nI_ltI (by omega) (by omega)).mp c43; omega) ?_)
        rw [(f3 jj ((nI_ltI (by omega) (by omega)).mp c43)).2]
        refine g_iret rfl dX6_statementOf_76 (Nat.le_refl _) (Nat.le_refl _) ?_
        have := h2 jj hj rfl
        rw [if_pos ((nI_ltI (by omega) (by omega)).mp c43)] at this
        exact this
      · refine lc_X6_228 (q := 48) rfl dX6_statementOf_46 rfl ?_
        refine g_iret rfl dX6_statementOf_48 (Nat.le_refl _) (Nat.le_refl _) ?_
        have := h2 jj hj rfl
        rw [if_neg (fun z => c43 (nI_lt z (by omega)))] at this
        exact this
    · refine g_if_ne (tgt := 27) (q := 24) dX6_statementOf_21 (by decide) rfl (fun c21 => absurd c21 (by decide)) (fun _ => ?_)
      refine lc_X6_75 (q := 26) rfl dX6_statementOf_24 rfl ?_
      refine g_iret rfl dX6_statementOf_26 (Nat.le_refl _) (Nat.le_refl _) ?_
      exact hb z5 z18
set_option maxRecDepth 100000 in
set_option maxHeartbeats 400000 in
theorem c_X6_method {d k : Nat} {I : Nat → Nat → Int32} {Q : Option Int32 → Wd → Prop} {S : Sg} {m w : Int32} (hk : k = 4 ∨ k = 10) (hr : RepC I S) (h : ∀ I2 k2, RepC I2 (methodS S m w).2 → FrC I I2 → (k2 = 4 ∨ k2 = 10) → Q (some (methodS S m w).1) (I2, RR k2)) : Ex (d + 4) 0 0 mX6_method [.ref 0, .int m, .int w] 68 (I, RR k) 68 Q := by
  have hC : CRep I 4 (gv S) := hr.2.2.2.2.1.1
  have hV : VOk (gv S) := hr.2.2.2.2.1.2
  obtain ⟨v1, v2, v3, v4⟩ := id hV
  have hW := wv4 k
  refine ex_intro (L0 := [.ref 0, .int m, .int w]) (by decide +kernel) rfl rfl (Nat.le_of_ble_eq_true rfl) rfl ?_
  refine g_aload_n (q := 1) dX6_method_0 rfl rfl ?_
  refine g_iload_n (q := 2) dX6_method_1 rfl rfl ?_
  refine k_X6_156 (q := 5) rfl (Nat.le_of_ble_eq_true rfl) (by first | assumption | rfl) dX6_method_2 rfl (c_X6_isMethod hC (fun z2 => ?_) (fun z2 => ?_))
  · refine g_if_ne (tgt := 11) (q := 8) dX6_method_5 (by decide) rfl (fun _ => ?_) (fun c5 => absurd c5 (by decide))
    have y2 := z2
    obtain ⟨m, hm, rfl⟩ := in1_nat (by omega) z2
    obtain ⟨f1, f2, f3⟩ := hC.2.2.1 m hm
    refine g_iload_n (q := 12) dX6_method_11 rfl rfl ?_
    by_cases e0 : w = 0
    · subst e0
      refine g_tabIn (q := 0) (tgt := 40) (off := 28) dX6_method_12 (by decide) (by decide) (by decide) (by decide) ?_
      refine g_aload_n (q := 41) dX6_method_40 rfl rfl ?_
      refine gf_X6_25 (q := 44) rfl (by first | assumption | rfl) (by first | assumption | rfl) dX6_method_41 rfl ?_
      refine g_iload_n (q := 45) dX6_method_44 rfl rfl ?_
      refine k_X6_178 (q := 48) rfl (Nat.le_of_ble_eq_true rfl) (by first | assumption | rfl) dX6_method_45 rfl (c_X5_classOf hW (by omega) ?_)
      rw [f1]
      refine g_iret rfl dX6_method_48 (Nat.le_refl _) (Nat.le_refl _) ?_
      rw [methodS, if_pos y2, nI_clamp (by omega), if_pos rfl] at h
      exact h I k hr FrC.rf hk
    · by_cases e1 : w = nI 1
      · subst e1
        refine g_tabIn (q := 0) (tgt := 49) (off := 37) dX6_method_12 (by decide) (by decide) (by decide) (by decide) ?_
        refine g_aload_n (q := 50) dX6_method_49 rfl rfl ?_
        refine gf_X6_25 (q := 53) rfl (by first | assumption | rfl) (by first | assumption | rfl) dX6_method_50 rfl ?_
        refine g_iload_n (q := 54) dX6_method_53 rfl rfl ?_
        refine k_X6_159 (q := 57) rfl (Nat.le_of_ble_eq_true rfl) (by first | assumption | rfl) dX6_method_54 rfl (c_X5_length hW (by omega) ?_)
        rw [f2]
        refine g_iret rfl dX6_method_57 (Nat.le_refl _) (Nat.le_refl _) ?_
        rw [methodS, if_pos y2, nI_clamp (by omega), if_neg e0, if_pos rfl] at h
        exact h I k hr FrC.rf hk
      · by_cases e2 : w = nI 2
        · subst e2
          refine g_tabIn (q := 0) (tgt := 58) (off := 46) dX6_method_12 (by decide) (by decide) (by decide) (by decide) ?_
          refine g_aload_n (q := 59) dX6_method_58 rfl rfl ?_
          refine gf_X6_25 (q := 62) rfl (by first | assumption | rfl) (by first | assumption | rfl) dX6_method_59 rfl ?_
          refine g_iload_n (q := 63) dX6_method_62 rfl rfl ?_
          refine k_X6_191 (q := 66) rfl (Nat.le_of_ble_eq_true rfl) (by first | assumption | rfl) dX6_method_63 rfl (c_X5_reachedFrom hW hC hV hm ?_)
          refine g_iret rfl dX6_method_66 (Nat.le_refl _) (Nat.le_refl _) ?_
          rw [methodS, if_pos y2, nI_clamp (by omega), if_neg e0, if_neg e1, if_pos rfl] at h
          exact h I k hr FrC.rf hk
        · refine g_tabOut (q := 0) (tgt := 67) dX6_method_12 (sw_out (n := 2) (by decide) (fun j hj => by have : j = 0 ∨ j = 1 ∨ j = 2 := (by omega); rcases this with rfl | rfl | rfl <;> assumption)) (by decide) ?_
          rw [methodS, if_pos y2, nI_clamp (by omega), if_neg e0, if_neg e1, if_neg e2] at h
          refine g_aload_n (q := 68) dX6_method_67 rfl rfl ?_
          refine g_iload_n (q := 69) dX6_method_68 rfl rfl ?_
          refine g_iload_n (q := 70) dX6_method_69 rfl rfl ?_
          refine k_X6_194 (q := 73) rfl (Nat.le_of_ble_eq_true rfl) (by first | assumption | rfl) dX6_method_70 rfl (c_X6_statementOf hC hV hm (fun j hj e => ?_) (fun j hj e => ?_) (fun g1 g2 => ?_))
          · subst e
            refine g_iret rfl dX6_method_73 (Nat.le_refl _) (Nat.le_refl _) ?_
            rw [if_pos ⟨nI_le (by omega) (by omega), nI_le (by omega) (by omega)⟩, nI_clamp (by omega), show 10 + j - 10 = j by omega] at h
            by_cases hl : j < vln (gv S) m
            · rw [if_pos hl] at h ⊢; exact h I k hr FrC.rf hk
            · rw [if_neg hl] at h ⊢; exact h I k hr FrC.rf hk
          · subst e
            refine g_iret rfl dX6_method_73 (Nat.le_refl _) (Nat.le_refl _) ?_
            rw [if_neg (fun z => nI_ge (show 13 < 20 + j by omega) (by omega) z.2), if_pos ⟨nI_le (by omega) (by omega), nI_le (by omega) (by omega)⟩, nI_clamp (by omega), show 20 + j - 20 = j by omega] at h
            by_cases hl : j < vln (gv S) m
            · rw [if_pos hl] at h ⊢; exact h I k hr FrC.rf hk
            · rw [if_neg hl] at h ⊢; exact h I k hr FrC.rf hk
          · refine g_iret rfl dX6_method_73 (Nat.le_refl _) (Nat.le_refl _) ?_
            rw [if_neg g1, if_neg g2] at h
            exact h I k hr FrC.rf hk
  · refine g_if_ne (tgt := 11) (q := 8) dX6_method_5 (by decide) rfl (fun c5 => absurd c5 (by decide)) (fun _ => ?_)
    refine lc_X6_75 (q := 10) rfl dX6_method_8 rfl ?_
    refine g_iret rfl dX6_method_10 (Nat.le_refl _) (Nat.le_refl _) ?_
    rw [methodS, if_neg z2] at h
    exact h I k hr FrC.rf hk
