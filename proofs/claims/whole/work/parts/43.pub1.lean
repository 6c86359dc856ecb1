set_option maxRecDepth 100000 in
set_option maxHeartbeats 4000000 in
theorem c_X6_isRow {d k : Nat} {I : Nat → Nat → Int32} {Q : Option Int32 → Wd → Prop} {x : Int32} (h1 : nI 0 ≤ x ∧ x ≤ nI 7 → Q (some (nI 1)) (I, RR k)) (h0 : ¬ (nI 0 ≤ x ∧ x ≤ nI 7) → Q (some (nI 0)) (I, RR k)) : Ex (d + 1) 0 0 mX6_isRow [.int x] 68 (I, RR k) 68 Q := by
  refine ex_intro (L0 := [.int x]) (by decide +kernel) rfl rfl (Nat.le_of_ble_eq_true rfl) rfl ?_
  refine g_iload_n (q := 1) dX6_isRow_0 rfl rfl ?_
  refine g_iconst (q := 2) (v := nI 0) dX6_isRow_1 rfl (by decide) ?_
  refine g_bipush (q := 4) (v := nI 7) dX6_isRow_2 rfl (by decide) ?_
  refine k_X6_71 (q := 7) rfl (Nat.le_of_ble_eq_true rfl) dX6_isRow_4 rfl (c_X6_isWithin (fun z41 z42 => ?_) (fun z4 => ?_))
  · have z4 := And.intro z41 z42
    refine g_zret rfl (by decide) dX6_isRow_7 (Nat.le_refl _) (Nat.le_refl _) ?_
    exact h1 z4
  · refine g_zret rfl (by decide) dX6_isRow_7 (Nat.le_refl _) (Nat.le_refl _) ?_
    exact h0 z4
set_option maxRecDepth 100000 in
set_option maxHeartbeats 4000000 in
theorem c_X6_isArgument {d k : Nat} {I : Nat → Nat → Int32} {Q : Option Int32 → Wd → Prop} {x : Int32} (h1 : nI 0 ≤ x ∧ x ≤ nI 9 → Q (some (nI 1)) (I, RR k)) (h0 : ¬ (nI 0 ≤ x ∧ x ≤ nI 9) → Q (some (nI 0)) (I, RR k)) : Ex (d + 1) 0 0 mX6_isArgument [.int x] 68 (I, RR k) 68 Q := by
  refine ex_intro (L0 := [.int x]) (by decide +kernel) rfl rfl (Nat.le_of_ble_eq_true rfl) rfl ?_
  refine g_iload_n (q := 1) dX6_isArgument_0 rfl rfl ?_
  refine g_iconst (q := 2) (v := nI 0) dX6_isArgument_1 rfl (by decide) ?_
  refine g_bipush (q := 4) (v := nI 9) dX6_isArgument_2 rfl (by decide) ?_
  refine k_X6_71 (q := 7) rfl (Nat.le_of_ble_eq_true rfl) dX6_isArgument_4 rfl (c_X6_isWithin (fun z41 z42 => ?_) (fun z4 => ?_))
  · have z4 := And.intro z41 z42
    refine g_zret rfl (by decide) dX6_isArgument_7 (Nat.le_refl _) (Nat.le_refl _) ?_
    exact h1 z4
  · refine g_zret rfl (by decide) dX6_isArgument_7 (Nat.le_refl _) (Nat.le_refl _) ?_
    exact h0 z4
set_option maxRecDepth 100000 in
set_option maxHeartbeats 4000000 in
theorem c_X6_isImage {d k : Nat} {I : Nat → Nat → Int32} {Q : Option Int32 → Wd → Prop} {x : Int32} (h1 : nI 0 ≤ x ∧ x ≤ nI 1 → Q (some (nI 1)) (I, RR k)) (h0 : ¬ (nI 0 ≤ x ∧ x ≤ nI 1) → Q (some (nI 0)) (I, RR k)) : Ex (d + 1) 0 0 mX6_isImage [.int x] 68 (I, RR k) 68 Q := by
  refine ex_intro (L0 := [.int x]) (by decide +kernel) rfl rfl (Nat.le_of_ble_eq_true rfl) rfl ?_
  refine g_iload_n (q := 1) dX6_isImage_0 rfl rfl ?_
  refine g_iconst (q := 2) (v := nI 0) dX6_isImage_1 rfl (by decide) ?_
  refine g_iconst (q := 3) (v := nI 1) dX6_isImage_2 rfl (by decide) ?_
  refine k_X6_71 (q := 6) rfl (Nat.le_of_ble_eq_true rfl) dX6_isImage_3 rfl (c_X6_isWithin (fun z31 z32 => ?_) (fun z3 => ?_))
  · have z3 := And.intro z31 z32
    refine g_zret rfl (by decide) dX6_isImage_6 (Nat.le_refl _) (Nat.le_refl _) ?_
    exact h1 z3
  · refine g_zret rfl (by decide) dX6_isImage_6 (Nat.le_refl _) (Nat.le_refl _) ?_
    exact h0 z3
set_option maxRecDepth 100000 in
set_option maxHeartbeats 4000000 in
theorem c_X6_find {d k : Nat} {I : Nat → Nat → Int32} {Q : Option Int32 → Wd → Prop} {x : Int32} (h : Q (some (-1000010 - x)) (uI I 0 9 x, RR k)) : Ex d 0 0 mX6_find [.ref 0, .int x] 68 (I, RR k) 68 Q := by
  refine ex_intro (L0 := [.ref 0, .int x]) (by decide +kernel) rfl rfl (Nat.le_of_ble_eq_true rfl) rfl ?_
  refine g_aload_n (q := 1) dX6_find_0 rfl rfl ?_
  refine g_iload_n (q := 2) dX6_find_1 rfl rfl ?_
  refine pf_X6_63 (q := 5) rfl (by first | assumption | rfl) dX6_find_2 rfl ?_
  refine lc_X6_280 (q := 8) rfl dX6_find_5 rfl ?_
  refine g_iload_n (q := 9) dX6_find_8 rfl rfl ?_
  refine g_isub (q := 10) dX6_find_9 rfl ?_
  refine g_iret rfl dX6_find_10 (Nat.le_refl _) (Nat.le_refl _) ?_
  exact h
set_option maxRecDepth 100000 in
set_option maxHeartbeats 4000000 in
theorem c_X6_findNothing {d k : Nat} {I : Nat → Nat → Int32} {Q : Option Int32 → Wd → Prop} {x : Int32} (h : Q (some x) (uI I 0 9 (nI 0), RR k)) : Ex d 0 0 mX6_findNothing [.ref 0, .int x] 68 (I, RR k) 68 Q := by
  refine ex_intro (L0 := [.ref 0, .int x]) (by decide +kernel) rfl rfl (Nat.le_of_ble_eq_true rfl) rfl ?_
  refine g_aload_n (q := 1) dX6_findNothing_0 rfl rfl ?_
  refine g_iconst (q := 2) (v := nI 0) dX6_findNothing_1 rfl (by decide) ?_
  refine pf_X6_63 (q := 5) rfl (by first | assumption | rfl) dX6_findNothing_2 rfl ?_
  refine g_iload_n (q := 6) dX6_findNothing_5 rfl rfl ?_
  refine g_iret rfl dX6_findNothing_6 (Nat.le_refl _) (Nat.le_refl _) ?_
  exact h
set_option maxRecDepth 100000 in
set_option maxHeartbeats 4000000 in
theorem c_X6_row {d k : Nat} {I : Nat → Nat → Int32} {Q : Option Int32 → Wd → Prop} {S : Sg} {r l c : Int32} (hk : k = 4 ∨ k = 10) (hr : RepC I S) (h : ∀ I2 k2, RepC I2 (rowS S r l c).2 → FrC I I2 → (k2 = 4 ∨ k2 = 10) → Q (some (rowS S r l c).1) (I2, RR k2)) : Ex (d + 2) 0 0 mX6_row [.ref 0, .int r, .int l, .int c] 68 (I, RR k) 68 Q := by
  refine ex_intro (L0 := [.ref 0, .int r, .int l, .int c]) (by decide +kernel) rfl rfl (Nat.le_of_ble_eq_true rfl) rfl ?_
  refine g_iload_n (q := 1) dX6_row_0 rfl rfl ?_
  refine k_X6_67 (q := 4) rfl (Nat.le_of_ble_eq_true rfl) dX6_row_1 rfl (c_X6_isRow (fun z1 => ?_) (fun z1 => ?_))
  · refine g_if_eq (tgt := 22) (q := 7) dX6_row_4 (by decide) rfl (fun c4 => absurd c4 (by decide)) (fun _ => ?_)
    refine g_iload_n (q := 8) dX6_row_7 rfl rfl ?_
    refine g_iconst (q := 9) (v := nI 0) dX6_row_8 rfl (by decide) ?_
    refine g_iconst (q := 10) (v := nI 2) dX6_row_9 rfl (by decide) ?_
    refine k_X6_71 (q := 13) rfl (Nat.le_of_ble_eq_true rfl) dX6_row_10 rfl (c_X6_isWithin (fun z101 z102 => ?_) (fun z10 => ?_))
    · have z10 := And.intro z101 z102
      have y1 := z1
      refine g_if_eq (tgt := 22) (q := 16) dX6_row_13 (by decide) rfl (fun c13 => absurd c13 (by decide)) (fun _ => ?_)
      refine g_iload_n (q := 17) dX6_row_16 rfl rfl ?_
      refine g_bipush (q := 19) (v := nI 40) dX6_row_17 rfl (by decide) ?_
      refine g_icmp_le (tgt := 25) (q := 22) dX6_row_19 (by decide) rfl (fun c19 => ?_) (fun c19 => ?_)
      · refine g_iload_n (q := 26) dX6_row_25 rfl rfl ?_
        refine g_if_ge (tgt := 35) (q := 29) dX6_row_26 (by decide) rfl (fun c26 => ?_) (fun c26 => ?_)
        · have y10 := z10
          obtain ⟨a, ha, rfl⟩ := inR_nat (by decide) z1
          have hwa := (rw_at k a (by omega)).1
          obtain ⟨b, hb, rfl⟩ := inR_nat (by decide) z10
          obtain ⟨c, hc, rfl⟩ := inR_nat (N := 40) (by decide) ⟨c26, c19⟩
          refine g_aload_n (q := 36) dX6_row_35 rfl rfl ?_
          refine gf_X6_11 (q := 39) rfl (by first | assumption | rfl | exact hwa.1) (by first | assumption | rfl) dX6_row_36 rfl ?_
          refine g_iload_n (q := 40) dX6_row_39 rfl rfl ?_
          refine g_aald (q := 41) (t := 3) (N := 8) (C := RX2) rfl (by decide) (by decide) (fun _ => rfl) (nI_in (by omega) (by decide)) (r := 24 + 2 * a) (by rw [nI_clamp (by omega)]; exact (rw_at k a (by omega)).2) dX6_row_40 rfl ?_
          refine g_iload_n (q := 42) dX6_row_41 rfl rfl ?_
          refine g_iload_n (q := 43) dX6_row_42 rfl rfl ?_
          refine k_X6_80 (q := 46) rfl (Nat.le_of_ble_eq_true rfl) (by first | assumption | rfl | exact hwa.1) dX6_row_43 rfl (c_X2_make hwa (by omega) ?_)
          refine g_aload_n (q := 47) dX6_row_46 rfl rfl ?_
          refine g_iload_n (q := 48) dX6_row_47 rfl rfl ?_
          refine k_X6_84 (q := 51) rfl (Nat.le_of_ble_eq_true rfl) (by first | assumption | rfl | exact hwa.1) dX6_row_48 rfl (c_X6_findNothing ?_)
          refine g_iret rfl dX6_row_51 (Nat.le_refl _) (Nat.le_refl _) ?_
          rw [rowS, if_pos y1, if_pos y10, if_pos c19, if_pos c26, nI_clamp (by omega), nI_clamp (by omega), nI_clamp (by omega)] at h
          refine h _ _ ?_ (FrC.tr (FrC.of (ps := [24 + 2 * a, 24 + 2 * a + 1]) (fun p hp => ?_) (by intro p hp; simp only [List.mem_cons, List.not_mem_nil, or_false] at hp; omega)) (FrC.ui (by decide))) hk
          · refine RepC.fnd (x := 0) (RepC.rows hr (RRows.up (r := a) hr.1 (fun p h1 h2 => ?_) (Or.inr ⟨b, c, fun _ => nI 0, rfl, ?_, ?_, by omega, by omega, fun j hj => ?_⟩)) (fun p hp => ?_)) (by decide)
            · funext j; simp [zr, uI, h1, h2]
            · simp [zr, uI]
            · simp [zr, uI]
            · simp [zr, hj]
            · have n1 : p ≠ 24 + 2 * a := by omega
              have n2 : p ≠ 24 + 2 * a + 1 := by omega
              funext j; simp [zr, uI, n1, n2]
          · have n1 : p ≠ 24 + 2 * a := fun e => hp (by simp [e])
            have n2 : p ≠ 24 + 2 * a + 1 := fun e => hp (by simp [e])
            funext j; simp [zr, uI, n1, n2]
        · refine g_aload_n (q := 30) dX6_row_29 rfl rfl ?_
          refine g_iconst (q := 31) (v := nI 4) dX6_row_30 rfl (by decide) ?_
          refine k_X6_76 (q := 34) rfl (Nat.le_of_ble_eq_true rfl) (by first | assumption | rfl | exact hwa.1) dX6_row_31 rfl (c_X6_find ?_)
          refine g_iret rfl dX6_row_34 (Nat.le_refl _) (Nat.le_refl _) ?_
          rw [rowS, if_pos y1, if_pos z10, if_pos c19, if_neg c26] at h
          exact h _ _ (hr.fnd (by decide)) (FrC.ui (by decide)) hk
      · refine lc_X6_75 (q := 24) rfl dX6_row_22 rfl ?_
        refine g_iret rfl dX6_row_24 (Nat.le_refl _) (Nat.le_refl _) ?_
        rw [rowS, if_pos y1, if_pos z10, if_neg c19] at h
        exact h I k hr FrC.rf hk
    · have y1 := z1
      refine g_if_eq (tgt := 22) (q := 16) dX6_row_13 (by decide) rfl (fun _ => ?_) (fun c13 => absurd c13 (by decide))
      refine lc_X6_75 (q := 24) rfl dX6_row_22 rfl ?_
      refine g_iret rfl dX6_row_24 (Nat.le_refl _) (Nat.le_refl _) ?_
      rw [rowS, if_pos y1, if_neg z10] at h
      exact h I k hr FrC.rf hk
  · refine g_if_eq (tgt := 22) (q := 7) dX6_row_4 (by decide) rfl (fun _ => ?_) (fun c4 => absurd c4 (by decide))
    refine lc_X6_75 (q := 24) rfl dX6_row_22 rfl ?_
    refine g_iret rfl dX6_row_24 (Nat.le_refl _) (Nat.le_refl _) ?_
    rw [rowS, if_neg z1] at h
    exact h I k hr FrC.rf hk
