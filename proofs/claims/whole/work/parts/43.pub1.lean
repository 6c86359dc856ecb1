set_option maxRecDepth 100000 in
set_option maxHeartbeats 400000 in
theorem c_X6_isRow {d k : Nat} {I : Nat → Nat → Int32} {Q : Option Int32 → Wd → Prop} {x : Int32} (h1 : nI 0 ≤ x ∧ x ≤ nI 7 → Q (some (nI 1)) (I, RR k)) (h0 : ¬ (nI 0 ≤ x ∧ x ≤ nI 7) → Q (some (nI 0)) (I, RR k)) : Ex (d + 1) 0 0 mX6_isRow [.int x] 68 (I, RR k) 68 Q := by
  refine ex_intro (L0 := [.int x]) (by decide +kernel) rfl rfl (Nat.le_of_ble_eq_true rfl) rfl ?_
  refine g_iload_n (q := 1) dX6_isRow_0 rfl rfl ?_
  refine g_iconst (q := 2) (v := nI 0) dX6_isRow_1 rfl (by decide) ?_
  refine g_bipush (q := 4) (v := nI 7) dX6_isRow_2 rfl (by decide) ?_
  refine k_X6_71 (q := 7) rfl (Nat.le_of_ble_eq_true rfl) dX6_isRow_4 rfl (c_X6_isWithin (fun z41 z42 => ?_) (fun z4 => ?_))
  · have z4 := And.intro z41 z42
    refine g_zret rfl (by decide) dX6_isRow_7 (Nat.le_refl _) (Nat.le_refl _) ?_
    exact h1 z4
  · refine g_zret rfl (by decide) dX6_isRow_7 (Nat.le_refl _) (Nat.le_refl _) ?_
    exact h0 z4
set_option maxRecDepth 100000 in
set_option maxHeartbeats 400000 in
theorem c_X6_isArgument {d k : Nat} {I : Nat → Nat → Int32} {Q : Option Int32 → Wd → Prop} {x : Int32} (h1 : nI 0 ≤ x ∧ x ≤ nI 9 → Q (some (nI 1)) (I, RR k)) (h0 : ¬ (nI 0 ≤ x ∧ x ≤ nI 9) → Q (some (nI 0)) (I, RR k)) : Ex (d + 1) 0 0 mX6_isArgument [.int x] 68 (I, RR k) 68 Q := by
  refine ex_intro (L0 := [.int x]) (by decide +kernel) rfl rfl (Nat.le_of_ble_eq_true rfl) rfl ?_
  refine g_iload_n (q := 1) dX6_isArgument_0 rfl rfl ?_
  refine g_iconst (q := 2) (v := nI 0) dX6_isArgument_1 rfl (by decide) ?_
  refine g_bipush (q := 4) (v := nI 9) dX6_isArgument_2 rfl (by decide) ?_
  refine k_X6_71 (q := 7) rfl (Nat.le_of_ble_eq_true rfl) dX6_isArgument_4 rfl (c_X6_isWithin (fun z41 z42 => ?_) (fun z4 => ?_))
  · have z4 := And.intro z41 z42
    refine g_zret rfl (by decide) dX6_isArgument_7 (Nat.le_refl _) (Nat.le_refl _) ?_
    exact h1 z4
  · refine g_zret rfl (by decide) dX6_isArgument_7 (Nat.le_refl _) (Nat.le_refl _) ?_
    exact h0 z4
set_option maxRecDepth 100000 in
set_option maxHeartbeats 400000 in
theorem c_X6_isImage {d k : Nat} {I : Nat → Nat → Int32} {Q : Option Int32 → Wd → Prop} {x : Int32} (h1 : nI 0 ≤ x ∧ x ≤ nI 1 → Q (some (nI 1)) (I, RR k)) (h0 : ¬ (nI 0 ≤ x ∧ x ≤ nI 1) → Q (some (nI 0)) (I, RR k)) : Ex (d + 1) 0 0 mX6_isImage [.int x] 68 (I, RR k) 68 Q := by
  refine ex_intro (L0 := [.int x]) (by decide +kernel) rfl rfl (Nat.le_of_ble_eq_true rfl) rfl ?_
  refine g_iload_n (q := 1) dX6_isImage_0 rfl rfl ?_
  refine g_iconst (q := 2) (v := nI 0) dX6_isImage_1 rfl (by decide) ?_
  refine g_iconst (q := 3) (v := nI 1) dX6_isImage_2 rfl (by decide) ?_
  refine k_X6_71 (q := 6) rfl (Nat.le_of_ble_eq_true rfl) dX6_isImage_3 rfl (c_X6_isWithin (fun z31 z32 => ?_) (fun z3 => ?_))
  · have z3 := And.intro z31 z32
    refine g_zret rfl (by decide) dX6_isImage_6 (Nat.le_refl _) (Nat.le_refl _) ?_
    exact h1 z3
  · refine g_zret rfl (by decide) dX6_isImage_6 (Nat.le_refl _) (Nat.le_refl _) ?_
    exact h0 z3
set_option maxRecDepth 100000 in
set_option maxHeartbeats 400000 in
theorem c_X6_find {d k : Nat} {I : Nat → Nat → Int32} {Q : Option Int32 → Wd → Prop} {x : Int32} (h : Q (some (-1000010 - x)) (uI I 0 9 x, RR k)) : Ex d 0 0 mX6_find [.ref 0, .int x] 68 (I, RR k) 68 Q := by
  refine ex_intro (L0 := [.ref 0, .int x]) (by decide +kernel) rfl rfl (Nat.le_of_ble_eq_true rfl) rfl ?_
  refine g_aload_n (q := 1) dX6_find_0 rfl rfl ?_
  refine g_iload_n (q := 2) dX6_find_1 rfl rfl ?_
  refine pf_X6_63 (q := 5) rfl (by first | assumption | rfl) dX6_find_2 rfl ?_
  refine lc_X6_280 (q := 8) rfl dX6_find_5 rfl ?_
  refine g_iload_n (q := 9) dX6_find_8 rfl rfl ?_
  refine g_isub (q := 10) dX6_find_9 rfl ?_
  refine g_iret rfl dX6_find_10 (Nat.le_refl _) (Nat.le_refl _) ?_
  exact h
set_option maxRecDepth 100000 in
set_option maxHeartbeats 400000 in
theorem c_X6_findNothing {d k : Nat} {I : Nat → Nat → Int32} {Q : Option Int32 → Wd → Prop} {x : Int32} (h : Q (some x) (uI I 0 9 (nI 0), RR k)) : Ex d 0 0 mX6_findNothing [.ref 0, .int x] 68 (I, RR k) 68 Q := by
  refine ex_intro (L0 := [.ref 0, .int x]) (by decide +kernel) rfl rfl (Nat.le_of_ble_eq_true rfl) rfl ?_
  refine g_aload_n (q := 1) dX6_findNothing_0 rfl rfl ?_
  refine g_iconst (q := 2) (v := nI 0) dX6_findNothing_1 rfl (by decide) ?_
  refine pf_X6_63 (q := 5) rfl (by first | assumption | rfl) dX6_findNothing_2 rfl ?_
  refine g_iload_n (q := 6) dX6_findNothing_5 rfl rfl ?_
  refine g_iret rfl dX6_findNothing_6 (Nat.le_refl _) (Nat.le_refl _) ?_
  exact h
set_option maxRecDepth 100000 in
set_option maxHeartbeats 400000 in
theorem c_X6_row {d k : Nat} {I : Nat → Nat → Int32} {Q : Option Int32 → Wd → Prop} {S : Sg} {r l c : Int32} (hk : k = 4 ∨ k = 10) (hr : RepC I S) (h : ∀ I2 k2, RepC I2 (rowS S r l c).2 → FrC I I2 → (k2 = 4 ∨ k2 = 10) → Q (some (rowS S r l c).1) (I2, RR k2)) : Ex (d + 2) 0 0 mX6_row [.ref 0, .int r, .int l, .int c] 68 (I, RR k) 68 Q := by
  refine ex_intro (L0 := [.ref 0, .int r, .int l, .int c]) (by decide +kernel) rfl rfl (Nat.le_of_ble_eq_true rfl) rfl ?_
  refine g_iload_n (q := 1) dX6_row_0 rfl rfl ?_
  refine k_X6_67 (q := 4) rfl (Nat.le_of_ble_eq_true rfl) dX6_row_1 rfl (c_X6_isRow (fun z1 => ?_) (fun z1 => ?_))
  · refine g_if_eq (tgt := 22) (q := 7) dX6_row_4 (by decide) rfl (fun c4 => absurd c4 (by decide)) (fun _ => ?_)
    refine g_iload_n (q := 8) dX6_row_7 rfl rfl ?_
    refine g_iconst (q := 9) (v := nI 0) dX6_row_8 rfl (by decide) ?_
    refine g_iconst (q := 10) (v := nI 2) dX6_row_9 rfl (by decide) ?_
    refine k_X6_71 (q := 13) rfl (Nat.le_of_ble_eq_true rfl) dX6_row_10 rfl (c_X6_isWithin (fun z101 z102 => ?_) (fun z10 => ?_))
    · have z10 := And.intro z101 z102
      have y1 := z1
      refine g_if_eq (tgt := 22) (q := 16) dX6_row_13 (by decide) rfl (fun c13 => absurd c13 (by decide)) (fun _ => ?_)
      refine g_iload_n (q := 17) dX6_row_16 rfl rfl ?_
      refine g_bipush (q := 19) (v := nI 40) dX6_row_17 rfl (by decide) ?_
      refine g_icmp_le (tgt := 25) (q := 22) dX6_row_19 (by decide) rfl (fun c19 => ?_) (fun c19 => ?_)
      · refine g_iload_n (q := 26) dX6_row_25 rfl rfl ?_
        refine g_if_ge (tgt := 35) (q := 29) dX6_row_26 (by decide) rfl (fun c26 => ?_) (fun c26 => ?_)
        · have y10 := z10
          obtain ⟨a, ha, rfl⟩ := inR_nat (by decide) z1
          have hwa := (rw_at k a (by omega)).1
          obtain ⟨b, hb, rfl⟩ := inR_nat (by decide) z10
          obtain ⟨c, hc, rfl⟩ := inR_nat (N := 40) (by decide) ⟨c26, c19⟩
          refine g_aload_n (q := 36) dX6_row_35 rfl rfl ?_
          refine gf_X6_11 (q := 39) rfl (by first | assumption | rfl | exact hwa.1) (by first | assumption | rfl) dX6_row_36 rfl ?_
          refine g_iload_n (q := 40) dX6_row_39 rfl rfl ?_
          refine g_aald (q := 41) (t := 3) (N := 8) (C := RX2) rfl (by decide) (by decide) (fun _ => rfl) (nI_in (by omega) (by decide)) (r := 24 + 2 * a) (by rw [nI_clamp (by omega)]; exact (rw_at k a (by omega)).2) dX6_row_40 rfl ?_
          refine g_iload_n (q := 42) dX6_row_41 rfl rfl ?_
          refine g_iload_n (q := 43) dX6_row_42 rfl rfl ?_
          refine k_X6_80 (q := 46) rfl (Nat.le_of_ble_eq_true rfl) (by first | assumption | rfl | exact hwa.1) dX6_row_43 rfl (c_X2_make hwa (by omega) ?_)
          refine g_aload_n (q := 47) dX6_row_46 rfl rfl ?_
          refine g_iload_n (q := 48) dX6_row_47 rfl rfl ?_
          refine k_X6_84 (q := 51) rfl (Nat.le_of_ble_eq_true rfl) (by first | assumption | rfl | exact hwa.1) dX6_row_48 rfl (c_X6_findNothing ?_)
          refine g_iret rfl dX6_row_51 (Nat.le_refl _) (Nat.le_refl _) ?_
          rw [rowS, if_pos y1, if_pos y10, if_pos c19, if_pos c26, nI_clamp (by omega), nI_clamp (by omega), nI_clamp (by omega)] at h
          refine h _ _ ?_ (FrC.tr (FrC.of (ps := [24 + 2 * a, 24 + 2 * a + 1]) (fun p hp => ?_) (by intro p hp; simp only [List.mem_cons, List.not_mem_nil, or_false] at hp; omega)) (FrC.ui (by decide))) hk
          · refine RepC.fnd (x := 0) (RepC.rows hr (RRows.up (r := a) hr.1 (fun p h1 h2 => ?_) (Or.inr ⟨b, c, fun _ => nI 0, rfl, ?_, ?_, by omega, by omega, fun j hj => ?_⟩)) (fun p hp => ?_)) (by decide)
            · funext j; simp [zr, uI, h1, h2]
            · simp [zr, uI]
            · simp [zr, uI]
            · simp [zr, hj]
            · have n1 : p ≠ 24 + 2 * a := by omega
              have n2 : p ≠ 24 + 2 * a + 1 := by omega
              funext j; simp [zr, uI, n1, n2]
          · have n1 : p ≠ 24 + 2 * a := fun e => hp (by simp [e])
            have n2 : p ≠ 24 + 2 * a + 1 := fun e => hp (by simp [e])
            funext j; simp [zr, uI, n1, n2]
        · refine g_aload_n (q := 30) dX6_row_29 rfl rfl ?_
          refine g_iconst (q := 31) (v := nI 4) dX6_row_30 rfl (by decide) ?_
          refine k_X6_76 (q := 34) rfl (Nat.le_of_ble_eq_true rfl) (by first | assumption | rfl | exact hwa.1) dX6_row_31 rfl (c_X6_find ?_)
          refine g_iret rfl dX6_row_34 (Nat.le_refl _) (Nat.le_refl _) ?_
          rw [rowS, if_pos y1, if_pos z10, if_pos c19, if_neg c26] at h
          exact h _ _ (hr.fnd (by decide)) (FrC.ui (by decide)) hk
      · refine lc_X6_75 (q := 24) rfl dX6_row_22 rfl ?_
        refine g_iret rfl dX6_row_24 (Nat.le_refl _) (Nat.le_refl _) ?_
        rw [rowS, if_pos y1, if_pos z10, if_neg c19] at h
        exact h I k hr FrC.rf hk
    · have y1 := z1
      refine g_if_eq (tgt := 22) (q := 16) dX6_row_13 (by decide) rfl (fun _ => ?_) (fun c13 => absurd c13 (by decide))
      refine lc_X6_75 (q := 24) rfl dX6_row_22 rfl ?_
      refine g_iret rfl dX6_row_24 (Nat.le_refl _) (Nat.le_refl _) ?_
      rw [rowS, if_pos y1, if_neg z10] at h
      exact h I k hr FrC.rf hk
  · refine g_if_eq (tgt := 22) (q := 7) dX6_row_4 (by decide) rfl (fun _ => ?_) (fun c4 => absurd c4 (by decide))
    refine lc_X6_75 (q := 24) rfl dX6_row_22 rfl ?_
    refine g_iret rfl dX6_row_24 (Nat.le_refl _) (Nat.le_refl _) ?_
    rw [rowS, if_neg z1] at h
    exact h I k hr FrC.rf hk
theorem nI_neg {n : Nat} (h : n < 2 ^ 31) : ¬ nI n = -1 := by
  intro z
  have h1 := congrArg Int32.toInt z
  rw [nI_toInt h] at h1
  have h2 : (-1 : Int32).toInt = -1 := by decide
  rw [h2] at h1
  omega

set_option maxRecDepth 100000 in
set_option maxHeartbeats 400000 in
theorem c_X6_set {d k : Nat} {I : Nat → Nat → Int32} {Q : Option Int32 → Wd → Prop} {S : Sg} {r i v : Int32} (hk : k = 4 ∨ k = 10) (hr : RepC I S) (h : ∀ I2 k2, RepC I2 (setS S r i v).2 → FrC I I2 → (k2 = 4 ∨ k2 = 10) → Q (some (setS S r i v).1) (I2, RR k2)) : Ex (d + 2) 0 0 mX6_set [.ref 0, .int r, .int i, .int v] 68 (I, RR k) 68 Q := by
  refine ex_intro (L0 := [.ref 0, .int r, .int i, .int v]) (by decide +kernel) rfl rfl (Nat.le_of_ble_eq_true rfl) rfl ?_
  refine g_iload_n (q := 1) dX6_set_0 rfl rfl ?_
  refine k_X6_67 (q := 4) rfl (Nat.le_of_ble_eq_true rfl) dX6_set_1 rfl (c_X6_isRow (fun z1 => ?_) (fun z1 => ?_))
  · refine g_if_ne (tgt := 10) (q := 7) dX6_set_4 (by decide) rfl (fun _ => ?_) (fun c4 => absurd c4 (by decide))
    have y1 := z1
    obtain ⟨a, ha, rfl⟩ := inR_nat (by decide) z1
    have hwa := (rw_at k a (by omega)).1
    refine g_aload_n (q := 11) dX6_set_10 rfl rfl ?_
    refine gf_X6_11 (q := 14) rfl (by first | assumption | rfl | exact hwa.1) (by first | assumption | rfl) dX6_set_11 rfl ?_
    refine g_iload_n (q := 15) dX6_set_14 rfl rfl ?_
    refine g_aald (q := 16) (t := 3) (N := 8) (C := RX2) rfl (by decide) (by decide) (fun _ => rfl) (nI_in (by omega) (by decide)) (r := 24 + 2 * a) (by rw [nI_clamp (by omega)]; exact (rw_at k a (by omega)).2) dX6_set_15 rfl ?_
    refine k_X6_87 (q := 19) rfl (Nat.le_of_ble_eq_true rfl) (by first | assumption | rfl | exact hwa.1) dX6_set_16 rfl (c_X2_isMissing hwa (fun z16 => ?_) (fun z16 => ?_))
    · have qna : S.1 a = none := (hr.1 a (by omega)).elim (fun w => w.1) (fun ⟨l, z, it, w1, e1, e2, hl, hz, hit⟩ => absurd (e2.symm.trans z16) (nI_neg (by omega)))
      refine g_if_eq (tgt := 28) (q := 22) dX6_set_19 (by decide) rfl (fun c19 => absurd c19 (by decide)) (fun _ => ?_)
      refine g_aload_n (q := 23) dX6_set_22 rfl rfl ?_
      refine g_iconst (q := 24) (v := nI 1) dX6_set_23 rfl (by decide) ?_
      refine k_X6_76 (q := 27) rfl (Nat.le_of_ble_eq_true rfl) (by first | assumption | rfl | exact hwa.1) dX6_set_24 rfl (c_X6_find ?_)
      refine g_iret rfl dX6_set_27 (Nat.le_refl _) (Nat.le_refl _) ?_
      rw [setS, if_pos y1, nI_clamp (by omega)] at h
      simp only [qna] at h
      exact h _ _ (hr.fnd (by decide)) (FrC.ui (by decide)) hk
    · obtain ⟨la, za, ita, qa, e1a, e2a, hla, hza, hita⟩ : ∃ l z it, S.1 a = some (l, z, it) ∧ I (24 + 2 * a) 1 = nI l ∧ I (24 + 2 * a) 2 = nI z ∧ l < 3 ∧ z ≤ 40 ∧ ∀ j, j < z → I (24 + 2 * a + 1) j = it j := (hr.1 a (by omega)).elim (fun w => absurd w.2 z16) id
      refine g_if_eq (tgt := 28) (q := 22) dX6_set_19 (by decide) rfl (fun _ => ?_) (fun c19 => absurd c19 (by decide))
      refine g_iload_n (q := 29) dX6_set_28 rfl rfl ?_
      refine g_if_lt (tgt := 45) (q := 32) dX6_set_29 (by decide) rfl (fun c29 => ?_) (fun c29 => ?_)
      · refine g_aload_n (q := 46) dX6_set_45 rfl rfl ?_
        refine g_iconst (q := 47) (v := nI 2) dX6_set_46 rfl (by decide) ?_
        refine k_X6_76 (q := 50) rfl (Nat.le_of_ble_eq_true rfl) (by first | assumption | rfl | exact hwa.1) dX6_set_47 rfl (c_X6_find ?_)
        refine g_iret rfl dX6_set_50 (Nat.le_refl _) (Nat.le_refl _) ?_
        rw [setS, if_pos y1, nI_clamp (by omega)] at h
        simp only [qa] at h
        rw [if_neg (fun z => absurd c29 (Int32.not_lt.mpr z.1))] at h
        exact h _ _ (hr.fnd (by decide)) (FrC.ui (by decide)) hk
      · refine g_iload_n (q := 33) dX6_set_32 rfl rfl ?_
        refine g_aload_n (q := 34) dX6_set_33 rfl rfl ?_
        refine gf_X6_11 (q := 37) rfl (by first | assumption | rfl | exact hwa.1) (by first | assumption | rfl) dX6_set_34 rfl ?_
        refine g_iload_n (q := 38) dX6_set_37 rfl rfl ?_
        refine g_aald (q := 39) (t := 3) (N := 8) (C := RX2) rfl (by decide) (by decide) (fun _ => rfl) (nI_in (by omega) (by decide)) (r := 24 + 2 * a) (by rw [nI_clamp (by omega)]; exact (rw_at k a (by omega)).2) dX6_set_38 rfl ?_
        refine k_X6_91 (q := 42) rfl (Nat.le_of_ble_eq_true rfl) (by first | assumption | rfl | exact hwa.1) dX6_set_39 rfl (c_X2_size hwa ?_)
        rw [e2a]
        refine g_icmp_lt (tgt := 51) (q := 45) dX6_set_42 (by decide) rfl (fun c42 => ?_) (fun c42 => ?_)
        · obtain ⟨i, hi, rfl⟩ := nI_of c29
          have hiz := (nI_ltI (a := i) (b := za) (by omega) (by omega)).mp c42
          refine g_aload_n (q := 52) dX6_set_51 rfl rfl ?_
          refine g_aload_n (q := 53) dX6_set_52 rfl rfl ?_
          refine gf_X6_11 (q := 56) rfl (by first | assumption | rfl | exact hwa.1) (by first | assumption | rfl) dX6_set_53 rfl ?_
          refine g_iload_n (q := 57) dX6_set_56 rfl rfl ?_
          refine g_aald (q := 58) (t := 3) (N := 8) (C := RX2) rfl (by decide) (by decide) (fun _ => rfl) (nI_in (by omega) (by decide)) (r := 24 + 2 * a) (by rw [nI_clamp (by omega)]; exact (rw_at k a (by omega)).2) dX6_set_57 rfl ?_
          refine g_iload_n (q := 59) dX6_set_58 rfl rfl ?_
          refine g_iload_n (q := 60) dX6_set_59 rfl rfl ?_
          refine k_X6_95 (q := 63) rfl (Nat.le_of_ble_eq_true rfl) (by first | assumption | rfl | exact hwa.1) dX6_set_60 rfl (c_X2_put hwa (by omega) ?_)
          rw [e1a]
          refine k_X6_84 (q := 66) rfl (Nat.le_of_ble_eq_true rfl) (by first | assumption | rfl | exact hwa.1) dX6_set_63 rfl (c_X6_findNothing ?_)
          refine g_iret rfl dX6_set_66 (Nat.le_refl _) (Nat.le_refl _) ?_
          rw [setS, if_pos y1, nI_clamp (by omega)] at h
          simp only [qa] at h
          rw [if_pos ⟨Int32.not_lt.mp c29, c42⟩, nI_clamp (by omega)] at h
          refine h _ _ ?_ (FrC.tr (FrC.ui (by omega)) (FrC.ui (by decide))) hk
          refine RepC.fnd (x := 0) (RepC.rows hr (RRows.up (r := a) hr.1 (fun p h1 h2 => uI_ne h2) (Or.inr ⟨la, za, _, rfl, ?_, ?_, hla, hza, fun j hj => ?_⟩)) (fun p hp => uI_ne (by omega))) (by decide)
          · rw [uI_ne (by omega)]; exact e1a
          · rw [uI_ne (by omega)]; exact e2a
          · by_cases e : j = i
            · subst e; simp [uI]
            · simp [uI, e]; exact hita j hj
        · refine g_aload_n (q := 46) dX6_set_45 rfl rfl ?_
          refine g_iconst (q := 47) (v := nI 2) dX6_set_46 rfl (by decide) ?_
          refine k_X6_76 (q := 50) rfl (Nat.le_of_ble_eq_true rfl) (by first | assumption | rfl | exact hwa.1) dX6_set_47 rfl (c_X6_find ?_)
          refine g_iret rfl dX6_set_50 (Nat.le_refl _) (Nat.le_refl _) ?_
          rw [setS, if_pos y1, nI_clamp (by omega)] at h
          simp only [qa] at h
          rw [if_neg (fun z => c42 z.2)] at h
          exact h _ _ (hr.fnd (by decide)) (FrC.ui (by decide)) hk
  · refine g_if_ne (tgt := 10) (q := 7) dX6_set_4 (by decide) rfl (fun c4 => absurd c4 (by decide)) (fun _ => ?_)
    refine lc_X6_75 (q := 9) rfl dX6_set_7 rfl ?_
    refine g_iret rfl dX6_set_9 (Nat.le_refl _) (Nat.le_refl _) ?_
    rw [setS, if_neg z1] at h
    exact h I k hr FrC.rf hk
set_option maxRecDepth 100000 in
set_option maxHeartbeats 400000 in
theorem c_X6_drop {d k : Nat} {I : Nat → Nat → Int32} {Q : Option Int32 → Wd → Prop} {S : Sg} {r : Int32} (hk : k = 4 ∨ k = 10) (hr : RepC I S) (h : ∀ I2 k2, RepC I2 (dropS S r).2 → FrC I I2 → (k2 = 4 ∨ k2 = 10) → Q (some (dropS S r).1) (I2, RR k2)) : Ex (d + 2) 0 0 mX6_drop [.ref 0, .int r] 68 (I, RR k) 68 Q := by
  refine ex_intro (L0 := [.ref 0, .int r, .null]) (by decide +kernel) rfl rfl (Nat.le_of_ble_eq_true rfl) rfl ?_
  refine g_iload_n (q := 1) dX6_drop_0 rfl rfl ?_
  refine k_X6_67 (q := 4) rfl (Nat.le_of_ble_eq_true rfl) dX6_drop_1 rfl (c_X6_isRow (fun z1 => ?_) (fun z1 => ?_))
  · refine g_if_ne (tgt := 10) (q := 7) dX6_drop_4 (by decide) rfl (fun _ => ?_) (fun c4 => absurd c4 (by decide))
    have y1 := z1
    obtain ⟨a, ha, rfl⟩ := inR_nat (by decide) z1
    have hwa := (rw_at k a (by omega)).1
    refine g_aload_n (q := 11) dX6_drop_10 rfl rfl ?_
    refine gf_X6_11 (q := 14) rfl (by first | assumption | rfl | exact hwa.1) (by first | assumption | rfl) dX6_drop_11 rfl ?_
    refine g_iload_n (q := 15) dX6_drop_14 rfl rfl ?_
    refine g_aald (q := 16) (t := 3) (N := 8) (C := RX2) rfl (by decide) (by decide) (fun _ => rfl) (nI_in (by omega) (by decide)) (r := 24 + 2 * a) (by rw [nI_clamp (by omega)]; exact (rw_at k a (by omega)).2) dX6_drop_15 rfl ?_
    refine k_X6_87 (q := 19) rfl (Nat.le_of_ble_eq_true rfl) (by first | assumption | rfl | exact hwa.1) dX6_drop_16 rfl (c_X2_isMissing hwa (fun z16 => ?_) (fun z16 => ?_))
    · have qna : S.1 a = none := (hr.1 a (by omega)).elim (fun w => w.1) (fun ⟨l, z, it, w1, e1, e2, hl, hz, hit⟩ => absurd (e2.symm.trans z16) (nI_neg (by omega)))
      refine g_if_eq (tgt := 28) (q := 22) dX6_drop_19 (by decide) rfl (fun c19 => absurd c19 (by decide)) (fun _ => ?_)
      refine g_aload_n (q := 23) dX6_drop_22 rfl rfl ?_
      refine g_iconst (q := 24) (v := nI 1) dX6_drop_23 rfl (by decide) ?_
      refine k_X6_76 (q := 27) rfl (Nat.le_of_ble_eq_true rfl) (by first | assumption | rfl | exact hwa.1) dX6_drop_24 rfl (c_X6_find ?_)
      refine g_iret rfl dX6_drop_27 (Nat.le_refl _) (Nat.le_refl _) ?_
      rw [dropS, if_pos y1, nI_clamp (by omega)] at h
      simp only [qna] at h
      exact h _ _ (hr.fnd (by decide)) (FrC.ui (by decide)) hk
    · obtain ⟨la, za, ita, qa, e1a, e2a, hla, hza, hita⟩ : ∃ l z it, S.1 a = some (l, z, it) ∧ I (24 + 2 * a) 1 = nI l ∧ I (24 + 2 * a) 2 = nI z ∧ l < 3 ∧ z ≤ 40 ∧ ∀ j, j < z → I (24 + 2 * a + 1) j = it j := (hr.1 a (by omega)).elim (fun w => absurd w.2 z16) id
      refine g_if_eq (tgt := 28) (q := 22) dX6_drop_19 (by decide) rfl (fun _ => ?_) (fun c19 => absurd c19 (by decide))
      refine g_aload_n (q := 29) dX6_drop_28 rfl rfl ?_
      refine gf_X6_11 (q := 32) rfl (by first | assumption | rfl | exact hwa.1) (by first | assumption | rfl) dX6_drop_29 rfl ?_
      refine g_iload_n (q := 33) dX6_drop_32 rfl rfl ?_
      refine g_aald (q := 34) (t := 3) (N := 8) (C := RX2) rfl (by decide) (by decide) (fun _ => rfl) (nI_in (by omega) (by decide)) (r := 24 + 2 * a) (by rw [nI_clamp (by omega)]; exact (rw_at k a (by omega)).2) dX6_drop_33 rfl ?_
      refine k_X6_91 (q := 37) rfl (Nat.le_of_ble_eq_true rfl) (by first | assumption | rfl | exact hwa.1) dX6_drop_34 rfl (c_X2_size hwa ?_)
      rw [e2a]
      refine g_istore_n (q := 38) dX6_drop_37 rfl (by decide) rfl rfl ?_
      refine g_aload_n (q := 39) dX6_drop_38 rfl rfl ?_
      refine gf_X6_11 (q := 42) rfl (by first | assumption | rfl | exact hwa.1) (by first | assumption | rfl) dX6_drop_39 rfl ?_
      refine g_iload_n (q := 43) dX6_drop_42 rfl rfl ?_
      refine g_aald (q := 44) (t := 3) (N := 8) (C := RX2) rfl (by decide) (by decide) (fun _ => rfl) (nI_in (by omega) (by decide)) (r := 24 + 2 * a) (by rw [nI_clamp (by omega)]; exact (rw_at k a (by omega)).2) dX6_drop_43 rfl ?_
      refine k_X6_110 (q := 47) rfl (Nat.le_of_ble_eq_true rfl) (by first | assumption | rfl | exact hwa.1) dX6_drop_44 rfl (c_X2_lose hwa ?_)
      refine g_aload_n (q := 48) dX6_drop_47 rfl rfl ?_
      refine g_iload_n (q := 49) dX6_drop_48 rfl rfl ?_
      refine k_X6_84 (q := 52) rfl (Nat.le_of_ble_eq_true rfl) (by first | assumption | rfl | exact hwa.1) dX6_drop_49 rfl (c_X6_findNothing ?_)
      refine g_iret rfl dX6_drop_52 (Nat.le_refl _) (Nat.le_refl _) ?_
      rw [dropS, if_pos y1, nI_clamp (by omega)] at h
      simp only [qa] at h
      refine h _ _ ?_ (FrC.tr (FrC.ui (by omega)) (FrC.ui (by decide))) hk
      exact RepC.fnd (x := 0) (RepC.rows hr (RRows.up (r := a) hr.1 (fun p h1 h2 => uI_ne h1) (Or.inl ⟨rfl, uI_eq⟩)) (fun p hp => uI_ne (by omega))) (by decide)
  · refine g_if_ne (tgt := 10) (q := 7) dX6_drop_4 (by decide) rfl (fun c4 => absurd c4 (by decide)) (fun _ => ?_)
    refine lc_X6_75 (q := 9) rfl dX6_drop_7 rfl ?_
    refine g_iret rfl dX6_drop_9 (Nat.le_refl _) (Nat.le_refl _) ?_
    rw [dropS, if_neg z1] at h
    exact h I k hr FrC.rf hk
set_option maxRecDepth 100000 in
set_option maxHeartbeats 400000 in
theorem c_X6_copy {d k : Nat} {I : Nat → Nat → Int32} {Q : Option Int32 → Wd → Prop} {S : Sg} {r i t j c : Int32} (hk : k = 4 ∨ k = 10) (hr : RepC I S) (h : ∀ I2 k2, RepC I2 (copyS S r i t j c).2 → FrC I I2 → (k2 = 4 ∨ k2 = 10) → Q (some (copyS S r i t j c).1) (I2, RR k2)) : Ex (d + 2) 0 0 mX6_copy [.ref 0, .int r, .int i, .int t, .int j, .int c] 68 (I, RR k) 68 Q := by
  refine ex_intro (L0 := [.ref 0, .int r, .int i, .int t, .int j, .int c]) (by decide +kernel) rfl rfl (Nat.le_of_ble_eq_true rfl) rfl ?_
  refine g_iload_n (q := 1) dX6_copy_0 rfl rfl ?_
  refine k_X6_67 (q := 4) rfl (Nat.le_of_ble_eq_true rfl) dX6_copy_1 rfl (c_X6_isRow (fun z1 => ?_) (fun z1 => ?_))
  · refine g_if_eq (tgt := 14) (q := 7) dX6_copy_4 (by decide) rfl (fun c4 => absurd c4 (by decide)) (fun _ => ?_)
    refine g_iload_n (q := 8) dX6_copy_7 rfl rfl ?_
    refine k_X6_67 (q := 11) rfl (Nat.le_of_ble_eq_true rfl) dX6_copy_8 rfl (c_X6_isRow (fun z8 => ?_) (fun z8 => ?_))
    · refine g_if_ne (tgt := 17) (q := 14) dX6_copy_11 (by decide) rfl (fun _ => ?_) (fun c11 => absurd c11 (by decide))
      have y1 := z1
      have y8 := z8
      obtain ⟨a, ha, rfl⟩ := inR_nat (by decide) z1
      have hwa := (rw_at k a (by omega)).1
      obtain ⟨b, hb, rfl⟩ := inR_nat (by decide) z8
      have hwb := (rw_at k b (by omega)).1
      refine g_aload_n (q := 18) dX6_copy_17 rfl rfl ?_
      refine gf_X6_11 (q := 21) rfl (by first | assumption | rfl | exact hwa.1 | exact hwb.1) (by first | assumption | rfl) dX6_copy_18 rfl ?_
      refine g_iload_n (q := 22) dX6_copy_21 rfl rfl ?_
      refine g_aald (q := 23) (t := 3) (N := 8) (C := RX2) rfl (by decide) (by decide) (fun _ => rfl) (nI_in (by omega) (by decide)) (r := 24 + 2 * a) (by rw [nI_clamp (by omega)]; exact (rw_at k a (by omega)).2) dX6_copy_22 rfl ?_
      refine k_X6_87 (q := 26) rfl (Nat.le_of_ble_eq_true rfl) (by first | assumption | rfl | exact hwa.1 | exact hwb.1) dX6_copy_23 rfl (c_X2_isMissing hwa (fun z23 => ?_) (fun z23 => ?_))
      · have qna : S.1 a = none := (hr.1 a (by omega)).elim (fun w => w.1) (fun ⟨l, z, it, w1, e1, e2, hl, hz, hit⟩ => absurd (e2.symm.trans z23) (nI_neg (by omega)))
        refine g_if_ne (tgt := 41) (q := 29) dX6_copy_26 (by decide) rfl (fun _ => ?_) (fun c26 => absurd c26 (by decide))
        refine g_aload_n (q := 42) dX6_copy_41 rfl rfl ?_
        refine g_iconst (q := 43) (v := nI 1) dX6_copy_42 rfl (by decide) ?_
        refine k_X6_76 (q := 46) rfl (Nat.le_of_ble_eq_true rfl) (by first | assumption | rfl | exact hwa.1 | exact hwb.1) dX6_copy_43 rfl (c_X6_find ?_)
        refine g_iret rfl dX6_copy_46 (Nat.le_refl _) (Nat.le_refl _) ?_
        rw [copyS, if_pos y1, if_pos y8, nI_clamp (by omega), nI_clamp (by omega)] at h
        simp only [qna] at h
        exact h _ _ (hr.fnd (by decide)) (FrC.ui (by decide)) hk
      · obtain ⟨la, za, ita, qa, e1a, e2a, hla, hza, hita⟩ : ∃ l z it, S.1 a = some (l, z, it) ∧ I (24 + 2 * a) 1 = nI l ∧ I (24 + 2 * a) 2 = nI z ∧ l < 3 ∧ z ≤ 40 ∧ ∀ j, j < z → I (24 + 2 * a + 1) j = it j := (hr.1 a (by omega)).elim (fun w => absurd w.2 z23) id
        refine g_if_ne (tgt := 41) (q := 29) dX6_copy_26 (by decide) rfl (fun c26 => absurd c26 (by decide)) (fun _ => ?_)
        refine g_aload_n (q := 30) dX6_copy_29 rfl rfl ?_
        refine gf_X6_11 (q := 33) rfl (by first | assumption | rfl | exact hwa.1 | exact hwb.1) (by first | assumption | rfl) dX6_copy_30 rfl ?_
        refine g_iload_n (q := 34) dX6_copy_33 rfl rfl ?_
        refine g_aald (q := 35) (t := 3) (N := 8) (C := RX2) rfl (by decide) (by decide) (fun _ => rfl) (nI_in (by omega) (by decide)) (r := 24 + 2 * b) (by rw [nI_clamp (by omega)]; exact (rw_at k b (by omega)).2) dX6_copy_34 rfl ?_
        refine k_X6_87 (q := 38) rfl (Nat.le_of_ble_eq_true rfl) (by first | assumption | rfl | exact hwa.1 | exact hwb.1) dX6_copy_35 rfl (c_X2_isMissing hwb (fun z35 => ?_) (fun z35 => ?_))
        · have qnb : S.1 b = none := (hr.1 b (by omega)).elim (fun w => w.1) (fun ⟨l, z, it, w1, e1, e2, hl, hz, hit⟩ => absurd (e2.symm.trans z35) (nI_neg (by omega)))
          refine g_if_eq (tgt := 47) (q := 41) dX6_copy_38 (by decide) rfl (fun c38 => absurd c38 (by decide)) (fun _ => ?_)
          refine g_aload_n (q := 42) dX6_copy_41 rfl rfl ?_
          refine g_iconst (q := 43) (v := nI 1) dX6_copy_42 rfl (by decide) ?_
          refine k_X6_76 (q := 46) rfl (Nat.le_of_ble_eq_true rfl) (by first | assumption | rfl | exact hwa.1 | exact hwb.1) dX6_copy_43 rfl (c_X6_find ?_)
          refine g_iret rfl dX6_copy_46 (Nat.le_refl _) (Nat.le_refl _) ?_
          rw [copyS, if_pos y1, if_pos y8, nI_clamp (by omega), nI_clamp (by omega)] at h
          simp only [qa, qnb] at h
          exact h _ _ (hr.fnd (by decide)) (FrC.ui (by decide)) hk
        · obtain ⟨lb, zb, itb, qb, e1b, e2b, hlb, hzb, hitb⟩ : ∃ l z it, S.1 b = some (l, z, it) ∧ I (24 + 2 * b) 1 = nI l ∧ I (24 + 2 * b) 2 = nI z ∧ l < 3 ∧ z ≤ 40 ∧ ∀ j, j < z → I (24 + 2 * b + 1) j = it j := (hr.1 b (by omega)).elim (fun w => absurd w.2 z35) id
          refine g_if_eq (tgt := 47) (q := 41) dX6_copy_38 (by decide) rfl (fun _ => ?_) (fun c38 => absurd c38 (by decide))
          refine g_aload_n (q := 48) dX6_copy_47 rfl rfl ?_
          refine gf_X6_11 (q := 51) rfl (by first | assumption | rfl | exact hwa.1 | exact hwb.1) (by first | assumption | rfl) dX6_copy_48 rfl ?_
          refine g_iload_n (q := 52) dX6_copy_51 rfl rfl ?_
          refine g_aald (q := 53) (t := 3) (N := 8) (C := RX2) rfl (by decide) (by decide) (fun _ => rfl) (nI_in (by omega) (by decide)) (r := 24 + 2 * a) (by rw [nI_clamp (by omega)]; exact (rw_at k a (by omega)).2) dX6_copy_52 rfl ?_
          refine k_X6_99 (q := 56) rfl (Nat.le_of_ble_eq_true rfl) (by first | assumption | rfl | exact hwa.1 | exact hwb.1) dX6_copy_53 rfl (c_X2_lane hwa ?_)
          rw [e1a]
          refine g_aload_n (q := 57) dX6_copy_56 rfl rfl ?_
          refine gf_X6_11 (q := 60) rfl (by first | assumption | rfl | exact hwa.1 | exact hwb.1) (by first | assumption | rfl) dX6_copy_57 rfl ?_
          refine g_iload_n (q := 61) dX6_copy_60 rfl rfl ?_
          refine g_aald (q := 62) (t := 3) (N := 8) (C := RX2) rfl (by decide) (by decide) (fun _ => rfl) (nI_in (by omega) (by decide)) (r := 24 + 2 * b) (by rw [nI_clamp (by omega)]; exact (rw_at k b (by omega)).2) dX6_copy_61 rfl ?_
          refine k_X6_99 (q := 65) rfl (Nat.le_of_ble_eq_true rfl) (by first | assumption | rfl | exact hwa.1 | exact hwb.1) dX6_copy_62 rfl (c_X2_lane hwb ?_)
          rw [e1b]
          refine g_icmp_eq (tgt := 74) (q := 68) dX6_copy_65 (by decide) rfl (fun c65 => ?_) (fun c65 => ?_)
          · refine g_aload_n (q := 75) dX6_copy_74 rfl rfl ?_
            refine gf_X6_11 (q := 78) rfl (by first | assumption | rfl | exact hwa.1 | exact hwb.1) (by first | assumption | rfl) dX6_copy_75 rfl ?_
            refine g_iload_n (q := 79) dX6_copy_78 rfl rfl ?_
            refine g_aald (q := 80) (t := 3) (N := 8) (C := RX2) rfl (by decide) (by decide) (fun _ => rfl) (nI_in (by omega) (by decide)) (r := 24 + 2 * a) (by rw [nI_clamp (by omega)]; exact (rw_at k a (by omega)).2) dX6_copy_79 rfl ?_
            refine g_iload_n (q := 81) dX6_copy_80 rfl rfl ?_
            refine g_iload (q := 83) dX6_copy_81 rfl rfl ?_
            refine k_X6_102 (q := 86) rfl (Nat.le_of_ble_eq_true rfl) (by first | assumption | rfl | exact hwa.1 | exact hwb.1) dX6_copy_83 rfl (c_X2_holds hwa (fun u1 u2 u3 u4 => ?_) (fun z83 => ?_))
            · have z83 : hold za _ _ := ⟨u1, u2, by rw [← e2a]; exact u3, by rw [← e2a]; exact u4⟩
              refine g_if_eq (tgt := 105) (q := 89) dX6_copy_86 (by decide) rfl (fun c86 => absurd c86 (by decide)) (fun _ => ?_)
              refine g_aload_n (q := 90) dX6_copy_89 rfl rfl ?_
              refine gf_X6_11 (q := 93) rfl (by first | assumption | rfl | exact hwa.1 | exact hwb.1) (by first | assumption | rfl) dX6_copy_90 rfl ?_
              refine g_iload_n (q := 94) dX6_copy_93 rfl rfl ?_
              refine g_aald (q := 95) (t := 3) (N := 8) (C := RX2) rfl (by decide) (by decide) (fun _ => rfl) (nI_in (by omega) (by decide)) (r := 24 + 2 * b) (by rw [nI_clamp (by omega)]; exact (rw_at k b (by omega)).2) dX6_copy_94 rfl ?_
              refine g_iload (q := 97) dX6_copy_95 rfl rfl ?_
              refine g_iload (q := 99) dX6_copy_97 rfl rfl ?_
              refine k_X6_102 (q := 102) rfl (Nat.le_of_ble_eq_true rfl) (by first | assumption | rfl | exact hwa.1 | exact hwb.1) dX6_copy_99 rfl (c_X2_holds hwb (fun u1 u2 u3 u4 => ?_) (fun z99 => ?_))
              · have z99 : hold zb _ _ := ⟨u1, u2, by rw [← e2b]; exact u3, by rw [← e2b]; exact u4⟩
                refine g_if_ne (tgt := 111) (q := 105) dX6_copy_102 (by decide) rfl (fun _ => ?_) (fun c102 => absurd c102 (by decide))
                have y83 := z83
                have y99 := z99
                obtain ⟨x, n, rfl, rfl, hxn⟩ := hold_nat hza z83
                obtain ⟨y, n2, rfl, en, hyn⟩ := hold_nat hzb z99
                have en := (nI_eq (by omega) (by omega)).mp en
                subst en
                refine g_aload_n (q := 112) dX6_copy_111 rfl rfl ?_
                refine gf_X6_11 (q := 115) rfl (by first | assumption | rfl | exact hwa.1 | exact hwb.1) (by first | assumption | rfl) dX6_copy_112 rfl ?_
                refine g_iload_n (q := 116) dX6_copy_115 rfl rfl ?_
                refine g_aald (q := 117) (t := 3) (N := 8) (C := RX2) rfl (by decide) (by decide) (fun _ => rfl) (nI_in (by omega) (by decide)) (r := 24 + 2 * b) (by rw [nI_clamp (by omega)]; exact (rw_at k b (by omega)).2) dX6_copy_116 rfl ?_
                refine g_aload_n (q := 118) dX6_copy_117 rfl rfl ?_
                refine gf_X6_11 (q := 121) rfl (by first | assumption | rfl | exact hwa.1 | exact hwb.1) (by first | assumption | rfl) dX6_copy_118 rfl ?_
                refine g_iload_n (q := 122) dX6_copy_121 rfl rfl ?_
                refine g_aald (q := 123) (t := 3) (N := 8) (C := RX2) rfl (by decide) (by decide) (fun _ => rfl) (nI_in (by omega) (by decide)) (r := 24 + 2 * a) (by rw [nI_clamp (by omega)]; exact (rw_at k a (by omega)).2) dX6_copy_122 rfl ?_
                refine g_iload_n (q := 124) dX6_copy_123 rfl rfl ?_
                refine g_iload (q := 126) dX6_copy_124 rfl rfl ?_
                refine g_iload (q := 128) dX6_copy_126 rfl rfl ?_
                refine k_X6_106 (q := 131) rfl (Nat.le_of_ble_eq_true rfl) (by first | assumption | rfl | exact hwa.1 | exact hwb.1) dX6_copy_128 rfl (c_X2_take hwb hwa (by omega) (by omega) ?_)
                refine g_aload_n (q := 132) dX6_copy_131 rfl rfl ?_
                refine g_iload (q := 134) dX6_copy_132 rfl rfl ?_
                refine k_X6_84 (q := 137) rfl (Nat.le_of_ble_eq_true rfl) (by first | assumption | rfl | exact hwa.1 | exact hwb.1) dX6_copy_134 rfl (c_X6_findNothing ?_)
                refine g_iret rfl dX6_copy_137 (Nat.le_refl _) (Nat.le_refl _) ?_
                rw [copyS, if_pos y1, if_pos y8, nI_clamp (by omega), nI_clamp (by omega)] at h
                simp only [qa, qb] at h
                rw [if_pos c65, if_pos y83, if_pos y99, nI_clamp (by omega), nI_clamp (by omega), nI_clamp (by omega)] at h
                refine h _ _ ?_ (FrC.tr (FrC.of (Fr.ua (ps := [24 + 2 * b + 1]) (by simp)) (by intro p hp; simp only [List.mem_cons, List.not_mem_nil, or_false] at hp; omega)) (FrC.ui (by decide))) hk
                refine RepC.fnd (x := 0) (RepC.rows hr (RRows.up (r := b) hr.1 (fun p h1 h2 => uA_ne h2) (Or.inr ⟨lb, zb, _, rfl, ?_, ?_, hlb, hzb, fun q hq => ?_⟩)) (fun p hp => uA_ne (by omega))) (by decide)
                · rw [uA_ne (by omega)]; exact e1b
                · rw [uA_ne (by omega)]; exact e2b
                · show (uA I (24 + 2 * b + 1) _) (24 + 2 * b + 1) q = _
                  simp only [uA, if_true, va_cpy]
                  by_cases hc : y ≤ q ∧ q < y + n
                  · rw [if_pos hc, if_pos hc]; exact hita _ (by omega)
                  · rw [if_neg hc, if_neg hc]; exact hitb q hq
              · rw [e2b] at z99
                refine g_if_ne (tgt := 111) (q := 105) dX6_copy_102 (by decide) rfl (fun c102 => absurd c102 (by decide)) (fun _ => ?_)
                refine g_aload_n (q := 106) dX6_copy_105 rfl rfl ?_
                refine g_iconst (q := 107) (v := nI 2) dX6_copy_106 rfl (by decide) ?_
                refine k_X6_76 (q := 110) rfl (Nat.le_of_ble_eq_true rfl) (by first | assumption | rfl | exact hwa.1 | exact hwb.1) dX6_copy_107 rfl (c_X6_find ?_)
                refine g_iret rfl dX6_copy_110 (Nat.le_refl _) (Nat.le_refl _) ?_
                rw [copyS, if_pos y1, if_pos y8, nI_clamp (by omega), nI_clamp (by omega)] at h
                simp only [qa, qb] at h
                rw [if_pos c65, if_pos z83, if_neg z99] at h
                exact h _ _ (hr.fnd (by decide)) (FrC.ui (by decide)) hk
            · rw [e2a] at z83
              refine g_if_eq (tgt := 105) (q := 89) dX6_copy_86 (by decide) rfl (fun _ => ?_) (fun c86 => absurd c86 (by decide))
              refine g_aload_n (q := 106) dX6_copy_105 rfl rfl ?_
              refine g_iconst (q := 107) (v := nI 2) dX6_copy_106 rfl (by decide) ?_
              refine k_X6_76 (q := 110) rfl (Nat.le_of_ble_eq_true rfl) (by first | assumption | rfl | exact hwa.1 | exact hwb.1) dX6_copy_107 rfl (c_X6_find ?_)
              refine g_iret rfl dX6_copy_110 (Nat.le_refl _) (Nat.le_refl _) ?_
              rw [copyS, if_pos y1, if_pos y8, nI_clamp (by omega), nI_clamp (by omega)] at h
              simp only [qa, qb] at h
              rw [if_pos c65, if_neg z83] at h
              exact h _ _ (hr.fnd (by decide)) (FrC.ui (by decide)) hk
          · refine g_aload_n (q := 69) dX6_copy_68 rfl rfl ?_
            refine g_iconst (q := 70) (v := nI 5) dX6_copy_69 rfl (by decide) ?_
            refine k_X6_76 (q := 73) rfl (Nat.le_of_ble_eq_true rfl) (by first | assumption | rfl | exact hwa.1 | exact hwb.1) dX6_copy_70 rfl (c_X6_find ?_)
            refine g_iret rfl dX6_copy_73 (Nat.le_refl _) (Nat.le_refl _) ?_
            rw [copyS, if_pos y1, if_pos y8, nI_clamp (by omega), nI_clamp (by omega)] at h
            simp only [qa, qb] at h
            rw [if_neg c65] at h
            exact h _ _ (hr.fnd (by decide)) (FrC.ui (by decide)) hk
    · refine g_if_ne (tgt := 17) (q := 14) dX6_copy_11 (by decide) rfl (fun c11 => absurd c11 (by decide)) (fun _ => ?_)
      refine lc_X6_75 (q := 16) rfl dX6_copy_14 rfl ?_
      refine g_iret rfl dX6_copy_16 (Nat.le_refl _) (Nat.le_refl _) ?_
      rw [copyS, if_pos z1, if_neg z8] at h
      exact h I k hr FrC.rf hk
  · refine g_if_eq (tgt := 14) (q := 7) dX6_copy_4 (by decide) rfl (fun _ => ?_) (fun c4 => absurd c4 (by decide))
    refine lc_X6_75 (q := 16) rfl dX6_copy_14 rfl ?_
    refine g_iret rfl dX6_copy_16 (Nat.le_refl _) (Nat.le_refl _) ?_
    rw [copyS, if_neg z1] at h
    exact h I k hr FrC.rf hk
