theorem nI_pr {n : Nat} (h : ¬ n = 0) : nI n - nI 1 = nI (n - 1) := by
  obtain ⟨m, rfl⟩ : ∃ m, n = m + 1 := ⟨n - 1, by omega⟩
  rw [Nat.add_sub_cancel]
  exact nI_pred m
set_option maxRecDepth 100000 in
set_option maxHeartbeats 400000 in
theorem c_X7_change {d k : Nat} {I : Nat → Nat → Int32} {Q : Option Int32 → Wd → Prop} {S : Sg} {a w x : Int32} (hr : RepM I S) (h : ∀ I2, RepM I2 (changeS S a w x).2 → FrM I I2 → Q (some (changeS S a w x).1) (I2, RR k)) : Ex (d + 3) 0 0 mX7_change [.ref 52, .int a, .int w, .int x] 68 (I, RR k) 68 Q := by
  have hVg : VOk (gv S) := hr.2.2.2.2.1.2
  have hMg : MRep I 58 0 (gv S) := hr.2.2.2.2.1.1
  obtain ⟨v1, v2, v3, v4⟩ := id hVg

  refine ex_intro (L0 := [.ref 52, .int a, .int w, .int x, .null]) (by decide +kernel) rfl rfl (Nat.le_of_ble_eq_true rfl) rfl ?_
  refine g_iload_n (q := 1) dX7_change_0 rfl rfl ?_
  refine g_if_ne (tgt := 14) (q := 4) dX7_change_1 (by decide) rfl (fun c1 => ?_) (fun c1 => ?_)
  · refine g_iload_n (q := 15) dX7_change_14 rfl rfl ?_
    refine g_iconst (q := 16) (v := nI 1) dX7_change_15 rfl (by decide) ?_
    refine g_icmp_ne (tgt := 29) (q := 19) dX7_change_16 (by decide) rfl (fun c16 => ?_) (fun c16 => ?_)
    · refine g_iload_n (q := 30) dX7_change_29 rfl rfl ?_
      refine g_iconst (q := 31) (v := nI 2) dX7_change_30 rfl (by decide) ?_
      refine g_icmp_ne (tgt := 48) (q := 34) dX7_change_31 (by decide) rfl (fun c31 => ?_) (fun c31 => ?_)
      · refine g_iconst (q := 49) (v := nI 0) dX7_change_48 rfl (by decide) ?_
        refine g_istore (q := 51) dX7_change_49 rfl (by decide) rfl rfl ?_
        refine g_aload_n (q := 52) dX7_change_51 rfl rfl ?_
        refine g_iload_n (q := 53) dX7_change_52 rfl rfl ?_
        refine k_X7_232 (q := 56) rfl (Nat.le_of_ble_eq_true rfl) (by first | assumption | rfl) dX7_change_53 rfl (c_X7_isAdvice hMg (fun z53 => ?_) (fun z53 => ?_))
        · refine g_if_eq (tgt := 64) (q := 59) dX7_change_56 (by decide) rfl (fun c56 => absurd c56 (by decide)) (fun _ => ?_)
          refine g_iload (q := 61) dX7_change_59 rfl rfl ?_
          refine g_if_ne (tgt := 67) (q := 64) dX7_change_61 (by decide) rfl (fun c61 => absurd c61 (by decide)) (fun _ => ?_)
          refine lc_X7_70 (q := 66) rfl dX7_change_64 rfl ?_
          refine g_iret rfl dX7_change_66 (Nat.le_refl _) (Nat.le_refl _) ?_
          rw [changeS, if_pos z53, if_neg (fun z => c1 z.1), if_neg (fun z => c16 z.1), if_neg (fun z => c31 z.1)] at h
          exact h I hr FrM.rf
        · refine g_if_eq (tgt := 64) (q := 59) dX7_change_56 (by decide) rfl (fun _ => ?_) (fun c56 => absurd c56 (by decide))
          refine lc_X7_70 (q := 66) rfl dX7_change_64 rfl ?_
          refine g_iret rfl dX7_change_66 (Nat.le_refl _) (Nat.le_refl _) ?_
          rw [changeS, if_neg z53] at h
          exact h I hr FrM.rf
      · refine g_iload_n (q := 35) dX7_change_34 rfl rfl ?_
        refine g_iconst (q := 36) (v := nI 0) dX7_change_35 rfl (by decide) ?_
        refine g_bipush (q := 38) (v := nI 6) dX7_change_36 rfl (by decide) ?_
        refine k_X7_62 (q := 41) rfl (Nat.le_of_ble_eq_true rfl) dX7_change_38 rfl (c_X7_in (fun z381 z382 => ?_) (fun z38 => ?_))
        · have z38 := And.intro z381 z382
          refine g_if_eq (tgt := 48) (q := 44) dX7_change_41 (by decide) rfl (fun c41 => absurd c41 (by decide)) (fun _ => ?_)
          refine g_iconst (q := 45) (v := nI 1) dX7_change_44 rfl (by decide) ?_
          refine g_goto (q := 49) dX7_change_45 (by decide) ?_
          refine g_istore (q := 51) dX7_change_49 rfl (by decide) rfl rfl ?_
          refine g_aload_n (q := 52) dX7_change_51 rfl rfl ?_
          refine g_iload_n (q := 53) dX7_change_52 rfl rfl ?_
          refine k_X7_232 (q := 56) rfl (Nat.le_of_ble_eq_true rfl) (by first | assumption | rfl) dX7_change_53 rfl (c_X7_isAdvice hMg (fun z53 => ?_) (fun z53 => ?_))
          · refine g_if_eq (tgt := 64) (q := 59) dX7_change_56 (by decide) rfl (fun c56 => absurd c56 (by decide)) (fun _ => ?_)
            refine g_iload (q := 61) dX7_change_59 rfl rfl ?_
            refine g_if_ne (tgt := 67) (q := 64) dX7_change_61 (by decide) rfl (fun _ => ?_) (fun c61 => absurd c61 (by decide))
            have y53 := z53
            obtain ⟨a, ha, rfl⟩ := in1_nat (by omega) z53
            have yw := z38
            obtain ⟨x, hx, rfl⟩ := inR_nat (by decide) ⟨Int32.le_trans (by decide) z38.1, z38.2⟩
            refine g_aload_n (q := 68) dX7_change_67 rfl rfl ?_
            refine g_bipush (q := 70) (v := nI 62) dX7_change_68 rfl (by decide) ?_
            refine g_bipush (q := 72) (v := nI 6) dX7_change_70 rfl (by decide) ?_
            refine g_iload_n (q := 73) dX7_change_72 rfl rfl ?_
            refine g_imul (q := 74) dX7_change_73 rfl ?_
            refine g_iadd (q := 75) dX7_change_74 rfl ?_
            refine g_iload_n (q := 76) dX7_change_75 rfl rfl ?_
            refine g_if_ne (tgt := 83) (q := 79) dX7_change_76 (by decide) rfl (fun _ => ?_) (fun c76 => absurd c76 c1)
            refine g_iload_n (q := 84) dX7_change_83 rfl rfl ?_
            refine g_iconst (q := 85) (v := nI 1) dX7_change_84 rfl (by decide) ?_
            refine g_icmp_ne (tgt := 92) (q := 88) dX7_change_85 (by decide) rfl (fun _ => ?_) (fun c85 => absurd c85 c16)
            refine g_iconst (q := 93) (v := nI 5) dX7_change_92 rfl (by decide) ?_
            refine g_iadd (q := 94) dX7_change_93 rfl ?_
            rw [show nI 62 + nI 6 * nI a + nI 5 = nI (62 + 6 * a + 5) from nI_a (nI_a rfl (nI_m rfl rfl)) rfl]
            refine g_iload_n (q := 95) dX7_change_94 rfl rfl ?_
            refine k_X7_235 (q := 98) rfl (Nat.le_of_ble_eq_true rfl) (by first | assumption | rfl) dX7_change_95 rfl (c_X7_becomes hr (by omega) (fun J hJa hJe hJf hJw => ?_))
            refine g_iret rfl dX7_change_98 (Nat.le_refl _) (Nat.le_refl _) ?_
            rw [changeS, if_pos y53, if_neg (fun z => c1 z.1), if_neg (fun z => c16 z.1), if_pos ⟨c31, yw⟩, nI_clamp (by omega), nI_clamp (by omega)] at h
            rw [hMg.f4 ha]
            exact h J (RepM.act hr ⟨MRep_setFa (f := 4) hMg hVg (by decide) hJw, VOk_setFa hVg ⟨fun z => absurd z (by decide), fun z => absurd z (by decide), fun z => absurd z (by decide), fun z => absurd z (by decide), fun _ => by omega, fun z => absurd z (by decide)⟩⟩ hJa hJe hJf) (fun p hp => hJe p (by omega) (by omega) (by omega))
          · refine g_if_eq (tgt := 64) (q := 59) dX7_change_56 (by decide) rfl (fun _ => ?_) (fun c56 => absurd c56 (by decide))
            refine lc_X7_70 (q := 66) rfl dX7_change_64 rfl ?_
            refine g_iret rfl dX7_change_66 (Nat.le_refl _) (Nat.le_refl _) ?_
            rw [changeS, if_neg z53] at h
            exact h I hr FrM.rf
        · refine g_if_eq (tgt := 48) (q := 44) dX7_change_41 (by decide) rfl (fun _ => ?_) (fun c41 => absurd c41 (by decide))
          refine g_iconst (q := 49) (v := nI 0) dX7_change_48 rfl (by decide) ?_
          refine g_istore (q := 51) dX7_change_49 rfl (by decide) rfl rfl ?_
          refine g_aload_n (q := 52) dX7_change_51 rfl rfl ?_
          refine g_iload_n (q := 53) dX7_change_52 rfl rfl ?_
          refine k_X7_232 (q := 56) rfl (Nat.le_of_ble_eq_true rfl) (by first | assumption | rfl) dX7_change_53 rfl (c_X7_isAdvice hMg (fun z53 => ?_) (fun z53 => ?_))
          · refine g_if_eq (tgt := 64) (q := 59) dX7_change_56 (by decide) rfl (fun c56 => absurd c56 (by decide)) (fun _ => ?_)
            refine g_iload (q := 61) dX7_change_59 rfl rfl ?_
            refine g_if_ne (tgt := 67) (q := 64) dX7_change_61 (by decide) rfl (fun c61 => absurd c61 (by decide)) (fun _ => ?_)
            refine lc_X7_70 (q := 66) rfl dX7_change_64 rfl ?_
            refine g_iret rfl dX7_change_66 (Nat.le_refl _) (Nat.le_refl _) ?_
            rw [changeS, if_pos z53, if_neg (fun z => c1 z.1), if_neg (fun z => c16 z.1), if_neg (fun z => z38 z.2)] at h
            exact h I hr FrM.rf
          · refine g_if_eq (tgt := 64) (q := 59) dX7_change_56 (by decide) rfl (fun _ => ?_) (fun c56 => absurd c56 (by decide))
            refine lc_X7_70 (q := 66) rfl dX7_change_64 rfl ?_
            refine g_iret rfl dX7_change_66 (Nat.le_refl _) (Nat.le_refl _) ?_
            rw [changeS, if_neg z53] at h
            exact h I hr FrM.rf
    · refine g_iload_n (q := 20) dX7_change_19 rfl rfl ?_
      refine g_iconst (q := 21) (v := nI 0) dX7_change_20 rfl (by decide) ?_
      refine g_bipush (q := 23) (v := nI 10) dX7_change_21 rfl (by decide) ?_
      refine k_X7_62 (q := 26) rfl (Nat.le_of_ble_eq_true rfl) dX7_change_23 rfl (c_X7_in (fun z231 z232 => ?_) (fun z23 => ?_))
      · have z23 := And.intro z231 z232
        refine g_goto (q := 49) dX7_change_26 (by decide) ?_
        refine g_istore (q := 51) dX7_change_49 rfl (by decide) rfl rfl ?_
        refine g_aload_n (q := 52) dX7_change_51 rfl rfl ?_
        refine g_iload_n (q := 53) dX7_change_52 rfl rfl ?_
        refine k_X7_232 (q := 56) rfl (Nat.le_of_ble_eq_true rfl) (by first | assumption | rfl) dX7_change_53 rfl (c_X7_isAdvice hMg (fun z53 => ?_) (fun z53 => ?_))
        · refine g_if_eq (tgt := 64) (q := 59) dX7_change_56 (by decide) rfl (fun c56 => absurd c56 (by decide)) (fun _ => ?_)
          refine g_iload (q := 61) dX7_change_59 rfl rfl ?_
          refine g_if_ne (tgt := 67) (q := 64) dX7_change_61 (by decide) rfl (fun _ => ?_) (fun c61 => absurd c61 (by decide))
          have y53 := z53
          obtain ⟨a, ha, rfl⟩ := in1_nat (by omega) z53
          have yw := z23
          obtain ⟨x, hx, rfl⟩ := inR_nat (by decide) ⟨Int32.le_trans (by decide) z23.1, z23.2⟩
          refine g_aload_n (q := 68) dX7_change_67 rfl rfl ?_
          refine g_bipush (q := 70) (v := nI 62) dX7_change_68 rfl (by decide) ?_
          refine g_bipush (q := 72) (v := nI 6) dX7_change_70 rfl (by decide) ?_
          refine g_iload_n (q := 73) dX7_change_72 rfl rfl ?_
          refine g_imul (q := 74) dX7_change_73 rfl ?_
          refine g_iadd (q := 75) dX7_change_74 rfl ?_
          refine g_iload_n (q := 76) dX7_change_75 rfl rfl ?_
          refine g_if_ne (tgt := 83) (q := 79) dX7_change_76 (by decide) rfl (fun _ => ?_) (fun c76 => absurd c76 c1)
          refine g_iload_n (q := 84) dX7_change_83 rfl rfl ?_
          refine g_iconst (q := 85) (v := nI 1) dX7_change_84 rfl (by decide) ?_
          refine g_icmp_ne (tgt := 92) (q := 88) dX7_change_85 (by decide) rfl (fun c85 => absurd c16 c85) (fun _ => ?_)
          refine g_iconst (q := 89) (v := nI 4) dX7_change_88 rfl (by decide) ?_
          refine g_goto (q := 93) dX7_change_89 (by decide) ?_
          refine g_iadd (q := 94) dX7_change_93 rfl ?_
          rw [show nI 62 + nI 6 * nI a + nI 4 = nI (62 + 6 * a + 4) from nI_a (nI_a rfl (nI_m rfl rfl)) rfl]
          refine g_iload_n (q := 95) dX7_change_94 rfl rfl ?_
          refine k_X7_235 (q := 98) rfl (Nat.le_of_ble_eq_true rfl) (by first | assumption | rfl) dX7_change_95 rfl (c_X7_becomes hr (by omega) (fun J hJa hJe hJf hJw => ?_))
          refine g_iret rfl dX7_change_98 (Nat.le_refl _) (Nat.le_refl _) ?_
          rw [changeS, if_pos y53, if_neg (fun z => c1 z.1), if_pos ⟨c16, yw⟩, nI_clamp (by omega), nI_clamp (by omega)] at h
          rw [hMg.f3 ha]
          exact h J (RepM.act hr ⟨MRep_setFa (f := 3) hMg hVg (by decide) hJw, VOk_setFa hVg ⟨fun z => absurd z (by decide), fun z => absurd z (by decide), fun z => absurd z (by decide), fun _ => by omega, fun z => absurd z (by decide), fun z => absurd z (by decide)⟩⟩ hJa hJe hJf) (fun p hp => hJe p (by omega) (by omega) (by omega))
        · refine g_if_eq (tgt := 64) (q := 59) dX7_change_56 (by decide) rfl (fun _ => ?_) (fun c56 => absurd c56 (by decide))
          refine lc_X7_70 (q := 66) rfl dX7_change_64 rfl ?_
          refine g_iret rfl dX7_change_66 (Nat.le_refl _) (Nat.le_refl _) ?_
          rw [changeS, if_neg z53] at h
          exact h I hr FrM.rf
      · refine g_goto (q := 49) dX7_change_26 (by decide) ?_
        refine g_istore (q := 51) dX7_change_49 rfl (by decide) rfl rfl ?_
        refine g_aload_n (q := 52) dX7_change_51 rfl rfl ?_
        refine g_iload_n (q := 53) dX7_change_52 rfl rfl ?_
        refine k_X7_232 (q := 56) rfl (Nat.le_of_ble_eq_true rfl) (by first | assumption | rfl) dX7_change_53 rfl (c_X7_isAdvice hMg (fun z53 => ?_) (fun z53 => ?_))
        · refine g_if_eq (tgt := 64) (q := 59) dX7_change_56 (by decide) rfl (fun c56 => absurd c56 (by decide)) (fun _ => ?_)
          refine g_iload (q := 61) dX7_change_59 rfl rfl ?_
          refine g_if_ne (tgt := 67) (q := 64) dX7_change_61 (by decide) rfl (fun c61 => absurd c61 (by decide)) (fun _ => ?_)
          refine lc_X7_70 (q := 66) rfl dX7_change_64 rfl ?_
          refine g_iret rfl dX7_change_66 (Nat.le_refl _) (Nat.le_refl _) ?_
          rw [changeS, if_pos z53, if_neg (fun z => c1 z.1), if_neg (fun z => z23 z.2), if_neg (fun z => absurd (c16.symm.trans z.1) (by decide))] at h
          exact h I hr FrM.rf
        · refine g_if_eq (tgt := 64) (q := 59) dX7_change_56 (by decide) rfl (fun _ => ?_) (fun c56 => absurd c56 (by decide))
          refine lc_X7_70 (q := 66) rfl dX7_change_64 rfl ?_
          refine g_iret rfl dX7_change_66 (Nat.le_refl _) (Nat.le_refl _) ?_
          rw [changeS, if_neg z53] at h
          exact h I hr FrM.rf
  · refine g_iload_n (q := 5) dX7_change_4 rfl rfl ?_
    refine g_iconst (q := 6) (v := nI 1) dX7_change_5 rfl (by decide) ?_
    refine g_bipush (q := 8) (v := nI 99) dX7_change_6 rfl (by decide) ?_
    refine k_X7_62 (q := 11) rfl (Nat.le_of_ble_eq_true rfl) dX7_change_8 rfl (c_X7_in (fun z81 z82 => ?_) (fun z8 => ?_))
    · have z8 := And.intro z81 z82
      refine g_goto (q := 49) dX7_change_11 (by decide) ?_
      refine g_istore (q := 51) dX7_change_49 rfl (by decide) rfl rfl ?_
      refine g_aload_n (q := 52) dX7_change_51 rfl rfl ?_
      refine g_iload_n (q := 53) dX7_change_52 rfl rfl ?_
      refine k_X7_232 (q := 56) rfl (Nat.le_of_ble_eq_true rfl) (by first | assumption | rfl) dX7_change_53 rfl (c_X7_isAdvice hMg (fun z53 => ?_) (fun z53 => ?_))
      · refine g_if_eq (tgt := 64) (q := 59) dX7_change_56 (by decide) rfl (fun c56 => absurd c56 (by decide)) (fun _ => ?_)
        refine g_iload (q := 61) dX7_change_59 rfl rfl ?_
        refine g_if_ne (tgt := 67) (q := 64) dX7_change_61 (by decide) rfl (fun _ => ?_) (fun c61 => absurd c61 (by decide))
        have y53 := z53
        obtain ⟨a, ha, rfl⟩ := in1_nat (by omega) z53
        have yw := z8
        obtain ⟨x, hx, rfl⟩ := inR_nat (by decide) ⟨Int32.le_trans (by decide) z8.1, z8.2⟩
        have hx1 : 1 ≤ x := (nI_leI (by omega) (by omega)).mp yw.1
        refine g_aload_n (q := 68) dX7_change_67 rfl rfl ?_
        refine g_bipush (q := 70) (v := nI 62) dX7_change_68 rfl (by decide) ?_
        refine g_bipush (q := 72) (v := nI 6) dX7_change_70 rfl (by decide) ?_
        refine g_iload_n (q := 73) dX7_change_72 rfl rfl ?_
        refine g_imul (q := 74) dX7_change_73 rfl ?_
        refine g_iadd (q := 75) dX7_change_74 rfl ?_
        refine g_iload_n (q := 76) dX7_change_75 rfl rfl ?_
        refine g_if_ne (tgt := 83) (q := 79) dX7_change_76 (by decide) rfl (fun c76 => absurd c1 c76) (fun _ => ?_)
        refine g_iconst (q := 80) (v := nI 1) dX7_change_79 rfl (by decide) ?_
        refine g_goto (q := 93) dX7_change_80 (by decide) ?_
        refine g_iadd (q := 94) dX7_change_93 rfl ?_
        rw [show nI 62 + nI 6 * nI a + nI 1 = nI (62 + 6 * a + 1) from nI_a (nI_a rfl (nI_m rfl rfl)) rfl]
        refine g_iload_n (q := 95) dX7_change_94 rfl rfl ?_
        refine k_X7_235 (q := 98) rfl (Nat.le_of_ble_eq_true rfl) (by first | assumption | rfl) dX7_change_95 rfl (c_X7_becomes hr (by omega) (fun J hJa hJe hJf hJw => ?_))
        refine g_iret rfl dX7_change_98 (Nat.le_refl _) (Nat.le_refl _) ?_
        rw [changeS, if_pos y53, if_pos ⟨c1, yw⟩, nI_clamp (by omega), nI_clamp (by omega)] at h
        rw [hMg.f0 ha]
        exact h J (RepM.act hr ⟨MRep_setFa (f := 0) hMg hVg (by decide) hJw, VOk_setFa hVg ⟨fun _ => by omega, fun z => absurd z (by decide), fun z => absurd z (by decide), fun z => absurd z (by decide), fun z => absurd z (by decide), fun z => absurd z (by decide)⟩⟩ hJa hJe hJf) (fun p hp => hJe p (by omega) (by omega) (by omega))
      · refine g_if_eq (tgt := 64) (q := 59) dX7_change_56 (by decide) rfl (fun _ => ?_) (fun c56 => absurd c56 (by decide))
        refine lc_X7_70 (q := 66) rfl dX7_change_64 rfl ?_
        refine g_iret rfl dX7_change_66 (Nat.le_refl _) (Nat.le_refl _) ?_
        rw [changeS, if_neg z53] at h
        exact h I hr FrM.rf
    · refine g_goto (q := 49) dX7_change_11 (by decide) ?_
      refine g_istore (q := 51) dX7_change_49 rfl (by decide) rfl rfl ?_
      refine g_aload_n (q := 52) dX7_change_51 rfl rfl ?_
      refine g_iload_n (q := 53) dX7_change_52 rfl rfl ?_
      refine k_X7_232 (q := 56) rfl (Nat.le_of_ble_eq_true rfl) (by first | assumption | rfl) dX7_change_53 rfl (c_X7_isAdvice hMg (fun z53 => ?_) (fun z53 => ?_))
      · refine g_if_eq (tgt := 64) (q := 59) dX7_change_56 (by decide) rfl (fun c56 => absurd c56 (by decide)) (fun _ => ?_)
        refine g_iload (q := 61) dX7_change_59 rfl rfl ?_
        refine g_if_ne (tgt := 67) (q := 64) dX7_change_61 (by decide) rfl (fun c61 => absurd c61 (by decide)) (fun _ => ?_)
        refine lc_X7_70 (q := 66) rfl dX7_change_64 rfl ?_
        refine g_iret rfl dX7_change_66 (Nat.le_refl _) (Nat.le_refl _) ?_
        rw [changeS, if_pos z53, if_neg (fun z => z8 z.2), if_neg (fun z => absurd (c1.symm.trans z.1) (by decide)), if_neg (fun z => absurd (c1.symm.trans z.1) (by decide))] at h
        exact h I hr FrM.rf
      · refine g_if_eq (tgt := 64) (q := 59) dX7_change_56 (by decide) rfl (fun _ => ?_) (fun c56 => absurd c56 (by decide))
        refine lc_X7_70 (q := 66) rfl dX7_change_64 rfl ?_
        refine g_iret rfl dX7_change_66 (Nat.le_refl _) (Nat.le_refl _) ?_
        rw [changeS, if_neg z53] at h
        exact h I hr FrM.rf
set_option maxRecDepth 100000 in
set_option maxHeartbeats 400000 in
theorem c_X7_become {d k : Nat} {I : Nat → Nat → Int32} {Q : Option Int32 → Wd → Prop} {S : Sg} {a x : Int32} (hr : RepM I S) (h : ∀ I2, RepM I2 (becomeS S a x).2 → FrM I I2 → Q (some (becomeS S a x).1) (I2, RR k)) : Ex (d + 3) 0 0 mX7_become [.ref 52, .int a, .int x] 68 (I, RR k) 68 Q := by
  have hVg : VOk (gv S) := hr.2.2.2.2.1.2
  have hMg : MRep I 58 0 (gv S) := hr.2.2.2.2.1.1
  obtain ⟨v1, v2, v3, v4⟩ := id hVg

  refine ex_intro (L0 := [.ref 52, .int a, .int x]) (by decide +kernel) rfl rfl (Nat.le_of_ble_eq_true rfl) rfl ?_
  refine g_aload_n (q := 1) dX7_become_0 rfl rfl ?_
  refine g_iload_n (q := 2) dX7_become_1 rfl rfl ?_
  refine k_X7_232 (q := 5) rfl (Nat.le_of_ble_eq_true rfl) (by first | assumption | rfl) dX7_become_2 rfl (c_X7_isAdvice hMg (fun z2 => ?_) (fun z2 => ?_))
  · refine g_if_eq (tgt := 17) (q := 8) dX7_become_5 (by decide) rfl (fun c5 => absurd c5 (by decide)) (fun _ => ?_)
    refine g_iload_n (q := 9) dX7_become_8 rfl rfl ?_
    refine g_iconst (q := 10) (v := nI 1) dX7_become_9 rfl (by decide) ?_
    refine g_iconst (q := 11) (v := nI 5) dX7_become_10 rfl (by decide) ?_
    refine k_X7_62 (q := 14) rfl (Nat.le_of_ble_eq_true rfl) dX7_become_11 rfl (c_X7_in (fun z111 z112 => ?_) (fun z11 => ?_))
    · have z11 := And.intro z111 z112
      refine g_if_ne (tgt := 20) (q := 17) dX7_become_14 (by decide) rfl (fun _ => ?_) (fun c14 => absurd c14 (by decide))
      have y2 := z2
      obtain ⟨a, ha, rfl⟩ := in1_nat (by omega) z2
      have y11 := z11
      obtain ⟨x, hx, rfl⟩ := inR_nat (by decide) ⟨Int32.le_trans (by decide) z11.1, z11.2⟩
      have hx1 : 1 ≤ x := (nI_leI (by omega) (by omega)).mp y11.1
      refine g_aload_n (q := 21) dX7_become_20 rfl rfl ?_
      refine gf_X7_25 (q := 24) rfl (by first | assumption | rfl) (by first | assumption | rfl) dX7_become_21 rfl ?_
      refine g_bipush (q := 26) (v := nI 62) dX7_become_24 rfl (by decide) ?_
      refine g_bipush (q := 28) (v := nI 6) dX7_become_26 rfl (by decide) ?_
      refine g_iload_n (q := 29) dX7_become_28 rfl rfl ?_
      refine g_imul (q := 30) dX7_become_29 rfl ?_
      refine g_iadd (q := 31) dX7_become_30 rfl ?_
      refine g_ialdn (q := 32) (by first | assumption | rfl) (by repeat' first | apply nI_a | apply nI_m | exact rfl) (by omega) dX7_become_31 rfl ?_
      rw [hMg.kd ha]
      refine g_iload_n (q := 33) dX7_become_32 rfl rfl ?_
      refine g_icmp_ne (tgt := 41) (q := 36) dX7_become_33 (by decide) rfl (fun c33 => ?_) (fun c33 => ?_)
      · refine g_aload_n (q := 42) dX7_become_41 rfl rfl ?_
        refine g_bipush (q := 44) (v := nI 62) dX7_become_42 rfl (by decide) ?_
        refine g_bipush (q := 46) (v := nI 6) dX7_become_44 rfl (by decide) ?_
        refine g_iload_n (q := 47) dX7_become_46 rfl rfl ?_
        refine g_imul (q := 48) dX7_become_47 rfl ?_
        refine g_iadd (q := 49) dX7_become_48 rfl ?_
        rw [show nI 62 + nI 6 * nI a = nI (62 + 6 * a) from nI_a rfl (nI_m rfl rfl)]
        refine g_iload_n (q := 50) dX7_become_49 rfl rfl ?_
        refine k_X7_235 (q := 53) rfl (Nat.le_of_ble_eq_true rfl) (by first | assumption | rfl) dX7_become_50 rfl (c_X7_becomes hr (by omega) (fun J hJa hJe hJf hJw => ?_))
        refine g_iret rfl dX7_become_53 (Nat.le_refl _) (Nat.le_refl _) ?_
        rw [becomeS, if_pos y2, if_pos y11, nI_clamp (by omega), if_neg c33, nI_clamp (by omega)] at h
        rw [hMg.kd ha]
        exact h J (RepM.act hr ⟨MRep_setFa (f := 5) hMg hVg (by decide) hJw, VOk_setFa hVg ⟨fun z => absurd z (by decide), fun z => absurd z (by decide), fun z => absurd z (by decide), fun z => absurd z (by decide), fun z => absurd z (by decide), fun _ => by omega⟩⟩ hJa hJe hJf) (fun p hp => hJe p (by omega) (by omega) (by omega))
      · refine lc_X7_238 (q := 38) rfl dX7_become_36 rfl ?_
        refine g_goto (q := 53) dX7_become_38 (by decide) ?_
        refine g_iret rfl dX7_become_53 (Nat.le_refl _) (Nat.le_refl _) ?_
        rw [becomeS, if_pos y2, if_pos y11, nI_clamp (by omega), if_pos c33] at h
        exact h I hr FrM.rf
    · refine g_if_ne (tgt := 20) (q := 17) dX7_become_14 (by decide) rfl (fun c14 => absurd c14 (by decide)) (fun _ => ?_)
      refine lc_X7_70 (q := 19) rfl dX7_become_17 rfl ?_
      refine g_iret rfl dX7_become_19 (Nat.le_refl _) (Nat.le_refl _) ?_
      rw [becomeS, if_pos z2, if_neg z11] at h
      exact h I hr FrM.rf
  · refine g_if_eq (tgt := 17) (q := 8) dX7_become_5 (by decide) rfl (fun _ => ?_) (fun c5 => absurd c5 (by decide))
    refine lc_X7_70 (q := 19) rfl dX7_become_17 rfl ?_
    refine g_iret rfl dX7_become_19 (Nat.le_refl _) (Nat.le_refl _) ?_
    rw [becomeS, if_neg z2] at h
    exact h I hr FrM.rf
theorem subI : ∀ a, a < 5 → ∀ b, b < 5 → ¬ nI b ≤ nI a → nI b - nI a + nI 1 = nI ((if a < b then b - a else a - b) + 1) := by decide +kernel
theorem subI2 : ∀ a, a < 5 → ∀ b, b < 5 → nI b ≤ nI a → nI a - nI b + nI 1 = nI ((if a < b then b - a else a - b) + 1) := by decide +kernel
set_option maxRecDepth 100000 in
set_option maxHeartbeats 400000 in
theorem c_X7_swap {d k : Nat} {I : Nat → Nat → Int32} {Q : Option Int32 → Wd → Prop} {S : Sg} {a b : Int32} (hr : RepM I S) (h : ∀ I2, RepM I2 (swapS S a b).2 → FrM I I2 → Q (some (swapS S a b).1) (I2, RR k)) : Ex (d + 3) 0 0 mX7_swap [.ref 52, .int a, .int b] 68 (I, RR k) 68 Q := by
  have hVg : VOk (gv S) := hr.2.2.2.2.1.2
  have hMg : MRep I 58 0 (gv S) := hr.2.2.2.2.1.1
  obtain ⟨v1, v2, v3, v4⟩ := id hVg

  refine ex_intro (L0 := [.ref 52, .int a, .int b]) (by decide +kernel) rfl rfl (Nat.le_of_ble_eq_true rfl) rfl ?_
  refine g_aload_n (q := 1) dX7_swap_0 rfl rfl ?_
  refine g_iload_n (q := 2) dX7_swap_1 rfl rfl ?_
  refine k_X7_232 (q := 5) rfl (Nat.le_of_ble_eq_true rfl) (by first | assumption | rfl) dX7_swap_2 rfl (c_X7_isAdvice hMg (fun z2 => ?_) (fun z2 => ?_))
  · refine g_if_eq (tgt := 16) (q := 8) dX7_swap_5 (by decide) rfl (fun c5 => absurd c5 (by decide)) (fun _ => ?_)
    refine g_aload_n (q := 9) dX7_swap_8 rfl rfl ?_
    refine g_iload_n (q := 10) dX7_swap_9 rfl rfl ?_
    refine k_X7_232 (q := 13) rfl (Nat.le_of_ble_eq_true rfl) (by first | assumption | rfl) dX7_swap_10 rfl (c_X7_isAdvice hMg (fun z10 => ?_) (fun z10 => ?_))
    · refine g_if_ne (tgt := 19) (q := 16) dX7_swap_13 (by decide) rfl (fun _ => ?_) (fun c13 => absurd c13 (by decide))
      have y2 := z2
      obtain ⟨a, ha, rfl⟩ := in1_nat (by omega) z2
      have y10 := z10
      obtain ⟨b, hb, rfl⟩ := in1_nat (by omega) z10
      refine g_iload_n (q := 20) dX7_swap_19 rfl rfl ?_
      refine g_iload_n (q := 21) dX7_swap_20 rfl rfl ?_
      refine g_icmp_ne (tgt := 27) (q := 24) dX7_swap_21 (by decide) rfl (fun c21 => ?_) (fun c21 => ?_)
      · refine g_aload_n (q := 28) dX7_swap_27 rfl rfl ?_
        refine k_X7_229 (q := 31) rfl (Nat.le_of_ble_eq_true rfl) (by first | assumption | rfl) dX7_swap_28 rfl (c_X7_notes hr (fun J hJa hJe hJf => ?_))
        refine g_aload_n (q := 32) dX7_swap_31 rfl rfl ?_
        refine gf_X7_25 (q := 35) rfl (by first | assumption | rfl) (by first | assumption | rfl) dX7_swap_32 rfl ?_
        refine g_iload_n (q := 36) dX7_swap_35 rfl rfl ?_
        refine g_iload_n (q := 37) dX7_swap_36 rfl rfl ?_
        refine k_X7_239 (q := 40) rfl (Nat.le_of_ble_eq_true rfl) dX7_swap_37 rfl (c_swaps rfl (by omega) (by omega) ?_)
        refine g_iload_n (q := 41) dX7_swap_40 rfl rfl ?_
        refine g_iload_n (q := 42) dX7_swap_41 rfl rfl ?_
        refine g_icmp_ge (tgt := 51) (q := 45) dX7_swap_42 (by decide) rfl (fun c42 => ?_) (fun c42 => ?_)
        · refine g_iload_n (q := 52) dX7_swap_51 rfl rfl ?_
          refine g_iload_n (q := 53) dX7_swap_52 rfl rfl ?_
          refine g_isub (q := 54) dX7_swap_53 rfl ?_
          refine g_iconst (q := 55) (v := nI 1) dX7_swap_54 rfl (by decide) ?_
          refine g_iadd (q := 56) dX7_swap_55 rfl ?_
          refine g_iret rfl dX7_swap_56 (Nat.le_refl _) (Nat.le_refl _) ?_
          rw [swapS, if_pos y2, if_pos y10, if_neg c21, nI_clamp (by omega), nI_clamp (by omega)] at h
          rw [subI2 a (by omega) b (by omega) c42]
          refine h _ (RepM.act hr ⟨MRep_exV (I := J) (hMg.eq (hJe 58 (by decide) (by decide))) hVg ha hb rfl, VOk_exV hVg ha hb⟩ (hJa.eq (by rw [swP_ne (by decide)]) (swP_ne (by decide))) (fun p h1 h2 h3 => ?_) (fun j hj => ?_)) (fun p hp => ?_)
          · rw [swP_ne h2, hJe p h1 h3]
          · rw [swP_ne (by decide), hJf j hj]
          · rw [swP_ne (by omega), hJe p (by omega) (by omega)]
        · refine g_iload_n (q := 46) dX7_swap_45 rfl rfl ?_
          refine g_iload_n (q := 47) dX7_swap_46 rfl rfl ?_
          refine g_isub (q := 48) dX7_swap_47 rfl ?_
          refine g_goto (q := 54) dX7_swap_48 (by decide) ?_
          refine g_iconst (q := 55) (v := nI 1) dX7_swap_54 rfl (by decide) ?_
          refine g_iadd (q := 56) dX7_swap_55 rfl ?_
          refine g_iret rfl dX7_swap_56 (Nat.le_refl _) (Nat.le_refl _) ?_
          rw [swapS, if_pos y2, if_pos y10, if_neg c21, nI_clamp (by omega), nI_clamp (by omega)] at h
          rw [subI a (by omega) b (by omega) c42]
          refine h _ (RepM.act hr ⟨MRep_exV (I := J) (hMg.eq (hJe 58 (by decide) (by decide))) hVg ha hb rfl, VOk_exV hVg ha hb⟩ (hJa.eq (by rw [swP_ne (by decide)]) (swP_ne (by decide))) (fun p h1 h2 h3 => ?_) (fun j hj => ?_)) (fun p hp => ?_)
          · rw [swP_ne h2, hJe p h1 h3]
          · rw [swP_ne (by decide), hJf j hj]
          · rw [swP_ne (by omega), hJe p (by omega) (by omega)]
      · refine lc_X7_238 (q := 26) rfl dX7_swap_24 rfl ?_
        refine g_iret rfl dX7_swap_26 (Nat.le_refl _) (Nat.le_refl _) ?_
        rw [swapS, if_pos y2, if_pos y10, if_pos c21] at h
        exact h I hr FrM.rf
    · refine g_if_ne (tgt := 19) (q := 16) dX7_swap_13 (by decide) rfl (fun c13 => absurd c13 (by decide)) (fun _ => ?_)
      refine lc_X7_70 (q := 18) rfl dX7_swap_16 rfl ?_
      refine g_iret rfl dX7_swap_18 (Nat.le_refl _) (Nat.le_refl _) ?_
      rw [swapS, if_pos z2, if_neg z10] at h
      exact h I hr FrM.rf
  · refine g_if_eq (tgt := 16) (q := 8) dX7_swap_5 (by decide) rfl (fun _ => ?_) (fun c5 => absurd c5 (by decide))
    refine lc_X7_70 (q := 18) rfl dX7_swap_16 rfl ?_
    refine g_iret rfl dX7_swap_18 (Nat.le_refl _) (Nat.le_refl _) ?_
    rw [swapS, if_neg z2] at h
    exact h I hr FrM.rf
set_option maxRecDepth 100000 in
set_option maxHeartbeats 400000 in
theorem c_X7_belong {d k : Nat} {I : Nat → Nat → Int32} {Q : Option Int32 → Wd → Prop} {S : Sg} {m c : Int32} (hr : RepM I S) (h : ∀ I2, RepM I2 (belongS S m c).2 → FrM I I2 → Q (some (belongS S m c).1) (I2, RR k)) : Ex (d + 3) 0 0 mX7_belong [.ref 52, .int m, .int c] 68 (I, RR k) 68 Q := by
  have hVg : VOk (gv S) := hr.2.2.2.2.1.2
  have hMg : MRep I 58 0 (gv S) := hr.2.2.2.2.1.1
  obtain ⟨v1, v2, v3, v4⟩ := id hVg

  refine ex_intro (L0 := [.ref 52, .int m, .int c]) (by decide +kernel) rfl rfl (Nat.le_of_ble_eq_true rfl) rfl ?_
  refine g_aload_n (q := 1) dX7_belong_0 rfl rfl ?_
  refine g_iload_n (q := 2) dX7_belong_1 rfl rfl ?_
  refine k_X7_242 (q := 5) rfl (Nat.le_of_ble_eq_true rfl) (by first | assumption | rfl) dX7_belong_2 rfl (c_X7_isMethod hMg (fun z2 => ?_) (fun z2 => ?_))
  · refine g_if_eq (tgt := 17) (q := 8) dX7_belong_5 (by decide) rfl (fun c5 => absurd c5 (by decide)) (fun _ => ?_)
    refine g_iload_n (q := 9) dX7_belong_8 rfl rfl ?_
    refine g_iconst (q := 10) (v := nI 0) dX7_belong_9 rfl (by decide) ?_
    refine g_iconst (q := 11) (v := nI 3) dX7_belong_10 rfl (by decide) ?_
    refine k_X7_62 (q := 14) rfl (Nat.le_of_ble_eq_true rfl) dX7_belong_11 rfl (c_X7_in (fun z111 z112 => ?_) (fun z11 => ?_))
    · have z11 := And.intro z111 z112
      refine g_if_ne (tgt := 20) (q := 17) dX7_belong_14 (by decide) rfl (fun _ => ?_) (fun c14 => absurd c14 (by decide))
      have y2 := z2
      obtain ⟨m, hm, rfl⟩ := in1_nat (by omega) z2
      have y11 := z11
      obtain ⟨c, hc, rfl⟩ := inR_nat (by decide) z11
      refine g_aload_n (q := 21) dX7_belong_20 rfl rfl ?_
      refine gf_X7_25 (q := 24) rfl (by first | assumption | rfl) (by first | assumption | rfl) dX7_belong_21 rfl ?_
      refine g_iconst (q := 25) (v := nI 2) dX7_belong_24 rfl (by decide) ?_
      refine g_bipush (q := 27) (v := nI 10) dX7_belong_25 rfl (by decide) ?_
      refine g_iload_n (q := 28) dX7_belong_27 rfl rfl ?_
      refine g_imul (q := 29) dX7_belong_28 rfl ?_
      refine g_iadd (q := 30) dX7_belong_29 rfl ?_
      refine g_ialdn (q := 31) (by first | assumption | rfl) (by repeat' first | apply nI_a | apply nI_m | exact rfl) (by omega) dX7_belong_30 rfl ?_
      rw [hMg.cl hm]
      refine g_iload_n (q := 32) dX7_belong_31 rfl rfl ?_
      refine g_icmp_ne (tgt := 40) (q := 35) dX7_belong_32 (by decide) rfl (fun c32 => ?_) (fun c32 => ?_)
      · refine g_aload_n (q := 41) dX7_belong_40 rfl rfl ?_
        refine g_iconst (q := 42) (v := nI 2) dX7_belong_41 rfl (by decide) ?_
        refine g_bipush (q := 44) (v := nI 10) dX7_belong_42 rfl (by decide) ?_
        refine g_iload_n (q := 45) dX7_belong_44 rfl rfl ?_
        refine g_imul (q := 46) dX7_belong_45 rfl ?_
        refine g_iadd (q := 47) dX7_belong_46 rfl ?_
        rw [show nI 2 + nI 10 * nI m = nI (2 + 10 * m) from nI_a rfl (nI_m rfl rfl)]
        refine g_iload_n (q := 48) dX7_belong_47 rfl rfl ?_
        refine k_X7_235 (q := 51) rfl (Nat.le_of_ble_eq_true rfl) (by first | assumption | rfl) dX7_belong_48 rfl (c_X7_becomes hr (by omega) (fun J hJa hJe hJf hJw => ?_))
        refine g_iret rfl dX7_belong_51 (Nat.le_refl _) (Nat.le_refl _) ?_
        rw [belongS, if_pos y2, if_pos y11, nI_clamp (by omega), if_neg c32, nI_clamp (by omega)] at h
        rw [hMg.cl hm]
        exact h J (RepM.act hr ⟨MRep_setCl hMg hVg hm hJw, VOk_setCl hVg (by omega)⟩ hJa hJe hJf) (fun p hp => hJe p (by omega) (by omega) (by omega))
      · refine lc_X7_238 (q := 37) rfl dX7_belong_35 rfl ?_
        refine g_goto (q := 51) dX7_belong_37 (by decide) ?_
        refine g_iret rfl dX7_belong_51 (Nat.le_refl _) (Nat.le_refl _) ?_
        rw [belongS, if_pos y2, if_pos y11, nI_clamp (by omega), if_pos c32] at h
        exact h I hr FrM.rf
    · refine g_if_ne (tgt := 20) (q := 17) dX7_belong_14 (by decide) rfl (fun c14 => absurd c14 (by decide)) (fun _ => ?_)
      refine lc_X7_70 (q := 19) rfl dX7_belong_17 rfl ?_
      refine g_iret rfl dX7_belong_19 (Nat.le_refl _) (Nat.le_refl _) ?_
      rw [belongS, if_pos z2, if_neg z11] at h
      exact h I hr FrM.rf
  · refine g_if_eq (tgt := 17) (q := 8) dX7_belong_5 (by decide) rfl (fun _ => ?_) (fun c5 => absurd c5 (by decide))
    refine lc_X7_70 (q := 19) rfl dX7_belong_17 rfl ?_
    refine g_iret rfl dX7_belong_19 (Nat.le_refl _) (Nat.le_refl _) ?_
    rw [belongS, if_neg z2] at h
    exact h I hr FrM.rf
set_option maxRecDepth 100000 in
set_option maxHeartbeats 400000 in
theorem c_X7_state {d k : Nat} {I : Nat → Nat → Int32} {Q : Option Int32 → Wd → Prop} {S : Sg} {m i s x : Int32} (hr : RepM I S) (h : ∀ I2, RepM I2 (stateS S m i s x).2 → FrM I I2 → Q (some (stateS S m i s x).1) (I2, RR k)) : Ex (d + 3) 0 0 mX7_state [.ref 52, .int m, .int i, .int s, .int x] 68 (I, RR k) 68 Q := by
  have hVg : VOk (gv S) := hr.2.2.2.2.1.2
  have hMg : MRep I 58 0 (gv S) := hr.2.2.2.2.1.1
  obtain ⟨v1, v2, v3, v4⟩ := id hVg

  refine ex_intro (L0 := [.ref 52, .int m, .int i, .int s, .int x, .null, .null, .null]) (by decide +kernel) rfl rfl (Nat.le_of_ble_eq_true rfl) rfl ?_
  refine g_aload_n (q := 1) dX7_state_0 rfl rfl ?_
  refine g_iload_n (q := 2) dX7_state_1 rfl rfl ?_
  refine k_X7_242 (q := 5) rfl (Nat.le_of_ble_eq_true rfl) (by first | assumption | rfl) dX7_state_2 rfl (c_X7_isMethod hMg (fun z2 => ?_) (fun z2 => ?_))
  · refine g_if_eq (tgt := 31) (q := 8) dX7_state_5 (by decide) rfl (fun c5 => absurd c5 (by decide)) (fun _ => ?_)
    have y2 := z2
    obtain ⟨m, hm, rfl⟩ := in1_nat (by omega) z2
    have hl4 := (v3 m hm).2.1
    refine g_iload_n (q := 9) dX7_state_8 rfl rfl ?_
    refine g_iconst (q := 10) (v := nI 0) dX7_state_9 rfl (by decide) ?_
    refine g_aload_n (q := 11) dX7_state_10 rfl rfl ?_
    refine gf_X7_25 (q := 14) rfl (by first | assumption | rfl) (by first | assumption | rfl) dX7_state_11 rfl ?_
    refine g_iconst (q := 15) (v := nI 2) dX7_state_14 rfl (by decide) ?_
    refine g_bipush (q := 17) (v := nI 10) dX7_state_15 rfl (by decide) ?_
    refine g_iload_n (q := 18) dX7_state_17 rfl rfl ?_
    refine g_imul (q := 19) dX7_state_18 rfl ?_
    refine g_iadd (q := 20) dX7_state_19 rfl ?_
    refine g_iconst (q := 21) (v := nI 1) dX7_state_20 rfl (by decide) ?_
    refine g_iadd (q := 22) dX7_state_21 rfl ?_
    refine g_ialdn (q := 23) (by first | assumption | rfl) (by repeat' first | apply nI_a | apply nI_m | exact rfl) (by omega) dX7_state_22 rfl ?_
    rw [hMg.ln hm]
    refine g_iconst (q := 24) (v := nI 1) dX7_state_23 rfl (by decide) ?_
    refine g_isub (q := 25) dX7_state_24 rfl ?_
    refine k_X7_62 (q := 28) rfl (Nat.le_of_ble_eq_true rfl) dX7_state_25 rfl (c_X7_in (fun z251 z252 => ?_) (fun z25 => ?_))
    · have z25 := And.intro z251 z252
      refine g_if_ne (tgt := 34) (q := 31) dX7_state_28 (by decide) rfl (fun _ => ?_) (fun c28 => absurd c28 (by decide))
      have y25 := z25
      obtain ⟨i, hi, rfl⟩ := in1_nat (by omega) z25
      refine g_iload_n (q := 35) dX7_state_34 rfl rfl ?_
      refine g_if_ne (tgt := 49) (q := 38) dX7_state_35 (by decide) rfl (fun c35 => ?_) (fun c35 => ?_)
      · refine g_iload_n (q := 50) dX7_state_49 rfl rfl ?_
        refine g_iconst (q := 51) (v := nI 1) dX7_state_50 rfl (by decide) ?_
        refine g_icmp_ne (tgt := 63) (q := 54) dX7_state_51 (by decide) rfl (fun c51 => ?_) (fun c51 => ?_)
        · refine g_iload_n (q := 64) dX7_state_63 rfl rfl ?_
          refine g_iconst (q := 65) (v := nI 2) dX7_state_64 rfl (by decide) ?_
          refine g_icmp_ne (tgt := 83) (q := 68) dX7_state_65 (by decide) rfl (fun c65 => ?_) (fun c65 => ?_)
          · refine g_iconst (q := 84) (v := nI 0) dX7_state_83 rfl (by decide) ?_
            refine g_istore (q := 86) dX7_state_84 rfl (by decide) rfl rfl ?_
            refine g_iload (q := 88) dX7_state_86 rfl rfl ?_
            refine g_if_ne (tgt := 94) (q := 91) dX7_state_88 (by decide) rfl (fun c88 => absurd c88 (by decide)) (fun _ => ?_)
            refine lc_X7_70 (q := 93) rfl dX7_state_91 rfl ?_
            refine g_iret rfl dX7_state_93 (Nat.le_refl _) (Nat.le_refl _) ?_
            rw [stateS, if_pos y2, nI_clamp (by omega), if_pos ((in1_iff (by have := (v3 m hm).2.1; omega)).mp y25), if_neg (fun z => z.elim (fun y => c35 y.1) (fun z => z.elim (fun y => c51 y.1) (fun y => c65 y.1)))] at h
            exact h I hr FrM.rf
          · refine g_iload (q := 70) dX7_state_68 rfl rfl ?_
            refine g_iconst (q := 71) (v := nI 1) dX7_state_70 rfl (by decide) ?_
            refine g_bipush (q := 73) (v := nI 9) dX7_state_71 rfl (by decide) ?_
            refine k_X7_62 (q := 76) rfl (Nat.le_of_ble_eq_true rfl) dX7_state_73 rfl (c_X7_in (fun z731 z732 => ?_) (fun z73 => ?_))
            · have z73 := And.intro z731 z732
              refine g_if_eq (tgt := 83) (q := 79) dX7_state_76 (by decide) rfl (fun c76 => absurd c76 (by decide)) (fun _ => ?_)
              refine g_iconst (q := 80) (v := nI 1) dX7_state_79 rfl (by decide) ?_
              refine g_goto (q := 84) dX7_state_80 (by decide) ?_
              refine g_istore (q := 86) dX7_state_84 rfl (by decide) rfl rfl ?_
              refine g_iload (q := 88) dX7_state_86 rfl rfl ?_
              refine g_if_ne (tgt := 94) (q := 91) dX7_state_88 (by decide) rfl (fun _ => ?_) (fun c88 => absurd c88 (by decide))
              have yst : isSt (gv S) s x := Or.inr (Or.inr ⟨c65, z73⟩)
              have yw := z73
              obtain ⟨x, hx, rfl⟩ := inR_nat (by decide) ⟨Int32.le_trans (by decide) z73.1, z73.2⟩
              have hx1 : 1 ≤ x := (nI_leI (by omega) (by omega)).mp yw.1
              obtain ⟨s, hs, rfl⟩ : ∃ s0 : Nat, s0 = 2 ∧ s = nI s0 := ⟨2, rfl, c65⟩
              have hsok : sok (gv S) s x := ⟨by omega, by omega, fun z => by omega, fun z => by omega⟩
              refine g_iconst (q := 95) (v := nI 2) dX7_state_94 rfl (by decide) ?_
              refine g_bipush (q := 97) (v := nI 10) dX7_state_95 rfl (by decide) ?_
              refine g_iload_n (q := 98) dX7_state_97 rfl rfl ?_
              refine g_imul (q := 99) dX7_state_98 rfl ?_
              refine g_iadd (q := 100) dX7_state_99 rfl ?_
              refine g_iconst (q := 101) (v := nI 2) dX7_state_100 rfl (by decide) ?_
              refine g_iadd (q := 102) dX7_state_101 rfl ?_
              refine g_iconst (q := 103) (v := nI 2) dX7_state_102 rfl (by decide) ?_
              refine g_iload_n (q := 104) dX7_state_103 rfl rfl ?_
              refine g_imul (q := 105) dX7_state_104 rfl ?_
              refine g_iadd (q := 106) dX7_state_105 rfl ?_
              rw [show nI 2 + nI 10 * nI m + nI 2 + nI 2 * nI i = nI (2 + 10 * m + 2 + 2 * i) from nI_a (nI_a (nI_a rfl (nI_m rfl rfl)) rfl) (nI_m rfl rfl)]
              refine g_istore (q := 108) dX7_state_106 rfl (by decide) rfl rfl ?_
              refine g_aload_n (q := 109) dX7_state_108 rfl rfl ?_
              refine g_iload (q := 111) dX7_state_109 rfl rfl ?_
              refine g_iload_n (q := 112) dX7_state_111 rfl rfl ?_
              refine k_X7_235 (q := 115) rfl (Nat.le_of_ble_eq_true rfl) (by first | assumption | rfl) dX7_state_112 rfl (c_X7_becomes hr (by omega) (fun J hJa hJe hJf hJw => ?_))
              refine g_istore (q := 117) dX7_state_115 rfl (by decide) rfl rfl ?_
              refine g_aload_n (q := 118) dX7_state_117 rfl rfl ?_
              refine gf_X7_25 (q := 121) rfl (by first | assumption | rfl) (by first | assumption | rfl) dX7_state_118 rfl ?_
              refine g_iload (q := 123) dX7_state_121 rfl rfl ?_
              refine g_iconst (q := 124) (v := nI 1) dX7_state_123 rfl (by decide) ?_
              refine g_iadd (q := 125) dX7_state_124 rfl ?_
              refine g_iload (q := 127) dX7_state_125 rfl rfl ?_
              refine g_iastn (q := 128) (by first | assumption | rfl) (by repeat' first | apply nI_a | apply nI_m | exact rfl) (by omega) dX7_state_127 rfl ?_
              refine g_iload (q := 130) dX7_state_128 rfl rfl ?_
              refine g_iret rfl dX7_state_130 (Nat.le_refl _) (Nat.le_refl _) ?_
              rw [stateS, if_pos y2, nI_clamp (by omega), if_pos ((in1_iff (by omega)).mp y25), if_pos yst, nI_clamp (by omega), nI_clamp (by have := hsok.1; omega), nI_clamp (by have := hsok.2.1; omega)] at h
              rw [hMg.so hm hi]
              refine h _ (RepM.act hr ⟨MRep_setSt (s := s) (x := x) hMg hVg hm hi (by funext j; simp only [uI, hJw]), VOk_setSt hVg hsok⟩ (hJa.eq (by rw [uI_ne (by decide)]) (uI_ne (by decide))) (fun p h1 h2 h3 => ?_) (fun j hj => ?_)) (fun p hp => ?_)
              · rw [uI_ne h2, hJe p h1 h2 h3]
              · rw [uI_ne (by decide), hJf j hj]
              · rw [uI_ne (by omega), hJe p (by omega) (by omega) (by omega)]
            · refine g_if_eq (tgt := 83) (q := 79) dX7_state_76 (by decide) rfl (fun _ => ?_) (fun c76 => absurd c76 (by decide))
              refine g_iconst (q := 84) (v := nI 0) dX7_state_83 rfl (by decide) ?_
              refine g_istore (q := 86) dX7_state_84 rfl (by decide) rfl rfl ?_
              refine g_iload (q := 88) dX7_state_86 rfl rfl ?_
              refine g_if_ne (tgt := 94) (q := 91) dX7_state_88 (by decide) rfl (fun c88 => absurd c88 (by decide)) (fun _ => ?_)
              refine lc_X7_70 (q := 93) rfl dX7_state_91 rfl ?_
              refine g_iret rfl dX7_state_93 (Nat.le_refl _) (Nat.le_refl _) ?_
              rw [stateS, if_pos y2, nI_clamp (by omega), if_pos ((in1_iff (by have := (v3 m hm).2.1; omega)).mp y25), if_neg (fun z => z.elim (fun y => c35 y.1) (fun z => z.elim (fun y => c51 y.1) (fun y => z73 y.2)))] at h
              exact h I hr FrM.rf
        · refine g_aload_n (q := 55) dX7_state_54 rfl rfl ?_
          refine g_iload (q := 57) dX7_state_55 rfl rfl ?_
          refine k_X7_242 (q := 60) rfl (Nat.le_of_ble_eq_true rfl) (by first | assumption | rfl) dX7_state_57 rfl (c_X7_isMethod hMg (fun z57 => ?_) (fun z57 => ?_))
          · refine g_goto (q := 84) dX7_state_60 (by decide) ?_
            refine g_istore (q := 86) dX7_state_84 rfl (by decide) rfl rfl ?_
            refine g_iload (q := 88) dX7_state_86 rfl rfl ?_
            refine g_if_ne (tgt := 94) (q := 91) dX7_state_88 (by decide) rfl (fun _ => ?_) (fun c88 => absurd c88 (by decide))
            have yst : isSt (gv S) s x := Or.inr (Or.inl ⟨c51, z57⟩)
            obtain ⟨x, hx, rfl⟩ := in1_nat (by omega) z57
            obtain ⟨s, hs, rfl⟩ : ∃ s0 : Nat, s0 = 1 ∧ s = nI s0 := ⟨1, rfl, c51⟩
            have hsok : sok (gv S) s x := ⟨by omega, by omega, fun z => by omega, fun z => by omega⟩
            refine g_iconst (q := 95) (v := nI 2) dX7_state_94 rfl (by decide) ?_
            refine g_bipush (q := 97) (v := nI 10) dX7_state_95 rfl (by decide) ?_
            refine g_iload_n (q := 98) dX7_state_97 rfl rfl ?_
            refine g_imul (q := 99) dX7_state_98 rfl ?_
            refine g_iadd (q := 100) dX7_state_99 rfl ?_
            refine g_iconst (q := 101) (v := nI 2) dX7_state_100 rfl (by decide) ?_
            refine g_iadd (q := 102) dX7_state_101 rfl ?_
            refine g_iconst (q := 103) (v := nI 2) dX7_state_102 rfl (by decide) ?_
            refine g_iload_n (q := 104) dX7_state_103 rfl rfl ?_
            refine g_imul (q := 105) dX7_state_104 rfl ?_
            refine g_iadd (q := 106) dX7_state_105 rfl ?_
            rw [show nI 2 + nI 10 * nI m + nI 2 + nI 2 * nI i = nI (2 + 10 * m + 2 + 2 * i) from nI_a (nI_a (nI_a rfl (nI_m rfl rfl)) rfl) (nI_m rfl rfl)]
            refine g_istore (q := 108) dX7_state_106 rfl (by decide) rfl rfl ?_
            refine g_aload_n (q := 109) dX7_state_108 rfl rfl ?_
            refine g_iload (q := 111) dX7_state_109 rfl rfl ?_
            refine g_iload_n (q := 112) dX7_state_111 rfl rfl ?_
            refine k_X7_235 (q := 115) rfl (Nat.le_of_ble_eq_true rfl) (by first | assumption | rfl) dX7_state_112 rfl (c_X7_becomes hr (by omega) (fun J hJa hJe hJf hJw => ?_))
            refine g_istore (q := 117) dX7_state_115 rfl (by decide) rfl rfl ?_
            refine g_aload_n (q := 118) dX7_state_117 rfl rfl ?_
            refine gf_X7_25 (q := 121) rfl (by first | assumption | rfl) (by first | assumption | rfl) dX7_state_118 rfl ?_
            refine g_iload (q := 123) dX7_state_121 rfl rfl ?_
            refine g_iconst (q := 124) (v := nI 1) dX7_state_123 rfl (by decide) ?_
            refine g_iadd (q := 125) dX7_state_124 rfl ?_
            refine g_iload (q := 127) dX7_state_125 rfl rfl ?_
            refine g_iastn (q := 128) (by first | assumption | rfl) (by repeat' first | apply nI_a | apply nI_m | exact rfl) (by omega) dX7_state_127 rfl ?_
            refine g_iload (q := 130) dX7_state_128 rfl rfl ?_
            refine g_iret rfl dX7_state_130 (Nat.le_refl _) (Nat.le_refl _) ?_
            rw [stateS, if_pos y2, nI_clamp (by omega), if_pos ((in1_iff (by omega)).mp y25), if_pos yst, nI_clamp (by omega), nI_clamp (by have := hsok.1; omega), nI_clamp (by have := hsok.2.1; omega)] at h
            rw [hMg.so hm hi]
            refine h _ (RepM.act hr ⟨MRep_setSt (s := s) (x := x) hMg hVg hm hi (by funext j; simp only [uI, hJw]), VOk_setSt hVg hsok⟩ (hJa.eq (by rw [uI_ne (by decide)]) (uI_ne (by decide))) (fun p h1 h2 h3 => ?_) (fun j hj => ?_)) (fun p hp => ?_)
            · rw [uI_ne h2, hJe p h1 h2 h3]
            · rw [uI_ne (by decide), hJf j hj]
            · rw [uI_ne (by omega), hJe p (by omega) (by omega) (by omega)]
          · refine g_goto (q := 84) dX7_state_60 (by decide) ?_
            refine g_istore (q := 86) dX7_state_84 rfl (by decide) rfl rfl ?_
            refine g_iload (q := 88) dX7_state_86 rfl rfl ?_
            refine g_if_ne (tgt := 94) (q := 91) dX7_state_88 (by decide) rfl (fun c88 => absurd c88 (by decide)) (fun _ => ?_)
            refine lc_X7_70 (q := 93) rfl dX7_state_91 rfl ?_
            refine g_iret rfl dX7_state_93 (Nat.le_refl _) (Nat.le_refl _) ?_
            rw [stateS, if_pos y2, nI_clamp (by omega), if_pos ((in1_iff (by have := (v3 m hm).2.1; omega)).mp y25), if_neg (fun z => z.elim (fun y => c35 y.1) (fun z => z.elim (fun y => z57 y.2) (fun y => absurd (c51.symm.trans y.1) (by decide))))] at h
            exact h I hr FrM.rf
      · refine g_iload (q := 40) dX7_state_38 rfl rfl ?_
        refine g_iconst (q := 41) (v := nI 1) dX7_state_40 rfl (by decide) ?_
        refine g_bipush (q := 43) (v := nI 99) dX7_state_41 rfl (by decide) ?_
        refine k_X7_62 (q := 46) rfl (Nat.le_of_ble_eq_true rfl) dX7_state_43 rfl (c_X7_in (fun z431 z432 => ?_) (fun z43 => ?_))
        · have z43 := And.intro z431 z432
          refine g_goto (q := 84) dX7_state_46 (by decide) ?_
          refine g_istore (q := 86) dX7_state_84 rfl (by decide) rfl rfl ?_
          refine g_iload (q := 88) dX7_state_86 rfl rfl ?_
          refine g_if_ne (tgt := 94) (q := 91) dX7_state_88 (by decide) rfl (fun _ => ?_) (fun c88 => absurd c88 (by decide))
          have yst : isSt (gv S) s x := Or.inl ⟨c35, z43⟩
          obtain ⟨x, hx, rfl⟩ := inR_nat (by decide) ⟨Int32.le_trans (by decide) z43.1, z43.2⟩
          obtain ⟨s, hs, rfl⟩ : ∃ s0 : Nat, s0 = 0 ∧ s = nI s0 := ⟨0, rfl, c35⟩
          have hsok : sok (gv S) s x := ⟨by omega, by omega, fun z => by omega, fun z => by omega⟩
          refine g_iconst (q := 95) (v := nI 2) dX7_state_94 rfl (by decide) ?_
          refine g_bipush (q := 97) (v := nI 10) dX7_state_95 rfl (by decide) ?_
          refine g_iload_n (q := 98) dX7_state_97 rfl rfl ?_
          refine g_imul (q := 99) dX7_state_98 rfl ?_
          refine g_iadd (q := 100) dX7_state_99 rfl ?_
          refine g_iconst (q := 101) (v := nI 2) dX7_state_100 rfl (by decide) ?_
          refine g_iadd (q := 102) dX7_state_101 rfl ?_
          refine g_iconst (q := 103) (v := nI 2) dX7_state_102 rfl (by decide) ?_
          refine g_iload_n (q := 104) dX7_state_103 rfl rfl ?_
          refine g_imul (q := 105) dX7_state_104 rfl ?_
          refine g_iadd (q := 106) dX7_state_105 rfl ?_
          rw [show nI 2 + nI 10 * nI m + nI 2 + nI 2 * nI i = nI (2 + 10 * m + 2 + 2 * i) from nI_a (nI_a (nI_a rfl (nI_m rfl rfl)) rfl) (nI_m rfl rfl)]
          refine g_istore (q := 108) dX7_state_106 rfl (by decide) rfl rfl ?_
          refine g_aload_n (q := 109) dX7_state_108 rfl rfl ?_
          refine g_iload (q := 111) dX7_state_109 rfl rfl ?_
          refine g_iload_n (q := 112) dX7_state_111 rfl rfl ?_
          refine k_X7_235 (q := 115) rfl (Nat.le_of_ble_eq_true rfl) (by first | assumption | rfl) dX7_state_112 rfl (c_X7_becomes hr (by omega) (fun J hJa hJe hJf hJw => ?_))
          refine g_istore (q := 117) dX7_state_115 rfl (by decide) rfl rfl ?_
          refine g_aload_n (q := 118) dX7_state_117 rfl rfl ?_
          refine gf_X7_25 (q := 121) rfl (by first | assumption | rfl) (by first | assumption | rfl) dX7_state_118 rfl ?_
          refine g_iload (q := 123) dX7_state_121 rfl rfl ?_
          refine g_iconst (q := 124) (v := nI 1) dX7_state_123 rfl (by decide) ?_
          refine g_iadd (q := 125) dX7_state_124 rfl ?_
          refine g_iload (q := 127) dX7_state_125 rfl rfl ?_
          refine g_iastn (q := 128) (by first | assumption | rfl) (by repeat' first | apply nI_a | apply nI_m | exact rfl) (by omega) dX7_state_127 rfl ?_
          refine g_iload (q := 130) dX7_state_128 rfl rfl ?_
          refine g_iret rfl dX7_state_130 (Nat.le_refl _) (Nat.le_refl _) ?_
          rw [stateS, if_pos y2, nI_clamp (by omega), if_pos ((in1_iff (by omega)).mp y25), if_pos yst, nI_clamp (by omega), nI_clamp (by have := hsok.1; omega), nI_clamp (by have := hsok.2.1; omega)] at h
          rw [hMg.so hm hi]
          refine h _ (RepM.act hr ⟨MRep_setSt (s := s) (x := x) hMg hVg hm hi (by funext j; simp only [uI, hJw]), VOk_setSt hVg hsok⟩ (hJa.eq (by rw [uI_ne (by decide)]) (uI_ne (by decide))) (fun p h1 h2 h3 => ?_) (fun j hj => ?_)) (fun p hp => ?_)
          · rw [uI_ne h2, hJe p h1 h2 h3]
          · rw [uI_ne (by decide), hJf j hj]
          · rw [uI_ne (by omega), hJe p (by omega) (by omega) (by omega)]
        · refine g_goto (q := 84) dX7_state_46 (by decide) ?_
          refine g_istore (q := 86) dX7_state_84 rfl (by decide) rfl rfl ?_
          refine g_iload (q := 88) dX7_state_86 rfl rfl ?_
          refine g_if_ne (tgt := 94) (q := 91) dX7_state_88 (by decide) rfl (fun c88 => absurd c88 (by decide)) (fun _ => ?_)
          refine lc_X7_70 (q := 93) rfl dX7_state_91 rfl ?_
          refine g_iret rfl dX7_state_93 (Nat.le_refl _) (Nat.le_refl _) ?_
          rw [stateS, if_pos y2, nI_clamp (by omega), if_pos ((in1_iff (by have := (v3 m hm).2.1; omega)).mp y25), if_neg (fun z => z.elim (fun y => z43 y.2) (fun z => z.elim (fun y => absurd (c35.symm.trans y.1) (by decide)) (fun y => absurd (c35.symm.trans y.1) (by decide))))] at h
          exact h I hr FrM.rf
    · refine g_if_ne (tgt := 34) (q := 31) dX7_state_28 (by decide) rfl (fun c28 => absurd c28 (by decide)) (fun _ => ?_)
      refine lc_X7_70 (q := 33) rfl dX7_state_31 rfl ?_
      refine g_iret rfl dX7_state_33 (Nat.le_refl _) (Nat.le_refl _) ?_
      rw [stateS, if_pos y2, nI_clamp (by omega), if_neg (fun z => z25 ((in1_iff (by have := (v3 m hm).2.1; omega)).mpr z))] at h
      exact h I hr FrM.rf
  · refine g_if_eq (tgt := 31) (q := 8) dX7_state_5 (by decide) rfl (fun _ => ?_) (fun c5 => absurd c5 (by decide))
    refine lc_X7_70 (q := 33) rfl dX7_state_31 rfl ?_
    refine g_iret rfl dX7_state_33 (Nat.le_refl _) (Nat.le_refl _) ?_
    rw [stateS, if_neg z2] at h
    exact h I hr FrM.rf
theorem RepM.now {I J : Nat → Nat → Int32} {S : Sg} {u : Vv} {us : List Vv} (h : RepM I S) (hv : MRep J 58 0 u ∧ VOk u) (ha : MActs J us) (e : ∀ p, p ≠ 52 → p ≠ 58 → J p = I p) (f : ∀ j, j ≠ 17 → J 52 j = I 52 j) : RepM J (S.1, S.2.1, S.2.2.1, S.2.2.2.1, u, us, S.2.2.2.2.2.2) := by
  obtain ⟨h1, h2, h3, h4, h5, h6, h7, h8⟩ := h
  have E : ∀ p, (p ≠ 52 ∧ p ≠ 58) → J p = I p := fun p hp => e p hp.1 hp.2
  exact ⟨h1.eq (E 53 (by decide)) (E 54 (by decide)) (E 55 (by decide)), ⟨(f 4 (by decide)).trans h2.1, h2.2⟩, h3.eq (f 6 (by decide)) (E 57 (by decide)), ⟨(f 7 (by decide)).trans h4.1, h4.2⟩, hv, ha, h7.eq (E 62 (by decide)) (E 63 (by decide)), h8.eq (f 31 (by decide)) (E 67 (by decide))⟩

set_option maxRecDepth 100000 in
set_option maxHeartbeats 400000 in
theorem c_X7_undo {d k : Nat} {I : Nat → Nat → Int32} {Q : Option Int32 → Wd → Prop} {S : Sg} (hr : RepM I S) (h : ∀ I2, RepM I2 (undoS S).2 → FrM I I2 → Q (some (undoS S).1) (I2, RR k)) : Ex (d + 2) 0 0 mX7_undo [.ref 52] 68 (I, RR k) 68 Q := by
  have hVg : VOk (gv S) := hr.2.2.2.2.1.2
  have hMg : MRep I 58 0 (gv S) := hr.2.2.2.2.1.1
  obtain ⟨v1, v2, v3, v4⟩ := id hVg
  obtain ⟨a1, a2, a3⟩ := id hr.2.2.2.2.2.1
  refine ex_intro (L0 := [.ref 52]) (by decide +kernel) rfl rfl (Nat.le_of_ble_eq_true rfl) rfl ?_
  refine g_aload_n (q := 1) dX7_undo_0 rfl rfl ?_
  refine gf_X7_155 (q := 4) rfl (by first | assumption | rfl) dX7_undo_1 rfl ?_
  rw [a1]
  refine g_if_ne (tgt := 10) (q := 7) dX7_undo_4 (by decide) rfl (fun c4 => ?_) (fun c4 => ?_)
  · have hl0 : ¬ S.2.2.2.2.2.1.length = 0 := fun z => c4 (by rw [z]; rfl)
    refine g_aload_n (q := 11) dX7_undo_10 rfl rfl ?_
    refine g_dup (q := 12) dX7_undo_11 rfl rfl ?_
    refine gf_X7_155 (q := 15) rfl (by first | assumption | rfl) dX7_undo_12 rfl ?_
    rw [a1]
    refine g_iconst (q := 16) (v := nI 1) dX7_undo_15 rfl (by decide) ?_
    refine g_isub (q := 17) dX7_undo_16 rfl ?_
    rw [nI_pr hl0]
    refine pf_X7_155 (q := 20) rfl (by first | assumption | rfl) dX7_undo_17 rfl ?_
    refine g_aload_n (q := 21) dX7_undo_20 rfl rfl ?_
    refine gf_X7_34 (q := 24) rfl (by first | assumption | rfl) (by first | assumption | rfl) dX7_undo_21 rfl ?_
    refine g_bipush (q := 26) (v := nI 92) dX7_undo_24 rfl (by decide) ?_
    refine g_aload_n (q := 27) dX7_undo_26 rfl rfl ?_
    refine gf_X7_155 (q := 30) rfl (by first | assumption | rfl) dX7_undo_27 rfl ?_
    rw [uI_eq]
    refine g_imul (q := 31) dX7_undo_30 rfl ?_
    rw [show nI 92 * nI (S.2.2.2.2.2.1.length - 1) = nI (92 * (S.2.2.2.2.2.1.length - 1)) from nI_m rfl rfl]
    refine g_aload_n (q := 32) dX7_undo_31 rfl rfl ?_
    refine gf_X7_25 (q := 35) rfl (by first | assumption | rfl) (by first | assumption | rfl) dX7_undo_32 rfl ?_
    refine g_iconst (q := 36) (v := nI 0) dX7_undo_35 rfl (by decide) ?_
    refine k_X7_151 (q := 39) rfl (Nat.le_of_ble_eq_true rfl) dX7_undo_36 rfl (c_copies rfl rfl (by decide) (by omega) (by omega) ?_)
    refine g_aload_n (q := 40) dX7_undo_39 rfl rfl ?_
    refine gf_X7_155 (q := 43) rfl (by first | assumption | rfl) dX7_undo_40 rfl ?_
    rw [cpI_ne (by decide), uI_eq]
    refine g_iret rfl dX7_undo_43 (Nat.le_refl _) (Nat.le_refl _) ?_
    obtain ⟨u, us, hu⟩ : ∃ u us, S.2.2.2.2.2.1 = u :: us := by
      cases hu : S.2.2.2.2.2.1 with
      | nil => rw [hu] at hl0; exact absurd rfl hl0
      | cons u us => exact ⟨u, us, rfl⟩
    rw [hu] at a2 a3 ⊢
    rw [List.length_cons, Nat.add_sub_cancel] at *
    rw [undoS, hu] at h
    have e1 : ∀ (J : Nat → Nat → Int32) (x : Int32) (j : Nat), j ≠ 17 → uI J 52 17 x 52 j = J 52 j := fun J x j hj => by simp [uI, hj]
    obtain ⟨u2, t2, w1, w2, w3, w4⟩ := a3
    cases w1
    rw [Nat.zero_add] at w2
    refine h _ (RepM.now hr ⟨w2.of w3 (fun j hj => ?_), w3⟩ ⟨?_, by omega, ?_⟩ (fun p h1 h2 => ?_) (fun j hj => ?_)) (fun p hp => ?_)
    · rw [cpI_eq hj, uI_ne (by decide)]
    · rw [cpI_ne (by decide), uI_eq]
    · exact MPast.eq ((cpI_ne (by decide)).trans (uI_ne (by decide))) _ _ w4
    · rw [cpI_ne h2, uI_ne h1]
    · rw [cpI_ne (by decide), e1 _ _ _ hj]
    · rw [cpI_ne (by omega), uI_ne (by omega)]
  · refine lc_X7_238 (q := 9) rfl dX7_undo_7 rfl ?_
    refine g_iret rfl dX7_undo_9 (Nat.le_refl _) (Nat.le_refl _) ?_
    cases hu : S.2.2.2.2.2.1 with
    | nil => rw [undoS, hu] at h; exact h I hr FrM.rf
    | cons u us => rw [hu] at c4; exact absurd ((nI_eq (a := (u :: us).length) (b := 0) (by rw [hu] at a2; omega) (by decide)).mp c4) (by simp)
set_option maxRecDepth 100000 in
set_option maxHeartbeats 400000 in
theorem c_X7_image {d k : Nat} {I : Nat → Nat → Int32} {Q : Option Int32 → Wd → Prop} {S : Sg} {q : Int32} (hr : RepM I S) (h : ∀ I2, RepM I2 (imageS S q).2 → FrM I I2 → Q (some (imageS S q).1) (I2, RR k)) : Ex (d + 2) 0 0 mX7_image [.ref 52, .int q] 68 (I, RR k) 68 Q := by
  have hVg : VOk (gv S) := hr.2.2.2.2.1.2
  have hMg : MRep I 58 0 (gv S) := hr.2.2.2.2.1.1
  obtain ⟨v1, v2, v3, v4⟩ := id hVg

  refine ex_intro (L0 := [.ref 52, .int q]) (by decide +kernel) rfl rfl (Nat.le_of_ble_eq_true rfl) rfl ?_
  refine g_iload_n (q := 1) dX7_image_0 rfl rfl ?_
  refine g_iconst (q := 2) (v := nI 0) dX7_image_1 rfl (by decide) ?_
  refine g_iconst (q := 3) (v := nI 1) dX7_image_2 rfl (by decide) ?_
  refine k_X7_62 (q := 6) rfl (Nat.le_of_ble_eq_true rfl) dX7_image_3 rfl (c_X7_in (fun z31 z32 => ?_) (fun z3 => ?_))
  · have z3 := And.intro z31 z32
    refine g_if_ne (tgt := 12) (q := 9) dX7_image_6 (by decide) rfl (fun _ => ?_) (fun c6 => absurd c6 (by decide))
    refine g_aload_n (q := 13) dX7_image_12 rfl rfl ?_
    refine k_X7_251 (q := 16) rfl (Nat.le_of_ble_eq_true rfl) (by first | assumption | rfl) dX7_image_13 rfl (c_X7_isWeave hMg hVg (fun z13 => ?_) (fun z13 => ?_))
    · refine g_if_ne (tgt := 22) (q := 19) dX7_image_16 (by decide) rfl (fun _ => ?_) (fun c16 => absurd c16 (by decide))
      have y3 := z3
      obtain ⟨q, hq, rfl⟩ := inR_nat (by decide) z3
      refine g_aload_n (q := 23) dX7_image_22 rfl rfl ?_
      refine gf_X7_25 (q := 26) rfl (by first | assumption | rfl) (by first | assumption | rfl) dX7_image_23 rfl ?_
      refine g_iconst (q := 27) (v := nI 0) dX7_image_26 rfl (by decide) ?_
      refine g_aload_n (q := 28) dX7_image_27 rfl rfl ?_
      refine gf_X7_37 (q := 31) rfl (by first | assumption | rfl) (by first | assumption | rfl) dX7_image_28 rfl ?_
      refine g_bipush (q := 33) (v := nI 92) dX7_image_31 rfl (by decide) ?_
      refine g_iload_n (q := 34) dX7_image_33 rfl rfl ?_
      refine g_imul (q := 35) dX7_image_34 rfl ?_
      rw [show nI 92 * nI q = nI (92 * q) from nI_m rfl rfl]
      refine k_X7_151 (q := 38) rfl (Nat.le_of_ble_eq_true rfl) dX7_image_35 rfl (c_copies rfl rfl (by decide) (by omega) (by omega) ?_)
      refine g_aload_n (q := 39) dX7_image_38 rfl rfl ?_
      refine gf_X7_40 (q := 42) rfl (by first | assumption | rfl) (by first | assumption | rfl) dX7_image_39 rfl ?_
      refine g_iload_n (q := 43) dX7_image_42 rfl rfl ?_
      refine g_iconst (q := 44) (v := nI 1) dX7_image_43 rfl (by decide) ?_
      refine g_zast (q := 45) (N := 2) rfl (nI_in (by omega) (by decide)) dX7_image_44 rfl ?_
      rw [nI_clamp (by omega), show vp_nar .boolean (nI 1) = nI 1 by decide]
      refine g_iconst (q := 46) (v := nI 1) dX7_image_45 rfl (by decide) ?_
      refine g_iret rfl dX7_image_46 (Nat.le_refl _) (Nat.le_refl _) ?_
      rw [imageS, if_pos y3, if_neg z13, nI_clamp (by omega)] at h
      refine h _ ?_ (FrM.tr (fun p hp => cpI_ne (by omega)) (FrM.ui (by decide)))
      obtain ⟨h1, h2, h3, h4, h5, h6, h7, h8⟩ := hr
      have E : ∀ p, (p ≠ 62 ∧ p ≠ 63) → uI (cpI I 58 0 62 (92 * q) 92) 63 q (nI 1) p = I p := fun p hp => (uI_ne hp.2).trans (cpI_ne hp.1)
      have e0 := E 52 (by decide)
      refine ⟨h1.eq (E 53 (by decide)) (E 54 (by decide)) (E 55 (by decide)), by rw [e0]; exact h2, h3.eq (by rw [e0]) (E 57 (by decide)), by rw [e0]; exact h4, ⟨h5.1.eq (E 58 (by decide)), h5.2⟩, h6.eq (by rw [e0]) (E 61 (by decide)), ?_, h8.eq (by rw [e0]) (E 67 (by decide))⟩
      intro z hz
      by_cases e : z = q
      · subst e
        refine Or.inr ⟨gv S, by simp, uI_eq, hMg.of hVg (fun j hj => ?_), hVg⟩
        rw [uI_ne (by decide)]
        exact cpI_eq hj
      · have k1 : uI (cpI I 58 0 62 (92 * q) 92) 63 q (nI 1) 63 z = I 63 z := by simp [uI, e, cpI]
        have k2 : ∀ j, j < 92 → uI (cpI I 58 0 62 (92 * q) 92) 63 q (nI 1) 62 (92 * z + j) = I 62 (92 * z + j) := fun j hj => by
          rw [uI_ne (by decide), cpI, if_neg (by omega)]
        rcases h7 z hz with ⟨w1, w2⟩ | ⟨u, w1, w2, w3, w4⟩
        · exact Or.inl ⟨by simp only [if_neg e]; exact w1, k1.trans w2⟩
        · exact Or.inr ⟨u, by simp only [if_neg e]; exact w1, k1.trans w2, w3.of w4 k2, w4⟩
    · refine g_if_ne (tgt := 22) (q := 19) dX7_image_16 (by decide) rfl (fun c16 => absurd c16 (by decide)) (fun _ => ?_)
      refine lc_X7_238 (q := 21) rfl dX7_image_19 rfl ?_
      refine g_iret rfl dX7_image_21 (Nat.le_refl _) (Nat.le_refl _) ?_
      rw [imageS, if_pos z3, if_pos z13] at h
      exact h I hr FrM.rf
  · refine g_if_ne (tgt := 12) (q := 9) dX7_image_6 (by decide) rfl (fun c6 => absurd c6 (by decide)) (fun _ => ?_)
    refine lc_X7_70 (q := 11) rfl dX7_image_9 rfl ?_
    refine g_iret rfl dX7_image_11 (Nat.le_refl _) (Nat.le_refl _) ?_
    rw [imageS, if_neg z3] at h
    exact h I hr FrM.rf
set_option maxRecDepth 100000 in
set_option maxHeartbeats 400000 in
theorem c_X7_restore {d k : Nat} {I : Nat → Nat → Int32} {Q : Option Int32 → Wd → Prop} {S : Sg} {q : Int32} (hr : RepM I S) (h : ∀ I2, RepM I2 (restoreS S q).2 → FrM I I2 → Q (some (restoreS S q).1) (I2, RR k)) : Ex (d + 2) 0 0 mX7_restore [.ref 52, .int q] 68 (I, RR k) 68 Q := by
  have hVg : VOk (gv S) := hr.2.2.2.2.1.2
  have hMg : MRep I 58 0 (gv S) := hr.2.2.2.2.1.1
  obtain ⟨v1, v2, v3, v4⟩ := id hVg

  refine ex_intro (L0 := [.ref 52, .int q]) (by decide +kernel) rfl rfl (Nat.le_of_ble_eq_true rfl) rfl ?_
  refine g_iload_n (q := 1) dX7_restore_0 rfl rfl ?_
  refine g_iconst (q := 2) (v := nI 0) dX7_restore_1 rfl (by decide) ?_
  refine g_iconst (q := 3) (v := nI 1) dX7_restore_2 rfl (by decide) ?_
  refine k_X7_62 (q := 6) rfl (Nat.le_of_ble_eq_true rfl) dX7_restore_3 rfl (c_X7_in (fun z31 z32 => ?_) (fun z3 => ?_))
  · have z3 := And.intro z31 z32
    refine g_if_ne (tgt := 12) (q := 9) dX7_restore_6 (by decide) rfl (fun _ => ?_) (fun c6 => absurd c6 (by decide))
    have y3 := z3
    obtain ⟨q, hq, rfl⟩ := inR_nat (by decide) z3
    have hi7 := hr.2.2.2.2.2.2.1 q (by omega)
    refine g_aload_n (q := 13) dX7_restore_12 rfl rfl ?_
    refine gf_X7_40 (q := 16) rfl (by first | assumption | rfl) (by first | assumption | rfl) dX7_restore_13 rfl ?_
    refine g_iload_n (q := 17) dX7_restore_16 rfl rfl ?_
    refine g_zald (q := 18) (N := 2) rfl (nI_in (by omega) (by decide)) dX7_restore_17 rfl ?_
    rw [nI_clamp (by omega)]
    refine g_if_ne (tgt := 24) (q := 21) dX7_restore_18 (by decide) rfl (fun c18 => ?_) (fun c18 => ?_)
    · refine g_aload_n (q := 25) dX7_restore_24 rfl rfl ?_
      refine gf_X7_37 (q := 28) rfl (by first | assumption | rfl) (by first | assumption | rfl) dX7_restore_25 rfl ?_
      refine g_bipush (q := 30) (v := nI 92) dX7_restore_28 rfl (by decide) ?_
      refine g_iload_n (q := 31) dX7_restore_30 rfl rfl ?_
      refine g_imul (q := 32) dX7_restore_31 rfl ?_
      rw [show nI 92 * nI q = nI (92 * q) from nI_m rfl rfl]
      refine g_aload_n (q := 33) dX7_restore_32 rfl rfl ?_
      refine gf_X7_25 (q := 36) rfl (by first | assumption | rfl) (by first | assumption | rfl) dX7_restore_33 rfl ?_
      refine g_iconst (q := 37) (v := nI 0) dX7_restore_36 rfl (by decide) ?_
      refine k_X7_151 (q := 40) rfl (Nat.le_of_ble_eq_true rfl) dX7_restore_37 rfl (c_copies rfl rfl (by decide) (by omega) (by omega) ?_)
      refine g_aload_n (q := 41) dX7_restore_40 rfl rfl ?_
      refine g_iconst (q := 42) (v := nI 0) dX7_restore_41 rfl (by decide) ?_
      refine pf_X7_155 (q := 45) rfl (by first | assumption | rfl) dX7_restore_42 rfl ?_
      refine g_iconst (q := 46) (v := nI 1) dX7_restore_45 rfl (by decide) ?_
      refine g_iret rfl dX7_restore_46 (Nat.le_refl _) (Nat.le_refl _) ?_
      rcases hi7 with ⟨w1, w2⟩ | ⟨u, w1, w2, w3, w4⟩
      · exact absurd w2 c18
      · rw [restoreS, if_pos y3, nI_clamp (by omega)] at h
        simp only [w1] at h
        refine h _ (RepM.now hr ⟨w3.of w4 (fun j hj => ?_), w4⟩ ⟨uI_eq, by simp, rfl⟩ (fun p h1 h2 => ?_) (fun j hj => ?_)) (fun p hp => ?_)
        · rw [uI_ne (by decide), cpI_eq hj]
        · rw [uI_ne h1, cpI_ne h2]
        · have e1 : ∀ (J : Nat → Nat → Int32) (x : Int32), uI J 52 17 x 52 j = J 52 j := fun J x => by simp [uI, hj]
          rw [e1, cpI_ne (by decide)]
        · rw [uI_ne (by omega), cpI_ne (by omega)]
    · refine lc_X7_238 (q := 23) rfl dX7_restore_21 rfl ?_
      refine g_iret rfl dX7_restore_23 (Nat.le_refl _) (Nat.le_refl _) ?_
      rcases hi7 with ⟨w1, w2⟩ | ⟨u, w1, w2, w3, w4⟩
      · rw [restoreS, if_pos y3, nI_clamp (by omega)] at h
        simp only [w1] at h
        exact h I hr FrM.rf
      · have : I 63 q = nI 0 := c18
        exact absurd (w2.symm.trans this) (by decide)
  · refine g_if_ne (tgt := 12) (q := 9) dX7_restore_6 (by decide) rfl (fun c6 => absurd c6 (by decide)) (fun _ => ?_)
    refine lc_X7_70 (q := 11) rfl dX7_restore_9 rfl ?_
    refine g_iret rfl dX7_restore_11 (Nat.le_refl _) (Nat.le_refl _) ?_
    rw [restoreS, if_neg z3] at h
    exact h I hr FrM.rf
set_option maxRecDepth 100000 in
set_option maxHeartbeats 400000 in
theorem c_X7_as {d k : Nat} {I : Nat → Nat → Int32} {Q : Option Int32 → Wd → Prop} {S : Sg} {a q : Int32} (hr : RepM I S) (h : ∀ I2, RepM I2 (asS S a q).2 → FrM I I2 → Q (some (asS S a q).1) (I2, RR k)) : Ex (d + 2) 0 0 mX7_as [.ref 52, .int a, .int q] 68 (I, RR k) 68 Q := by
  have hVg : VOk (gv S) := hr.2.2.2.2.1.2
  have hMg : MRep I 58 0 (gv S) := hr.2.2.2.2.1.1
  obtain ⟨v1, v2, v3, v4⟩ := id hVg

  refine ex_intro (L0 := [.ref 52, .int a, .int q, .null, .null]) (by decide +kernel) rfl rfl (Nat.le_of_ble_eq_true rfl) rfl ?_
  refine g_aload_n (q := 1) dX7_as_0 rfl rfl ?_
  refine g_iload_n (q := 2) dX7_as_1 rfl rfl ?_
  refine k_X7_232 (q := 5) rfl (Nat.le_of_ble_eq_true rfl) (by first | assumption | rfl) dX7_as_2 rfl (c_X7_isAdvice hMg (fun z2 => ?_) (fun z2 => ?_))
  · refine g_if_eq (tgt := 17) (q := 8) dX7_as_5 (by decide) rfl (fun c5 => absurd c5 (by decide)) (fun _ => ?_)
    refine g_iload_n (q := 9) dX7_as_8 rfl rfl ?_
    refine g_iconst (q := 10) (v := nI 0) dX7_as_9 rfl (by decide) ?_
    refine g_iconst (q := 11) (v := nI 5) dX7_as_10 rfl (by decide) ?_
    refine k_X7_62 (q := 14) rfl (Nat.le_of_ble_eq_true rfl) dX7_as_11 rfl (c_X7_in (fun z111 z112 => ?_) (fun z11 => ?_))
    · have z11 := And.intro z111 z112
      refine g_if_ne (tgt := 20) (q := 17) dX7_as_14 (by decide) rfl (fun _ => ?_) (fun c14 => absurd c14 (by decide))
      have y2 := z2
      obtain ⟨a, ha, rfl⟩ := in1_nat (by omega) z2
      have y11 := z11
      obtain ⟨q, hq, rfl⟩ := inR_nat (by decide) z11
      refine g_aload_n (q := 21) dX7_as_20 rfl rfl ?_
      refine g_iload_n (q := 22) dX7_as_21 rfl rfl ?_
      refine k_X7_263 (q := 25) rfl (Nat.le_of_ble_eq_true rfl) (by first | assumption | rfl) dX7_as_22 rfl (c_X7_kindIn hMg hVg (by assumption) ?_)
      refine g_istore_n (q := 26) dX7_as_25 rfl (by decide) rfl rfl ?_
      refine g_iload_n (q := 27) dX7_as_26 rfl rfl ?_
      refine g_if_eq (tgt := 55) (q := 30) dX7_as_27 (by decide) rfl (fun c27 => ?_) (fun c27 => ?_)
      · refine g_iconst (q := 56) (v := nI 1) dX7_as_55 rfl (by decide) ?_
        refine g_goto (q := 60) dX7_as_56 (by decide) ?_
        refine g_istore (q := 62) dX7_as_60 rfl (by decide) rfl rfl ?_
        refine g_iload (q := 64) dX7_as_62 rfl rfl ?_
        refine g_if_eq (tgt := 75) (q := 67) dX7_as_64 (by decide) rfl (fun c64 => absurd c64 (by decide)) (fun _ => ?_)
        refine g_aload_n (q := 68) dX7_as_67 rfl rfl ?_
        refine g_iload_n (q := 69) dX7_as_68 rfl rfl ?_
        refine k_X7_75 (q := 72) rfl (Nat.le_of_ble_eq_true rfl) (by first | assumption | rfl) dX7_as_69 rfl (c_X7_well ?_)
        refine g_goto (q := 80) dX7_as_72 (by decide) ?_
        refine g_iret rfl dX7_as_80 (Nat.le_refl _) (Nat.le_refl _) ?_
        have hkd : isKd (vfa (gv S) a 5) q = true := by
          have k5 := (v4 a ha).2.2.2.2.2.2
          have eq0 : nI q = 0 ↔ q = 0 := nI_eq (a := q) (b := 0) (by omega) (by decide)
          have eqi : nI q = nI (vfa (gv S) a 5) ↔ q = vfa (gv S) a 5 := nI_eq (by omega) (by omega)
          have eq1 : nI q = nI 1 ↔ q = 1 := nI_eq (by omega) (by omega)
          have eq4 : nI q = nI 4 ↔ q = 4 := nI_eq (by omega) (by omega)
          have lt4 : nI (vfa (gv S) a 5) < nI 4 ↔ vfa (gv S) a 5 < 4 := nI_ltI (by omega) (by omega)
          have eq5 : nI (vfa (gv S) a 5) = nI 5 ↔ vfa (gv S) a 5 = 5 := nI_eq (by omega) (by omega)
          simp only [eq0, eqi, eq1, eq4, lt4, eq5] at *
          simp [isKd]
          omega
        rw [asS, if_pos y2, if_pos y11, nI_clamp (by omega), nI_clamp (by omega), if_pos hkd] at h
        exact h _ (hr.fnd (by decide)) (FrM.ui (by decide))
      · refine g_iload_n (q := 31) dX7_as_30 rfl rfl ?_
        refine g_iload_n (q := 32) dX7_as_31 rfl rfl ?_
        refine g_icmp_eq (tgt := 55) (q := 35) dX7_as_32 (by decide) rfl (fun c32 => ?_) (fun c32 => ?_)
        · refine g_iconst (q := 56) (v := nI 1) dX7_as_55 rfl (by decide) ?_
          refine g_goto (q := 60) dX7_as_56 (by decide) ?_
          refine g_istore (q := 62) dX7_as_60 rfl (by decide) rfl rfl ?_
          refine g_iload (q := 64) dX7_as_62 rfl rfl ?_
          refine g_if_eq (tgt := 75) (q := 67) dX7_as_64 (by decide) rfl (fun c64 => absurd c64 (by decide)) (fun _ => ?_)
          refine g_aload_n (q := 68) dX7_as_67 rfl rfl ?_
          refine g_iload_n (q := 69) dX7_as_68 rfl rfl ?_
          refine k_X7_75 (q := 72) rfl (Nat.le_of_ble_eq_true rfl) (by first | assumption | rfl) dX7_as_69 rfl (c_X7_well ?_)
          refine g_goto (q := 80) dX7_as_72 (by decide) ?_
          refine g_iret rfl dX7_as_80 (Nat.le_refl _) (Nat.le_refl _) ?_
          have hkd : isKd (vfa (gv S) a 5) q = true := by
            have k5 := (v4 a ha).2.2.2.2.2.2
            have eq0 : nI q = 0 ↔ q = 0 := nI_eq (a := q) (b := 0) (by omega) (by decide)
            have eqi : nI q = nI (vfa (gv S) a 5) ↔ q = vfa (gv S) a 5 := nI_eq (by omega) (by omega)
            have eq1 : nI q = nI 1 ↔ q = 1 := nI_eq (by omega) (by omega)
            have eq4 : nI q = nI 4 ↔ q = 4 := nI_eq (by omega) (by omega)
            have lt4 : nI (vfa (gv S) a 5) < nI 4 ↔ vfa (gv S) a 5 < 4 := nI_ltI (by omega) (by omega)
            have eq5 : nI (vfa (gv S) a 5) = nI 5 ↔ vfa (gv S) a 5 = 5 := nI_eq (by omega) (by omega)
            simp only [eq0, eqi, eq1, eq4, lt4, eq5] at *
            simp [isKd]
            omega
          rw [asS, if_pos y2, if_pos y11, nI_clamp (by omega), nI_clamp (by omega), if_pos hkd] at h
          exact h _ (hr.fnd (by decide)) (FrM.ui (by decide))
        · refine g_iload_n (q := 36) dX7_as_35 rfl rfl ?_
          refine g_iconst (q := 37) (v := nI 1) dX7_as_36 rfl (by decide) ?_
          refine g_icmp_ne (tgt := 45) (q := 40) dX7_as_37 (by decide) rfl (fun c37 => ?_) (fun c37 => ?_)
          · refine g_iload_n (q := 46) dX7_as_45 rfl rfl ?_
            refine g_iconst (q := 47) (v := nI 4) dX7_as_46 rfl (by decide) ?_
            refine g_icmp_ne (tgt := 59) (q := 50) dX7_as_47 (by decide) rfl (fun c47 => ?_) (fun c47 => ?_)
            · refine g_iconst (q := 60) (v := nI 0) dX7_as_59 rfl (by decide) ?_
              refine g_istore (q := 62) dX7_as_60 rfl (by decide) rfl rfl ?_
              refine g_iload (q := 64) dX7_as_62 rfl rfl ?_
              refine g_if_eq (tgt := 75) (q := 67) dX7_as_64 (by decide) rfl (fun _ => ?_) (fun c64 => absurd c64 (by decide))
              refine g_aload_n (q := 76) dX7_as_75 rfl rfl ?_
              refine g_iconst (q := 77) (v := nI 3) dX7_as_76 rfl (by decide) ?_
              refine k_X7_71 (q := 80) rfl (Nat.le_of_ble_eq_true rfl) (by first | assumption | rfl) dX7_as_77 rfl (c_X7_found ?_)
              refine g_iret rfl dX7_as_80 (Nat.le_refl _) (Nat.le_refl _) ?_
              have hkd : isKd (vfa (gv S) a 5) q = false := by
                have k5 := (v4 a ha).2.2.2.2.2.2
                have eq0 : nI q = 0 ↔ q = 0 := nI_eq (a := q) (b := 0) (by omega) (by decide)
                have eqi : nI q = nI (vfa (gv S) a 5) ↔ q = vfa (gv S) a 5 := nI_eq (by omega) (by omega)
                have eq1 : nI q = nI 1 ↔ q = 1 := nI_eq (by omega) (by omega)
                have eq4 : nI q = nI 4 ↔ q = 4 := nI_eq (by omega) (by omega)
                have lt4 : nI (vfa (gv S) a 5) < nI 4 ↔ vfa (gv S) a 5 < 4 := nI_ltI (by omega) (by omega)
                have eq5 : nI (vfa (gv S) a 5) = nI 5 ↔ vfa (gv S) a 5 = 5 := nI_eq (by omega) (by omega)
                simp only [eq0, eqi, eq1, eq4, lt4, eq5] at *
                simp [isKd]
                omega
              rw [asS, if_pos y2, if_pos y11, nI_clamp (by omega), nI_clamp (by omega), if_neg (by rw [hkd]; decide)] at h
              exact h _ (hr.fnd (by decide)) (FrM.ui (by decide))
            · refine g_iload_n (q := 51) dX7_as_50 rfl rfl ?_
              refine g_iconst (q := 52) (v := nI 5) dX7_as_51 rfl (by decide) ?_
              refine g_icmp_ne (tgt := 59) (q := 55) dX7_as_52 (by decide) rfl (fun c52 => ?_) (fun c52 => ?_)
              · refine g_iconst (q := 60) (v := nI 0) dX7_as_59 rfl (by decide) ?_
                refine g_istore (q := 62) dX7_as_60 rfl (by decide) rfl rfl ?_
                refine g_iload (q := 64) dX7_as_62 rfl rfl ?_
                refine g_if_eq (tgt := 75) (q := 67) dX7_as_64 (by decide) rfl (fun _ => ?_) (fun c64 => absurd c64 (by decide))
                refine g_aload_n (q := 76) dX7_as_75 rfl rfl ?_
                refine g_iconst (q := 77) (v := nI 3) dX7_as_76 rfl (by decide) ?_
                refine k_X7_71 (q := 80) rfl (Nat.le_of_ble_eq_true rfl) (by first | assumption | rfl) dX7_as_77 rfl (c_X7_found ?_)
                refine g_iret rfl dX7_as_80 (Nat.le_refl _) (Nat.le_refl _) ?_
                have hkd : isKd (vfa (gv S) a 5) q = false := by
                  have k5 := (v4 a ha).2.2.2.2.2.2
                  have eq0 : nI q = 0 ↔ q = 0 := nI_eq (a := q) (b := 0) (by omega) (by decide)
                  have eqi : nI q = nI (vfa (gv S) a 5) ↔ q = vfa (gv S) a 5 := nI_eq (by omega) (by omega)
                  have eq1 : nI q = nI 1 ↔ q = 1 := nI_eq (by omega) (by omega)
                  have eq4 : nI q = nI 4 ↔ q = 4 := nI_eq (by omega) (by omega)
                  have lt4 : nI (vfa (gv S) a 5) < nI 4 ↔ vfa (gv S) a 5 < 4 := nI_ltI (by omega) (by omega)
                  have eq5 : nI (vfa (gv S) a 5) = nI 5 ↔ vfa (gv S) a 5 = 5 := nI_eq (by omega) (by omega)
                  simp only [eq0, eqi, eq1, eq4, lt4, eq5] at *
                  simp [isKd]
                  omega
                rw [asS, if_pos y2, if_pos y11, nI_clamp (by omega), nI_clamp (by omega), if_neg (by rw [hkd]; decide)] at h
                exact h _ (hr.fnd (by decide)) (FrM.ui (by decide))
              · refine g_iconst (q := 56) (v := nI 1) dX7_as_55 rfl (by decide) ?_
                refine g_goto (q := 60) dX7_as_56 (by decide) ?_
                refine g_istore (q := 62) dX7_as_60 rfl (by decide) rfl rfl ?_
                refine g_iload (q := 64) dX7_as_62 rfl rfl ?_
                refine g_if_eq (tgt := 75) (q := 67) dX7_as_64 (by decide) rfl (fun c64 => absurd c64 (by decide)) (fun _ => ?_)
                refine g_aload_n (q := 68) dX7_as_67 rfl rfl ?_
                refine g_iload_n (q := 69) dX7_as_68 rfl rfl ?_
                refine k_X7_75 (q := 72) rfl (Nat.le_of_ble_eq_true rfl) (by first | assumption | rfl) dX7_as_69 rfl (c_X7_well ?_)
                refine g_goto (q := 80) dX7_as_72 (by decide) ?_
                refine g_iret rfl dX7_as_80 (Nat.le_refl _) (Nat.le_refl _) ?_
                have hkd : isKd (vfa (gv S) a 5) q = true := by
                  have k5 := (v4 a ha).2.2.2.2.2.2
                  have eq0 : nI q = 0 ↔ q = 0 := nI_eq (a := q) (b := 0) (by omega) (by decide)
                  have eqi : nI q = nI (vfa (gv S) a 5) ↔ q = vfa (gv S) a 5 := nI_eq (by omega) (by omega)
                  have eq1 : nI q = nI 1 ↔ q = 1 := nI_eq (by omega) (by omega)
                  have eq4 : nI q = nI 4 ↔ q = 4 := nI_eq (by omega) (by omega)
                  have lt4 : nI (vfa (gv S) a 5) < nI 4 ↔ vfa (gv S) a 5 < 4 := nI_ltI (by omega) (by omega)
                  have eq5 : nI (vfa (gv S) a 5) = nI 5 ↔ vfa (gv S) a 5 = 5 := nI_eq (by omega) (by omega)
                  simp only [eq0, eqi, eq1, eq4, lt4, eq5] at *
                  simp [isKd]
                  omega
                rw [asS, if_pos y2, if_pos y11, nI_clamp (by omega), nI_clamp (by omega), if_pos hkd] at h
                exact h _ (hr.fnd (by decide)) (FrM.ui (by decide))
          · refine g_iload_n (q := 41) dX7_as_40 rfl rfl ?_
            refine g_iconst (q := 42) (v := nI 4) dX7_as_41 rfl (by decide) ?_
            refine g_icmp_lt (tgt := 55) (q := 45) dX7_as_42 (by decide) rfl (fun c42 => ?_) (fun c42 => ?_)
            · refine g_iconst (q := 56) (v := nI 1) dX7_as_55 rfl (by decide) ?_
              refine g_goto (q := 60) dX7_as_56 (by decide) ?_
              refine g_istore (q := 62) dX7_as_60 rfl (by decide) rfl rfl ?_
              refine g_iload (q := 64) dX7_as_62 rfl rfl ?_
              refine g_if_eq (tgt := 75) (q := 67) dX7_as_64 (by decide) rfl (fun c64 => absurd c64 (by decide)) (fun _ => ?_)
              refine g_aload_n (q := 68) dX7_as_67 rfl rfl ?_
              refine g_iload_n (q := 69) dX7_as_68 rfl rfl ?_
              refine k_X7_75 (q := 72) rfl (Nat.le_of_ble_eq_true rfl) (by first | assumption | rfl) dX7_as_69 rfl (c_X7_well ?_)
              refine g_goto (q := 80) dX7_as_72 (by decide) ?_
              refine g_iret rfl dX7_as_80 (Nat.le_refl _) (Nat.le_refl _) ?_
              have hkd : isKd (vfa (gv S) a 5) q = true := by
                have k5 := (v4 a ha).2.2.2.2.2.2
                have eq0 : nI q = 0 ↔ q = 0 := nI_eq (a := q) (b := 0) (by omega) (by decide)
                have eqi : nI q = nI (vfa (gv S) a 5) ↔ q = vfa (gv S) a 5 := nI_eq (by omega) (by omega)
                have eq1 : nI q = nI 1 ↔ q = 1 := nI_eq (by omega) (by omega)
                have eq4 : nI q = nI 4 ↔ q = 4 := nI_eq (by omega) (by omega)
                have lt4 : nI (vfa (gv S) a 5) < nI 4 ↔ vfa (gv S) a 5 < 4 := nI_ltI (by omega) (by omega)
                have eq5 : nI (vfa (gv S) a 5) = nI 5 ↔ vfa (gv S) a 5 = 5 := nI_eq (by omega) (by omega)
                simp only [eq0, eqi, eq1, eq4, lt4, eq5] at *
                simp [isKd]
                omega
              rw [asS, if_pos y2, if_pos y11, nI_clamp (by omega), nI_clamp (by omega), if_pos hkd] at h
              exact h _ (hr.fnd (by decide)) (FrM.ui (by decide))
            · refine g_iload_n (q := 46) dX7_as_45 rfl rfl ?_
              refine g_iconst (q := 47) (v := nI 4) dX7_as_46 rfl (by decide) ?_
              refine g_icmp_ne (tgt := 59) (q := 50) dX7_as_47 (by decide) rfl (fun c47 => ?_) (fun c47 => ?_)
              · refine g_iconst (q := 60) (v := nI 0) dX7_as_59 rfl (by decide) ?_
                refine g_istore (q := 62) dX7_as_60 rfl (by decide) rfl rfl ?_
                refine g_iload (q := 64) dX7_as_62 rfl rfl ?_
                refine g_if_eq (tgt := 75) (q := 67) dX7_as_64 (by decide) rfl (fun _ => ?_) (fun c64 => absurd c64 (by decide))
                refine g_aload_n (q := 76) dX7_as_75 rfl rfl ?_
                refine g_iconst (q := 77) (v := nI 3) dX7_as_76 rfl (by decide) ?_
                refine k_X7_71 (q := 80) rfl (Nat.le_of_ble_eq_true rfl) (by first | assumption | rfl) dX7_as_77 rfl (c_X7_found ?_)
                refine g_iret rfl dX7_as_80 (Nat.le_refl _) (Nat.le_refl _) ?_
                have hkd : isKd (vfa (gv S) a 5) q = false := by
                  have k5 := (v4 a ha).2.2.2.2.2.2
                  have eq0 : nI q = 0 ↔ q = 0 := nI_eq (a := q) (b := 0) (by omega) (by decide)
                  have eqi : nI q = nI (vfa (gv S) a 5) ↔ q = vfa (gv S) a 5 := nI_eq (by omega) (by omega)
                  have eq1 : nI q = nI 1 ↔ q = 1 := nI_eq (by omega) (by omega)
                  have eq4 : nI q = nI 4 ↔ q = 4 := nI_eq (by omega) (by omega)
                  have lt4 : nI (vfa (gv S) a 5) < nI 4 ↔ vfa (gv S) a 5 < 4 := nI_ltI (by omega) (by omega)
                  have eq5 : nI (vfa (gv S) a 5) = nI 5 ↔ vfa (gv S) a 5 = 5 := nI_eq (by omega) (by omega)
                  simp only [eq0, eqi, eq1, eq4, lt4, eq5] at *
                  simp [isKd]
                  omega
                rw [asS, if_pos y2, if_pos y11, nI_clamp (by omega), nI_clamp (by omega), if_neg (by rw [hkd]; decide)] at h
                exact h _ (hr.fnd (by decide)) (FrM.ui (by decide))
              · refine g_iload_n (q := 51) dX7_as_50 rfl rfl ?_
                refine g_iconst (q := 52) (v := nI 5) dX7_as_51 rfl (by decide) ?_
                refine g_icmp_ne (tgt := 59) (q := 55) dX7_as_52 (by decide) rfl (fun c52 => ?_) (fun c52 => ?_)
                · refine g_iconst (q := 60) (v := nI 0) dX7_as_59 rfl (by decide) ?_
                  refine g_istore (q := 62) dX7_as_60 rfl (by decide) rfl rfl ?_
                  refine g_iload (q := 64) dX7_as_62 rfl rfl ?_
                  refine g_if_eq (tgt := 75) (q := 67) dX7_as_64 (by decide) rfl (fun _ => ?_) (fun c64 => absurd c64 (by decide))
                  refine g_aload_n (q := 76) dX7_as_75 rfl rfl ?_
                  refine g_iconst (q := 77) (v := nI 3) dX7_as_76 rfl (by decide) ?_
                  refine k_X7_71 (q := 80) rfl (Nat.le_of_ble_eq_true rfl) (by first | assumption | rfl) dX7_as_77 rfl (c_X7_found ?_)
                  refine g_iret rfl dX7_as_80 (Nat.le_refl _) (Nat.le_refl _) ?_
                  have hkd : isKd (vfa (gv S) a 5) q = false := by
                    have k5 := (v4 a ha).2.2.2.2.2.2
                    have eq0 : nI q = 0 ↔ q = 0 := nI_eq (a := q) (b := 0) (by omega) (by decide)
                    have eqi : nI q = nI (vfa (gv S) a 5) ↔ q = vfa (gv S) a 5 := nI_eq (by omega) (by omega)
                    have eq1 : nI q = nI 1 ↔ q = 1 := nI_eq (by omega) (by omega)
                    have eq4 : nI q = nI 4 ↔ q = 4 := nI_eq (by omega) (by omega)
                    have lt4 : nI (vfa (gv S) a 5) < nI 4 ↔ vfa (gv S) a 5 < 4 := nI_ltI (by omega) (by omega)
                    have eq5 : nI (vfa (gv S) a 5) = nI 5 ↔ vfa (gv S) a 5 = 5 := nI_eq (by omega) (by omega)
                    simp only [eq0, eqi, eq1, eq4, lt4, eq5] at *
                    simp [isKd]
                    omega
                  rw [asS, if_pos y2, if_pos y11, nI_clamp (by omega), nI_clamp (by omega), if_neg (by rw [hkd]; decide)] at h
                  exact h _ (hr.fnd (by decide)) (FrM.ui (by decide))
                · refine g_iconst (q := 56) (v := nI 1) dX7_as_55 rfl (by decide) ?_
                  refine g_goto (q := 60) dX7_as_56 (by decide) ?_
                  refine g_istore (q := 62) dX7_as_60 rfl (by decide) rfl rfl ?_
                  refine g_iload (q := 64) dX7_as_62 rfl rfl ?_
                  refine g_if_eq (tgt := 75) (q := 67) dX7_as_64 (by decide) rfl (fun c64 => absurd c64 (by decide)) (fun _ => ?_)
                  refine g_aload_n (q := 68) dX7_as_67 rfl rfl ?_
                  refine g_iload_n (q := 69) dX7_as_68 rfl rfl ?_
                  refine k_X7_75 (q := 72) rfl (Nat.le_of_ble_eq_true rfl) (by first | assumption | rfl) dX7_as_69 rfl (c_X7_well ?_)
                  refine g_goto (q := 80) dX7_as_72 (by decide) ?_
                  refine g_iret rfl dX7_as_80 (Nat.le_refl _) (Nat.le_refl _) ?_
                  have hkd : isKd (vfa (gv S) a 5) q = true := by
                    have k5 := (v4 a ha).2.2.2.2.2.2
                    have eq0 : nI q = 0 ↔ q = 0 := nI_eq (a := q) (b := 0) (by omega) (by decide)
                    have eqi : nI q = nI (vfa (gv S) a 5) ↔ q = vfa (gv S) a 5 := nI_eq (by omega) (by omega)
                    have eq1 : nI q = nI 1 ↔ q = 1 := nI_eq (by omega) (by omega)
                    have eq4 : nI q = nI 4 ↔ q = 4 := nI_eq (by omega) (by omega)
                    have lt4 : nI (vfa (gv S) a 5) < nI 4 ↔ vfa (gv S) a 5 < 4 := nI_ltI (by omega) (by omega)
                    have eq5 : nI (vfa (gv S) a 5) = nI 5 ↔ vfa (gv S) a 5 = 5 := nI_eq (by omega) (by omega)
                    simp only [eq0, eqi, eq1, eq4, lt4, eq5] at *
                    simp [isKd]
                    omega
                  rw [asS, if_pos y2, if_pos y11, nI_clamp (by omega), nI_clamp (by omega), if_pos hkd] at h
                  exact h _ (hr.fnd (by decide)) (FrM.ui (by decide))
    · refine g_if_ne (tgt := 20) (q := 17) dX7_as_14 (by decide) rfl (fun c14 => absurd c14 (by decide)) (fun _ => ?_)
      refine lc_X7_70 (q := 19) rfl dX7_as_17 rfl ?_
      refine g_iret rfl dX7_as_19 (Nat.le_refl _) (Nat.le_refl _) ?_
      rw [asS, if_pos z2, if_neg z11] at h
      exact h I hr FrM.rf
  · refine g_if_eq (tgt := 17) (q := 8) dX7_as_5 (by decide) rfl (fun _ => ?_) (fun c5 => absurd c5 (by decide))
    refine lc_X7_70 (q := 19) rfl dX7_as_17 rfl ?_
    refine g_iret rfl dX7_as_19 (Nat.le_refl _) (Nat.le_refl _) ?_
    rw [asS, if_neg z2] at h
    exact h I hr FrM.rf
