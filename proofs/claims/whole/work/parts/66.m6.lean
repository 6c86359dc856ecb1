set_option maxRecDepth 100000 in
set_option maxHeartbeats 400000 in
theorem c_X7_ahead {d k : Nat} {I : Nat → Nat → Int32} {Q : Option Int32 → Wd → Prop} {S : Sg} {m a : Int32} (hr : RepM I S) (h : ∀ I2, RepM I2 (aheadS S m a).2 → FrM I I2 → Q (some (aheadS S m a).1) (I2, RR k)) : Ex (d + 3) 0 0 mX7_ahead [.ref 52, .int m, .int a] 68 (I, RR k) 68 Q := by
  have hVg : VOk (gv S) := hr.2.2.2.2.1.2
  have hMg : MRep I 58 0 (gv S) := hr.2.2.2.2.1.1
  obtain ⟨v1, v2, v3, v4⟩ := id hVg

  refine ex_intro (L0 := [.ref 52, .int m, .int a]) (by decide +kernel) rfl rfl (Nat.le_of_ble_eq_true rfl) rfl ?_
  refine g_aload_n (q := 1) dX7_ahead_0 rfl rfl ?_
  refine g_iload_n (q := 2) dX7_ahead_1 rfl rfl ?_
  refine k_X7_242 (q := 5) rfl (Nat.le_of_ble_eq_true rfl) (by first | assumption | rfl) dX7_ahead_2 rfl (c_X7_isMethod hMg (fun z2 => ?_) (fun z2 => ?_))
  · refine g_if_eq (tgt := 28) (q := 8) dX7_ahead_5 (by decide) rfl (fun c5 => absurd c5 (by decide)) (fun _ => ?_)
    refine g_aload_n (q := 9) dX7_ahead_8 rfl rfl ?_
    refine g_iload_n (q := 10) dX7_ahead_9 rfl rfl ?_
    refine k_X7_232 (q := 13) rfl (Nat.le_of_ble_eq_true rfl) (by first | assumption | rfl) dX7_ahead_10 rfl (c_X7_isAdvice hMg (fun z10 => ?_) (fun z10 => ?_))
    · refine g_if_eq (tgt := 28) (q := 16) dX7_ahead_13 (by decide) rfl (fun c13 => absurd c13 (by decide)) (fun _ => ?_)
      have y2 := z2
      obtain ⟨m, hm, rfl⟩ := in1_nat (by omega) z2
      have y10 := z10
      obtain ⟨a, ha, rfl⟩ := in1_nat (by omega) z10
      refine g_aload_n (q := 17) dX7_ahead_16 rfl rfl ?_
      refine gf_X7_25 (q := 20) rfl (by first | assumption | rfl) (by first | assumption | rfl) dX7_ahead_17 rfl ?_
      refine g_iload_n (q := 21) dX7_ahead_20 rfl rfl ?_
      refine g_iload_n (q := 22) dX7_ahead_21 rfl rfl ?_
      refine k_X7_196 (q := 25) rfl (Nat.le_of_ble_eq_true rfl) dX7_ahead_22 rfl (c_X7_aheadOf rfl hMg hVg (by assumption) (by assumption) ?_)
      refine g_goto (q := 30) dX7_ahead_25 (by decide) ?_
      refine g_iret rfl dX7_ahead_30 (Nat.le_refl _) (Nat.le_refl _) ?_
      rw [aheadS, if_pos y2, if_pos y10, nI_clamp (by omega), nI_clamp (by omega)] at h
      exact h I hr FrM.rf
    · refine g_if_eq (tgt := 28) (q := 16) dX7_ahead_13 (by decide) rfl (fun _ => ?_) (fun c13 => absurd c13 (by decide))
      refine lc_X7_70 (q := 30) rfl dX7_ahead_28 rfl ?_
      refine g_iret rfl dX7_ahead_30 (Nat.le_refl _) (Nat.le_refl _) ?_
      rw [aheadS, if_pos z2, if_neg z10] at h
      exact h I hr FrM.rf
  · refine g_if_eq (tgt := 28) (q := 8) dX7_ahead_5 (by decide) rfl (fun _ => ?_) (fun c5 => absurd c5 (by decide))
    refine lc_X7_70 (q := 30) rfl dX7_ahead_28 rfl ?_
    refine g_iret rfl dX7_ahead_30 (Nat.le_refl _) (Nat.le_refl _) ?_
    rw [aheadS, if_neg z2] at h
    exact h I hr FrM.rf
theorem div20 : ∀ x, x < 100 → nI x / nI 20 = nI (x / 20) := by decide +kernel
theorem w_lt {w : Int32} {n m : Nat} (hn : n ≤ m) (hm : m < 1000) (h : ¬ nI n ≤ w) : ¬ nI m ≤ w := fun z => h (Int32.le_trans (nI_le hn (by omega)) z)
theorem w_ne {w : Int32} {n m : Nat} (hn : m < n) (hm : n < 1000) (h : nI n ≤ w) : ¬ w = nI m := fun z => by
  rw [z] at h
  exact nI_ge hn (by omega) h

theorem nI_0z : nI 0 = 0 := rfl
set_option maxRecDepth 100000 in
set_option maxHeartbeats 400000 in
theorem c_X7_method {d k : Nat} {I : Nat → Nat → Int32} {Q : Option Int32 → Wd → Prop} {S : Sg} {m w : Int32} (hr : RepM I S) (h : ∀ I2, RepM I2 (methodS S m w).2 → FrM I I2 → Q (some (methodS S m w).1) (I2, RR k)) : Ex (d + 2) 0 0 mX7_method [.ref 52, .int m, .int w] 68 (I, RR k) 68 Q := by
  have hVg : VOk (gv S) := hr.2.2.2.2.1.2
  have hMg : MRep I 58 0 (gv S) := hr.2.2.2.2.1.1
  obtain ⟨v1, v2, v3, v4⟩ := id hVg

  refine ex_intro (L0 := [.ref 52, .int m, .int w, .null, .null]) (by decide +kernel) rfl rfl (Nat.le_of_ble_eq_true rfl) rfl ?_
  refine g_aload_n (q := 1) dX7_method_0 rfl rfl ?_
  refine g_iload_n (q := 2) dX7_method_1 rfl rfl ?_
  refine k_X7_242 (q := 5) rfl (Nat.le_of_ble_eq_true rfl) (by first | assumption | rfl) dX7_method_2 rfl (c_X7_isMethod hMg (fun z2 => ?_) (fun z2 => ?_))
  · refine g_if_ne (tgt := 11) (q := 8) dX7_method_5 (by decide) rfl (fun _ => ?_) (fun c5 => absurd c5 (by decide))
    have y2 := z2
    obtain ⟨m, hm, rfl⟩ := in1_nat (by omega) z2
    have hl4 := (v3 m hm).2.1
    refine g_iconst (q := 12) (v := nI 2) dX7_method_11 rfl (by decide) ?_
    refine g_bipush (q := 14) (v := nI 10) dX7_method_12 rfl (by decide) ?_
    refine g_iload_n (q := 15) dX7_method_14 rfl rfl ?_
    refine g_imul (q := 16) dX7_method_15 rfl ?_
    refine g_iadd (q := 17) dX7_method_16 rfl ?_
    rw [show nI 2 + nI 10 * nI m = nI (2 + 10 * m) from nI_a rfl (nI_m rfl rfl)]
    refine g_istore_n (q := 18) dX7_method_17 rfl (by decide) rfl rfl ?_
    refine g_iload_n (q := 19) dX7_method_18 rfl rfl ?_
    refine g_iconst (q := 20) (v := nI 3) dX7_method_19 rfl (by decide) ?_
    refine g_icmp_ge (tgt := 62) (q := 23) dX7_method_20 (by decide) rfl (fun c20 => ?_) (fun c20 => ?_)
    · refine g_iload_n (q := 63) dX7_method_62 rfl rfl ?_
      refine g_bipush (q := 65) (v := nI 10) dX7_method_63 rfl (by decide) ?_
      refine g_bipush (q := 67) (v := nI 13) dX7_method_65 rfl (by decide) ?_
      refine k_X7_62 (q := 70) rfl (Nat.le_of_ble_eq_true rfl) dX7_method_67 rfl (c_X7_in (fun z671 z672 => ?_) (fun z67 => ?_))
      · have z67 := And.intro z671 z672
        refine g_if_ne (tgt := 87) (q := 73) dX7_method_70 (by decide) rfl (fun _ => ?_) (fun c70 => absurd c70 (by decide))
        have y67 := z67
        obtain ⟨w, hw, rfl⟩ := inR_nat (by decide) ⟨Int32.le_trans (by decide) z67.1, z67.2⟩
        have hw1 : 10 ≤ w := (nI_leI (by omega) (by omega)).mp y67.1
        have e9 : w % 10 = w - 10 := by omega
        refine g_iload_n (q := 88) dX7_method_87 rfl rfl ?_
        refine g_bipush (q := 90) (v := nI 10) dX7_method_88 rfl (by decide) ?_
        refine g_irem (q := 91) dX7_method_90 rfl (by decide) ?_
        rw [rem10 w (by omega)]
        refine g_istore (q := 93) dX7_method_91 rfl (by decide) rfl rfl ?_
        refine g_iload (q := 95) dX7_method_93 rfl rfl ?_
        refine g_aload_n (q := 96) dX7_method_95 rfl rfl ?_
        refine gf_X7_25 (q := 99) rfl (by first | assumption | rfl) (by first | assumption | rfl) dX7_method_96 rfl ?_
        refine g_iload_n (q := 100) dX7_method_99 rfl rfl ?_
        refine g_iconst (q := 101) (v := nI 1) dX7_method_100 rfl (by decide) ?_
        refine g_iadd (q := 102) dX7_method_101 rfl ?_
        refine g_ialdn (q := 103) (by first | assumption | rfl) (by repeat' first | apply nI_a | apply nI_m | exact rfl) (by omega) dX7_method_102 rfl ?_
        rw [hMg.ln hm]
        refine g_icmp_ge (tgt := 127) (q := 106) dX7_method_103 (by decide) rfl (fun c103 => ?_) (fun c103 => ?_)
        · refine lc_X7_56 (q := 129) rfl dX7_method_127 rfl ?_
          refine g_iret rfl dX7_method_129 (Nat.le_refl _) (Nat.le_refl _) ?_
          rw [methodS, if_pos y2, nI_clamp (by omega), if_neg (show ¬ _ = (0 : Int32) from w_ne (n := 3) (m := 0) (by decide) (by decide) c20), if_neg (w_ne (n := 3) (by decide) (by decide) c20), if_neg (w_ne (n := 3) (by decide) (by decide) c20), if_pos y67, nI_clamp (by omega), if_neg (by have := (nI_leI (by omega) (by omega)).mp c103; omega)] at h
          exact h I hr FrM.rf
        · refine g_aload_n (q := 107) dX7_method_106 rfl rfl ?_
          refine gf_X7_25 (q := 110) rfl (by first | assumption | rfl) (by first | assumption | rfl) dX7_method_107 rfl ?_
          refine g_iload_n (q := 111) dX7_method_110 rfl rfl ?_
          refine g_iconst (q := 112) (v := nI 2) dX7_method_111 rfl (by decide) ?_
          refine g_iadd (q := 113) dX7_method_112 rfl ?_
          refine g_iconst (q := 114) (v := nI 2) dX7_method_113 rfl (by decide) ?_
          refine g_iload (q := 116) dX7_method_114 rfl rfl ?_
          refine g_imul (q := 117) dX7_method_116 rfl ?_
          refine g_iadd (q := 118) dX7_method_117 rfl ?_
          refine g_iload_n (q := 119) dX7_method_118 rfl rfl ?_
          refine g_bipush (q := 121) (v := nI 20) dX7_method_119 rfl (by decide) ?_
          refine g_idiv (q := 122) dX7_method_121 rfl (by decide) ?_
          rw [div20 w (by omega)]
          refine g_iadd (q := 123) dX7_method_122 rfl ?_
          refine g_ialdn (q := 124) (by first | assumption | rfl) (by repeat' first | apply nI_a | apply nI_m | exact rfl) (by omega) dX7_method_123 rfl ?_
          have hi : w - 10 < vln (gv S) m := by
            have : ¬ vln (gv S) m ≤ w % 10 := fun z => c103 (nI_le z (by omega))
            omega
          have e0 : 2 + 10 * m + 2 + 2 * (w % 10) + w / 20 = 2 + 10 * m + 2 + 2 * (w - 10) := by omega
          rw [e0, hMg.so hm hi]
          refine g_goto (q := 129) dX7_method_124 (by decide) ?_
          refine g_iret rfl dX7_method_129 (Nat.le_refl _) (Nat.le_refl _) ?_
          rw [methodS, if_pos y2, nI_clamp (by omega), if_neg (show ¬ _ = (0 : Int32) from w_ne (n := 3) (m := 0) (by decide) (by decide) c20), if_neg (w_ne (n := 3) (by decide) (by decide) c20), if_neg (w_ne (n := 3) (by decide) (by decide) c20), if_pos y67, nI_clamp (by omega), if_pos (by omega)] at h
          exact h I hr FrM.rf
      · refine g_if_ne (tgt := 87) (q := 73) dX7_method_70 (by decide) rfl (fun c70 => absurd c70 (by decide)) (fun _ => ?_)
        refine g_iload_n (q := 74) dX7_method_73 rfl rfl ?_
        refine g_bipush (q := 76) (v := nI 20) dX7_method_74 rfl (by decide) ?_
        refine g_bipush (q := 78) (v := nI 23) dX7_method_76 rfl (by decide) ?_
        refine k_X7_62 (q := 81) rfl (Nat.le_of_ble_eq_true rfl) dX7_method_78 rfl (c_X7_in (fun z781 z782 => ?_) (fun z78 => ?_))
        · have z78 := And.intro z781 z782
          refine g_if_ne (tgt := 87) (q := 84) dX7_method_81 (by decide) rfl (fun _ => ?_) (fun c81 => absurd c81 (by decide))
          have y67 := z67
          have y78 := z78
          obtain ⟨w, hw, rfl⟩ := inR_nat (by decide) ⟨Int32.le_trans (by decide) z78.1, z78.2⟩
          have hw1 : 20 ≤ w := (nI_leI (by omega) (by omega)).mp y78.1
          have e9 : w % 10 = w - 20 := by omega
          refine g_iload_n (q := 88) dX7_method_87 rfl rfl ?_
          refine g_bipush (q := 90) (v := nI 10) dX7_method_88 rfl (by decide) ?_
          refine g_irem (q := 91) dX7_method_90 rfl (by decide) ?_
          rw [rem10 w (by omega)]
          refine g_istore (q := 93) dX7_method_91 rfl (by decide) rfl rfl ?_
          refine g_iload (q := 95) dX7_method_93 rfl rfl ?_
          refine g_aload_n (q := 96) dX7_method_95 rfl rfl ?_
          refine gf_X7_25 (q := 99) rfl (by first | assumption | rfl) (by first | assumption | rfl) dX7_method_96 rfl ?_
          refine g_iload_n (q := 100) dX7_method_99 rfl rfl ?_
          refine g_iconst (q := 101) (v := nI 1) dX7_method_100 rfl (by decide) ?_
          refine g_iadd (q := 102) dX7_method_101 rfl ?_
          refine g_ialdn (q := 103) (by first | assumption | rfl) (by repeat' first | apply nI_a | apply nI_m | exact rfl) (by omega) dX7_method_102 rfl ?_
          rw [hMg.ln hm]
          refine g_icmp_ge (tgt := 127) (q := 106) dX7_method_103 (by decide) rfl (fun c103 => ?_) (fun c103 => ?_)
          · refine lc_X7_56 (q := 129) rfl dX7_method_127 rfl ?_
            refine g_iret rfl dX7_method_129 (Nat.le_refl _) (Nat.le_refl _) ?_
            rw [methodS, if_pos y2, nI_clamp (by omega), if_neg (show ¬ _ = (0 : Int32) from w_ne (n := 3) (m := 0) (by decide) (by decide) c20), if_neg (w_ne (n := 3) (by decide) (by decide) c20), if_neg (w_ne (n := 3) (by decide) (by decide) c20), if_neg y67, if_pos y78, nI_clamp (by omega), if_neg (by have := (nI_leI (by omega) (by omega)).mp c103; omega)] at h
            exact h I hr FrM.rf
          · refine g_aload_n (q := 107) dX7_method_106 rfl rfl ?_
            refine gf_X7_25 (q := 110) rfl (by first | assumption | rfl) (by first | assumption | rfl) dX7_method_107 rfl ?_
            refine g_iload_n (q := 111) dX7_method_110 rfl rfl ?_
            refine g_iconst (q := 112) (v := nI 2) dX7_method_111 rfl (by decide) ?_
            refine g_iadd (q := 113) dX7_method_112 rfl ?_
            refine g_iconst (q := 114) (v := nI 2) dX7_method_113 rfl (by decide) ?_
            refine g_iload (q := 116) dX7_method_114 rfl rfl ?_
            refine g_imul (q := 117) dX7_method_116 rfl ?_
            refine g_iadd (q := 118) dX7_method_117 rfl ?_
            refine g_iload_n (q := 119) dX7_method_118 rfl rfl ?_
            refine g_bipush (q := 121) (v := nI 20) dX7_method_119 rfl (by decide) ?_
            refine g_idiv (q := 122) dX7_method_121 rfl (by decide) ?_
            rw [div20 w (by omega)]
            refine g_iadd (q := 123) dX7_method_122 rfl ?_
            refine g_ialdn (q := 124) (by first | assumption | rfl) (by repeat' first | apply nI_a | apply nI_m | exact rfl) (by omega) dX7_method_123 rfl ?_
            have hi : w - 20 < vln (gv S) m := by
              have : ¬ vln (gv S) m ≤ w % 10 := fun z => c103 (nI_le z (by omega))
              omega
            have e0 : 2 + 10 * m + 2 + 2 * (w % 10) + w / 20 = 2 + 10 * m + 2 + 2 * (w - 20) + 1 := by omega
            rw [e0, hMg.op hm hi]
            refine g_goto (q := 129) dX7_method_124 (by decide) ?_
            refine g_iret rfl dX7_method_129 (Nat.le_refl _) (Nat.le_refl _) ?_
            rw [methodS, if_pos y2, nI_clamp (by omega), if_neg (show ¬ _ = (0 : Int32) from w_ne (n := 3) (m := 0) (by decide) (by decide) c20), if_neg (w_ne (n := 3) (by decide) (by decide) c20), if_neg (w_ne (n := 3) (by decide) (by decide) c20), if_neg y67, if_pos y78, nI_clamp (by omega), if_pos (by omega)] at h
            exact h I hr FrM.rf
        · refine g_if_ne (tgt := 87) (q := 84) dX7_method_81 (by decide) rfl (fun c81 => absurd c81 (by decide)) (fun _ => ?_)
          refine lc_X7_70 (q := 86) rfl dX7_method_84 rfl ?_
          refine g_iret rfl dX7_method_86 (Nat.le_refl _) (Nat.le_refl _) ?_
          rw [methodS, if_pos y2, nI_clamp (by omega), if_neg (show ¬ _ = (0 : Int32) from w_ne (n := 3) (m := 0) (by decide) (by decide) c20), if_neg (w_ne (n := 3) (by decide) (by decide) c20), if_neg (w_ne (n := 3) (by decide) (by decide) c20), if_neg z67, if_neg z78] at h
          exact h I hr FrM.rf
    · refine g_iload_n (q := 24) dX7_method_23 rfl rfl ?_
      refine g_if_eq (tgt := 32) (q := 27) dX7_method_24 (by decide) rfl (fun c24 => ?_) (fun c24 => ?_)
      · subst c24
        refine g_aload_n (q := 33) dX7_method_32 rfl rfl ?_
        refine gf_X7_25 (q := 36) rfl (by first | assumption | rfl) (by first | assumption | rfl) dX7_method_33 rfl ?_
        refine g_iload_n (q := 37) dX7_method_36 rfl rfl ?_
        refine g_iload_n (q := 38) dX7_method_37 rfl rfl ?_
        refine g_iadd (q := 39) dX7_method_38 rfl ?_
        refine g_ialdn (q := 40) rfl (c := 2 + 10 * m) (by exact Int32.add_zero _) (by omega) dX7_method_39 rfl ?_
        rw [hMg.cl hm]
        refine g_goto (q := 61) dX7_method_40 (by decide) ?_
        refine g_iret rfl dX7_method_61 (Nat.le_refl _) (Nat.le_refl _) ?_
        rw [methodS, if_pos y2, nI_clamp (by omega), if_pos rfl] at h
        exact h I hr FrM.rf
      · refine g_iload_n (q := 28) dX7_method_27 rfl rfl ?_
        refine g_iconst (q := 29) (v := nI 1) dX7_method_28 rfl (by decide) ?_
        refine g_icmp_ne (tgt := 43) (q := 32) dX7_method_29 (by decide) rfl (fun c29 => ?_) (fun c29 => ?_)
        · refine g_iload_n (q := 44) dX7_method_43 rfl rfl ?_
          refine g_iconst (q := 45) (v := nI 2) dX7_method_44 rfl (by decide) ?_
          refine g_icmp_ne (tgt := 59) (q := 48) dX7_method_45 (by decide) rfl (fun c45 => ?_) (fun c45 => ?_)
          · refine lc_X7_70 (q := 61) rfl dX7_method_59 rfl ?_
            refine g_iret rfl dX7_method_61 (Nat.le_refl _) (Nat.le_refl _) ?_
            rw [methodS, if_pos y2, nI_clamp (by omega), if_neg c24, if_neg c29, if_neg c45, if_neg (fun z => w_lt (by decide) (by decide) c20 z.1), if_neg (fun z => w_lt (by decide) (by decide) c20 z.1)] at h
            exact h I hr FrM.rf
          · refine g_aload_n (q := 49) dX7_method_48 rfl rfl ?_
            refine gf_X7_25 (q := 52) rfl (by first | assumption | rfl) (by first | assumption | rfl) dX7_method_49 rfl ?_
            refine g_iload_n (q := 53) dX7_method_52 rfl rfl ?_
            refine k_X7_169 (q := 56) rfl (Nat.le_of_ble_eq_true rfl) dX7_method_53 rfl (c_X7_reachedOf rfl hMg hVg (by assumption) ?_)
            refine g_goto (q := 61) dX7_method_56 (by decide) ?_
            refine g_iret rfl dX7_method_61 (Nat.le_refl _) (Nat.le_refl _) ?_
            rw [methodS, if_pos y2, nI_clamp (by omega), if_neg c24, if_neg c29, if_pos c45] at h
            exact h I hr FrM.rf
        · subst c29
          refine g_aload_n (q := 33) dX7_method_32 rfl rfl ?_
          refine gf_X7_25 (q := 36) rfl (by first | assumption | rfl) (by first | assumption | rfl) dX7_method_33 rfl ?_
          refine g_iload_n (q := 37) dX7_method_36 rfl rfl ?_
          refine g_iload_n (q := 38) dX7_method_37 rfl rfl ?_
          refine g_iadd (q := 39) dX7_method_38 rfl ?_
          refine g_ialdn (q := 40) (by first | assumption | rfl) (by repeat' first | apply nI_a | apply nI_m | exact rfl) (by omega) dX7_method_39 rfl ?_
          rw [hMg.ln hm]
          refine g_goto (q := 61) dX7_method_40 (by decide) ?_
          refine g_iret rfl dX7_method_61 (Nat.le_refl _) (Nat.le_refl _) ?_
          rw [methodS, if_pos y2, nI_clamp (by omega), if_neg c24, if_pos rfl] at h
          exact h I hr FrM.rf
  · refine g_if_ne (tgt := 11) (q := 8) dX7_method_5 (by decide) rfl (fun c5 => absurd c5 (by decide)) (fun _ => ?_)
    refine lc_X7_70 (q := 10) rfl dX7_method_8 rfl ?_
    refine g_iret rfl dX7_method_10 (Nat.le_refl _) (Nat.le_refl _) ?_
    rw [methodS, if_neg z2] at h
    exact h I hr FrM.rf
theorem cnt_le {w : Int32} (h0 : ¬ w = 0) (h1 : ¬ w = nI 1) (h2 : ¬ w = nI 2) (h3 : ¬ w = nI 3) (h4 : ¬ w = nI 4) (h5 : ¬ w = nI 5) : w.toInt < 0 ∨ (5 : Int) < w.toInt := sw_out (n := 5) (by decide) (fun j hj => by
  have : j = 0 ∨ j = 1 ∨ j = 2 ∨ j = 3 ∨ j = 4 ∨ j = 5 := by omega
  rcases this with rfl | rfl | rfl | rfl | rfl | rfl <;> assumption)

set_option maxRecDepth 100000 in
set_option maxHeartbeats 400000 in
theorem c_X7_count {d k : Nat} {I : Nat → Nat → Int32} {Q : Option Int32 → Wd → Prop} {S : Sg} {w : Int32} (hr : RepM I S) (h : ∀ I2, RepM I2 (countS S w).2 → FrM I I2 → Q (some (countS S w).1) (I2, RR k)) : Ex (d + 1) 0 0 mX7_count [.ref 52, .int w] 68 (I, RR k) 68 Q := by
  have hVg : VOk (gv S) := hr.2.2.2.2.1.2
  have hMg : MRep I 58 0 (gv S) := hr.2.2.2.2.1.1
  obtain ⟨v1, v2, v3, v4⟩ := id hVg
  obtain ⟨a1, a2, a3⟩ := id hr.2.2.2.2.2.1
  obtain ⟨t1, t2, t3⟩ := id hr.2.2.1
  refine ex_intro (L0 := [.ref 52, .int w, .null, .null]) (by decide +kernel) rfl rfl (Nat.le_of_ble_eq_true rfl) rfl ?_
  refine g_iconst (q := 1) (v := nI 0) dX7_count_0 rfl (by decide) ?_
  refine g_istore_n (q := 2) dX7_count_1 rfl (by decide) rfl rfl ?_
  refine g_iload_n (q := 3) dX7_count_2 rfl rfl ?_
  by_cases e0 : w = 0
  · refine g_tabIn (q := 0) (tgt := 40) (off := 37) dX7_count_3 (by rw [e0]; decide) (by rw [e0]; decide) (by rw [e0]; decide) (by decide) ?_
    refine g_iconst (q := 41) (v := nI 0) dX7_count_40 rfl (by decide) ?_
    refine g_istore_n (q := 42) dX7_count_41 rfl (by decide) rfl rfl ?_
    suffices hl : ∀ (t i : Nat), i + t = 8 → G mX7_count (rmd (d + 1) 0 0) (Zm Q 68 68 0 0) 68 42 [.ref 52, .int w, .int (nI (smN i (fun r => if (S.1 r).isNone = true then 0 else 1))), .int (nI i)] [] 68 (I, RR k) 0 0 from hl 8 0 rfl
    intro t
    induction t with
    | zero =>
      intro i hi
      have hi : i = 8 := by omega
      subst hi
      refine g_iload_n (q := 43) dX7_count_42 rfl rfl ?_
      refine g_bipush (q := 45) (v := nI 8) dX7_count_43 rfl (by decide) ?_
      refine g_icmp_ge (tgt := 70) (q := 48) dX7_count_45 (by decide) rfl (fun _ => ?_) (fun c45 => absurd (Int32.le_refl _) c45)
      refine g_iload_n (q := 71) dX7_count_70 rfl rfl ?_
      refine g_iret rfl dX7_count_71 (Nat.le_refl _) (Nat.le_refl _) ?_
      rw [countS, if_pos e0] at h
      exact h I hr FrM.rf
    | succ t ih =>
      intro i hi
      refine g_iload_n (q := 43) dX7_count_42 rfl rfl ?_
      refine g_bipush (q := 45) (v := nI 8) dX7_count_43 rfl (by decide) ?_
      refine g_icmp_ge (tgt := 70) (q := 48) dX7_count_45 (by decide) rfl (fun c45 => absurd c45 (nI_ge (by omega) (by omega))) (fun _ => ?_)
      refine g_iload_n (q := 49) dX7_count_48 rfl rfl ?_
      refine g_aload_n (q := 50) dX7_count_49 rfl rfl ?_
      refine g_iload_n (q := 51) dX7_count_50 rfl rfl ?_
      refine k_X7_78 (q := 54) rfl (Nat.le_of_ble_eq_true rfl) (by first | assumption | rfl) dX7_count_51 rfl (c_X7_isMissing (by omega) (fun z51 => ?_) (fun z51 => ?_))
      · have qni : S.1 i = none := (hr.1 i (by omega)).elim (fun w => w.1) (fun ⟨l, z, it, w1, e1, e2, hl, hz, hit⟩ => absurd (e1.symm.trans z51) (nI_none (by omega)))
        refine g_if_eq (tgt := 61) (q := 57) dX7_count_54 (by decide) rfl (fun c54 => absurd c54 (by decide)) (fun _ => ?_)
        refine g_iconst (q := 58) (v := nI 0) dX7_count_57 rfl (by decide) ?_
        refine g_goto (q := 62) dX7_count_58 (by decide) ?_
        refine g_iadd (q := 63) dX7_count_62 rfl ?_
        first | (have e : smN (i + 1) (fun r => if (S.1 r).isNone = true then 0 else 1) = smN i (fun r => if (S.1 r).isNone = true then 0 else 1) := by (simp only [smN, qni]; rfl)); rw [nI_add, show smN i (fun r => if (S.1 r).isNone = true then 0 else 1) + 0 = smN (i + 1) (fun r => if (S.1 r).isNone = true then 0 else 1) from e.symm] | (have e : smN (i + 1) (fun r => if (S.1 r).isNone = true then 0 else 1) = smN i (fun r => if (S.1 r).isNone = true then 0 else 1) + 1 := by (simp only [smN, qi]; rfl)); rw [nI_add, ← e]
        refine g_istore_n (q := 64) dX7_count_63 rfl (by decide) rfl rfl ?_
        refine g_iincn (q := 67) dX7_count_64 rfl rfl (by decide) rfl rfl ?_
        refine g_goto (q := 42) dX7_count_67 (by decide) ?_
        exact ih (i + 1) (by omega)
      · obtain ⟨li, zi, iti, qi, e1i, e2i, hli, hzi, hiti⟩ : ∃ l z it, S.1 i = some (l, z, it) ∧ I 53 i = nI l ∧ I 54 i = nI z ∧ l < 3 ∧ z ≤ 40 ∧ ∀ j, j < z → I 55 (40 * i + j) = it j := (hr.1 i (by omega)).elim (fun w => absurd w.2 z51) id
        refine g_if_eq (tgt := 61) (q := 57) dX7_count_54 (by decide) rfl (fun _ => ?_) (fun c54 => absurd c54 (by decide))
        refine g_iconst (q := 62) (v := nI 1) dX7_count_61 rfl (by decide) ?_
        refine g_iadd (q := 63) dX7_count_62 rfl ?_
        first | (have e : smN (i + 1) (fun r => if (S.1 r).isNone = true then 0 else 1) = smN i (fun r => if (S.1 r).isNone = true then 0 else 1) := by (simp only [smN, qni]; rfl)); rw [nI_add, show smN i (fun r => if (S.1 r).isNone = true then 0 else 1) + 0 = smN (i + 1) (fun r => if (S.1 r).isNone = true then 0 else 1) from e.symm] | (have e : smN (i + 1) (fun r => if (S.1 r).isNone = true then 0 else 1) = smN i (fun r => if (S.1 r).isNone = true then 0 else 1) + 1 := by (simp only [smN, qi]; rfl)); rw [nI_add, ← e]
        refine g_istore_n (q := 64) dX7_count_63 rfl (by decide) rfl rfl ?_
        refine g_iincn (q := 67) dX7_count_64 rfl rfl (by decide) rfl rfl ?_
        refine g_goto (q := 42) dX7_count_67 (by decide) ?_
        exact ih (i + 1) (by omega)
  · by_cases e1 : w = nI 1
    · refine g_tabIn (q := 0) (tgt := 72) (off := 69) dX7_count_3 (by rw [e1]; decide) (by rw [e1]; decide) (by rw [e1]; decide) (by decide) ?_
      refine g_aload_n (q := 73) dX7_count_72 rfl rfl ?_
      refine gf_X7_25 (q := 76) rfl (by first | assumption | rfl) (by first | assumption | rfl) dX7_count_73 rfl ?_
      refine g_iconst (q := 77) (v := nI 0) dX7_count_76 rfl (by decide) ?_
      refine g_ialdn (q := 78) (by first | assumption | rfl) (by repeat' first | apply nI_a | apply nI_m | exact rfl) (by omega) dX7_count_77 rfl ?_
      rw [hMg.nm]
      refine g_iret rfl dX7_count_78 (Nat.le_refl _) (Nat.le_refl _) ?_
      rw [countS, if_neg e0, if_pos e1] at h
      exact h I hr FrM.rf
    · by_cases e2 : w = nI 2
      · refine g_tabIn (q := 0) (tgt := 79) (off := 76) dX7_count_3 (by rw [e2]; decide) (by rw [e2]; decide) (by rw [e2]; decide) (by decide) ?_
        refine g_aload_n (q := 80) dX7_count_79 rfl rfl ?_
        refine gf_X7_25 (q := 83) rfl (by first | assumption | rfl) (by first | assumption | rfl) dX7_count_80 rfl ?_
        refine g_iconst (q := 84) (v := nI 1) dX7_count_83 rfl (by decide) ?_
        refine g_ialdn (q := 85) (by first | assumption | rfl) (by repeat' first | apply nI_a | apply nI_m | exact rfl) (by omega) dX7_count_84 rfl ?_
        rw [hMg.na]
        refine g_iret rfl dX7_count_85 (Nat.le_refl _) (Nat.le_refl _) ?_
        rw [countS, if_neg e0, if_neg e1, if_pos e2] at h
        exact h I hr FrM.rf
      · by_cases e3 : w = nI 3
        · refine g_tabIn (q := 0) (tgt := 86) (off := 83) dX7_count_3 (by rw [e3]; decide) (by rw [e3]; decide) (by rw [e3]; decide) (by decide) ?_
          refine g_iconst (q := 87) (v := nI 0) dX7_count_86 rfl (by decide) ?_
          refine g_istore_n (q := 88) dX7_count_87 rfl (by decide) rfl rfl ?_
          suffices hl : ∀ (t i : Nat), i + t = vnm (gv S) → G mX7_count (rmd (d + 1) 0 0) (Zm Q 68 68 0 0) 68 88 [.ref 52, .int w, .int (nI (smN i (vln (gv S)))), .int (nI i)] [] 68 (I, RR k) 0 0 from hl (vnm (gv S)) 0 (Nat.zero_add _)
          intro t
          induction t with
          | zero =>
            intro i hi
            have hi : i = vnm (gv S) := by omega
            subst hi
            refine g_iload_n (q := 89) dX7_count_88 rfl rfl ?_
            refine g_aload_n (q := 90) dX7_count_89 rfl rfl ?_
            refine gf_X7_25 (q := 93) rfl (by first | assumption | rfl) (by first | assumption | rfl) dX7_count_90 rfl ?_
            refine g_iconst (q := 94) (v := nI 0) dX7_count_93 rfl (by decide) ?_
            refine g_ialdn (q := 95) (by first | assumption | rfl) (by repeat' first | apply nI_a | apply nI_m | exact rfl) (by omega) dX7_count_94 rfl ?_
            rw [hMg.nm]
            refine g_icmp_ge (tgt := 120) (q := 98) dX7_count_95 (by decide) rfl (fun _ => ?_) (fun c95 => absurd (Int32.le_refl _) c95)
            refine g_iload_n (q := 121) dX7_count_120 rfl rfl ?_
            refine g_iret rfl dX7_count_121 (Nat.le_refl _) (Nat.le_refl _) ?_
            rw [countS, if_neg e0, if_neg e1, if_neg e2, if_pos e3] at h
            exact h I hr FrM.rf
          | succ t ih =>
            intro i hi
            have him : i < vnm (gv S) := by omega
            refine g_iload_n (q := 89) dX7_count_88 rfl rfl ?_
            refine g_aload_n (q := 90) dX7_count_89 rfl rfl ?_
            refine gf_X7_25 (q := 93) rfl (by first | assumption | rfl) (by first | assumption | rfl) dX7_count_90 rfl ?_
            refine g_iconst (q := 94) (v := nI 0) dX7_count_93 rfl (by decide) ?_
            refine g_ialdn (q := 95) (by first | assumption | rfl) (by repeat' first | apply nI_a | apply nI_m | exact rfl) (by omega) dX7_count_94 rfl ?_
            rw [hMg.nm]
            refine g_icmp_ge (tgt := 120) (q := 98) dX7_count_95 (by decide) rfl (fun c95 => absurd c95 (nI_ge (by omega) (by omega))) (fun _ => ?_)
            refine g_iload_n (q := 99) dX7_count_98 rfl rfl ?_
            refine g_aload_n (q := 100) dX7_count_99 rfl rfl ?_
            refine gf_X7_25 (q := 103) rfl (by first | assumption | rfl) (by first | assumption | rfl) dX7_count_100 rfl ?_
            refine g_iconst (q := 104) (v := nI 2) dX7_count_103 rfl (by decide) ?_
            refine g_bipush (q := 106) (v := nI 10) dX7_count_104 rfl (by decide) ?_
            refine g_iload_n (q := 107) dX7_count_106 rfl rfl ?_
            refine g_imul (q := 108) dX7_count_107 rfl ?_
            refine g_iadd (q := 109) dX7_count_108 rfl ?_
            refine g_iconst (q := 110) (v := nI 1) dX7_count_109 rfl (by decide) ?_
            refine g_iadd (q := 111) dX7_count_110 rfl ?_
            refine g_ialdn (q := 112) (by first | assumption | rfl) (by repeat' first | apply nI_a | apply nI_m | exact rfl) (by omega) dX7_count_111 rfl ?_
            rw [hMg.ln him]
            refine g_iadd (q := 113) dX7_count_112 rfl ?_
            rw [nI_add, show smN i (vln (gv S)) + vln (gv S) i = smN (i + 1) (vln (gv S)) from rfl]
            refine g_istore_n (q := 114) dX7_count_113 rfl (by decide) rfl rfl ?_
            refine g_iincn (q := 117) dX7_count_114 rfl rfl (by decide) rfl rfl ?_
            refine g_goto (q := 88) dX7_count_117 (by decide) ?_
            exact ih (i + 1) (by omega)
        · by_cases e4 : w = nI 4
          · refine g_tabIn (q := 0) (tgt := 122) (off := 119) dX7_count_3 (by rw [e4]; decide) (by rw [e4]; decide) (by rw [e4]; decide) (by decide) ?_
            refine g_aload_n (q := 123) dX7_count_122 rfl rfl ?_
            refine gf_X7_155 (q := 126) rfl (by first | assumption | rfl) dX7_count_123 rfl ?_
            rw [a1]
            refine g_iret rfl dX7_count_126 (Nat.le_refl _) (Nat.le_refl _) ?_
            rw [countS, if_neg e0, if_neg e1, if_neg e2, if_neg e3, if_pos e4] at h
            exact h I hr FrM.rf
          · by_cases e5 : w = nI 5
            · refine g_tabIn (q := 0) (tgt := 127) (off := 124) dX7_count_3 (by rw [e5]; decide) (by rw [e5]; decide) (by rw [e5]; decide) (by decide) ?_
              refine g_aload_n (q := 128) dX7_count_127 rfl rfl ?_
              refine gf_X7_88 (q := 131) rfl (by first | assumption | rfl) dX7_count_128 rfl ?_
              rw [t1]
              refine g_iret rfl dX7_count_131 (Nat.le_refl _) (Nat.le_refl _) ?_
              rw [countS, if_neg e0, if_neg e1, if_neg e2, if_neg e3, if_neg e4, if_pos e5] at h
              exact h I hr FrM.rf
            · refine g_tabOut (q := 0) (tgt := 132) dX7_count_3 (cnt_le e0 e1 e2 e3 e4 e5) (by decide) ?_
              refine lc_X7_70 (q := 134) rfl dX7_count_132 rfl ?_
              refine g_iret rfl dX7_count_134 (Nat.le_refl _) (Nat.le_refl _) ?_
              rw [countS, if_neg e0, if_neg e1, if_neg e2, if_neg e3, if_neg e4, if_neg e5] at h
              exact h I hr FrM.rf
/-- only the trace changes -/
def FrTr (I J : Nat → Nat → Int32) : Prop := (∀ p, p ≠ 52 → p ≠ 67 → J p = I p) ∧ ∀ j, j ≠ 31 → J 52 j = I 52 j
theorem FrTr.rf {I : Nat → Nat → Int32} : FrTr I I := ⟨fun _ _ _ => rfl, fun _ _ => rfl⟩
theorem FrTr.tr {I J K : Nat → Nat → Int32} (h1 : FrTr I J) (h2 : FrTr J K) : FrTr I K := ⟨fun p a b => (h2.1 p a b).trans (h1.1 p a b), fun j a => (h2.2 j a).trans (h1.2 j a)⟩
theorem FrTr.m {I J : Nat → Nat → Int32} (h : FrTr I J) : FrM I J := fun p hp => h.1 p (by omega) (by omega)
theorem MTr_leave {I : Nat → Nat → Int32} {tl : List Nat} {x : Nat} (h : MTr I tl) (hl : tl.length < 16) : MTr (uI (uI I 67 tl.length (nI x)) 52 31 (nI (tl.length + 1))) (tl ++ [x]) := by
  obtain ⟨h1, h2, h3⟩ := h
  refine ⟨by simp [uI], fun j hj => ?_, by simp; omega⟩
  have hj : j < tl.length + 1 := by simpa using hj
  by_cases e : j = tl.length
  · subst e; simp [uI]
  · have e2 : j < tl.length := by omega
    have : uI (uI I 67 tl.length (nI x)) 52 31 (nI (tl.length + 1)) 67 j = I 67 j := by simp [uI, e]
    rw [this, h2 j e2]
    simp [List.getElem?_append_left e2]
theorem RepM.trc {I J : Nat → Nat → Int32} {S : Sg} {t : List Nat} (h : RepM I S) (hf : FrTr I J) (ht : MTr J t) : RepM J (upT S t) := by
  obtain ⟨h1, h2, h3, h4, h5, h6, h7, h8⟩ := h
  have e : ∀ p, (p ≠ 52 ∧ p ≠ 67) → J p = I p := fun p hp => hf.1 p hp.1 hp.2
  have f := hf.2
  exact ⟨h1.eq (e 53 (by decide)) (e 54 (by decide)) (e 55 (by decide)), ⟨(f 4 (by decide)).trans h2.1, h2.2⟩, h3.eq (f 6 (by decide)) (e 57 (by decide)), ⟨(f 7 (by decide)).trans h4.1, h4.2⟩, ⟨h5.1.eq (e 58 (by decide)), h5.2⟩, h6.eq (f 17 (by decide)) (e 61 (by decide)), h7.eq (e 62 (by decide)) (e 63 (by decide)), ht⟩

set_option maxRecDepth 100000 in
set_option maxHeartbeats 400000 in
theorem c_X7_begins {d k : Nat} {I : Nat → Nat → Int32} {Q : Option Int32 → Wd → Prop} {x : Nat} {tl : List Nat} (hT : MTr I tl) (h : ∀ I2, FrTr I I2 → MTr I2 (lvF tl x) → Q none (I2, RR k)) : Ex d 0 0 mX7_begins [.ref 52, .int (nI x)] 68 (I, RR k) 68 Q := by
  obtain ⟨t1, t2, t3⟩ := id hT
  refine ex_intro (L0 := [.ref 52, .int (nI x)]) (by decide +kernel) rfl rfl (Nat.le_of_ble_eq_true rfl) rfl ?_
  refine g_aload_n (q := 1) dX7_begins_0 rfl rfl ?_
  refine gf_X7_266 (q := 4) rfl (by first | assumption | rfl) dX7_begins_1 rfl ?_
  rw [t1]
  refine g_bipush (q := 6) (v := nI 16) dX7_begins_4 rfl (by decide) ?_
  refine g_icmp_ge (tgt := 29) (q := 9) dX7_begins_6 (by decide) rfl (fun c6 => ?_) (fun c6 => ?_)
  · refine g_vret rfl dX7_begins_29 (Nat.le_refl _) (Nat.le_refl _) ?_
    rw [lvF, if_neg (by have := (nI_leI (by omega) (by omega)).mp c6; omega)] at h
    exact h I FrTr.rf hT
  · have hlt : tl.length < 16 := by
      have : ¬ 16 ≤ tl.length := fun z => c6 (nI_le z (by omega))
      omega
    refine g_aload_n (q := 10) dX7_begins_9 rfl rfl ?_
    refine gf_X7_53 (q := 13) rfl (by first | assumption | rfl) (by first | assumption | rfl) dX7_begins_10 rfl ?_
    refine g_aload_n (q := 14) dX7_begins_13 rfl rfl ?_
    refine gf_X7_266 (q := 17) rfl (by first | assumption | rfl) dX7_begins_14 rfl ?_
    rw [t1]
    refine g_iload_n (q := 18) dX7_begins_17 rfl rfl ?_
    refine g_iastn (q := 19) (by first | assumption | rfl) (by repeat' first | apply nI_a | apply nI_m | exact rfl) (by omega) dX7_begins_18 rfl ?_
    refine g_aload_n (q := 20) dX7_begins_19 rfl rfl ?_
    refine g_dup (q := 21) dX7_begins_20 rfl rfl ?_
    refine gf_X7_266 (q := 24) rfl (by first | assumption | rfl) dX7_begins_21 rfl ?_
    rw [uI_ne (by decide), t1]
    refine g_iconst (q := 25) (v := nI 1) dX7_begins_24 rfl (by decide) ?_
    refine g_iadd (q := 26) dX7_begins_25 rfl ?_
    rw [nI_add]
    refine pf_X7_266 (q := 29) rfl (by first | assumption | rfl) dX7_begins_26 rfl ?_
    refine g_vret rfl dX7_begins_29 (Nat.le_refl _) (Nat.le_refl _) ?_
    rw [lvF, if_pos hlt] at h
    exact h _ ⟨fun p a b => (uI_ne a).trans (uI_ne b), fun j hj => by simp [uI, hj]⟩ (MTr_leave hT hlt)
set_option maxRecDepth 100000 in
set_option maxHeartbeats 400000 in
theorem c_X7_aboutOf {d k : Nat} {I : Nat → Nat → Int32} {Q : Option Int32 → Wd → Prop} {v : Vv} {a : Nat} (hM : MRep I 58 0 v) (hV : VOk v) (ha : a < vna v) (h : Q (some (nI (notF v a))) (I, RR k)) : Ex (d + 3) 0 0 mX7_aboutOf [.ref 52, .int (nI a)] 68 (I, RR k) 68 Q := by
  obtain ⟨v1, v2, v3, v4⟩ := id hV

  refine ex_intro (L0 := [.ref 52, .int (nI a), .null, .null]) (by decide +kernel) rfl rfl (Nat.le_of_ble_eq_true rfl) rfl ?_
  refine g_iconst (q := 1) (v := nI 0) dX7_aboutOf_0 rfl (by decide) ?_
  refine g_istore_n (q := 2) dX7_aboutOf_1 rfl (by decide) rfl rfl ?_
  refine g_iconst (q := 3) (v := nI 0) dX7_aboutOf_2 rfl (by decide) ?_
  refine g_istore_n (q := 4) dX7_aboutOf_3 rfl (by decide) rfl rfl ?_
  suffices hl : ∀ (t i : Nat), i + t = vnm v → G mX7_aboutOf (rmd (d + 3) 0 0) (Zm Q 68 68 0 0) 68 4 [.ref 52, .int (nI a), .int (nI (smN i (fun m => if knownF v m a = 0 then 0 else 1))), .int (nI i)] [] 68 (I, RR k) 0 0 from hl (vnm v) 0 (Nat.zero_add _)
  intro t
  induction t with
  | zero =>
    intro i hi
    have hi : i = vnm v := by omega
    subst hi
    refine g_iload_n (q := 5) dX7_aboutOf_4 rfl rfl ?_
    refine g_aload_n (q := 6) dX7_aboutOf_5 rfl rfl ?_
    refine gf_X7_25 (q := 9) rfl (by first | assumption | rfl) (by first | assumption | rfl) dX7_aboutOf_6 rfl ?_
    refine g_iconst (q := 10) (v := nI 0) dX7_aboutOf_9 rfl (by decide) ?_
    refine g_ialdn (q := 11) (by first | assumption | rfl) (by repeat' first | apply nI_a | apply nI_m | exact rfl) (by omega) dX7_aboutOf_10 rfl ?_
    rw [hM.nm]
    refine g_icmp_ge (tgt := 40) (q := 14) dX7_aboutOf_11 (by decide) rfl (fun _ => ?_) (fun c11 => absurd (Int32.le_refl _) c11)
    refine g_iload_n (q := 41) dX7_aboutOf_40 rfl rfl ?_
    refine g_iret rfl dX7_aboutOf_41 (Nat.le_refl _) (Nat.le_refl _) ?_
    exact h
  | succ t ih =>
    intro i hi
    have him : i < vnm v := by omega
    have hk3 := knownF_lt v i a
    refine g_iload_n (q := 5) dX7_aboutOf_4 rfl rfl ?_
    refine g_aload_n (q := 6) dX7_aboutOf_5 rfl rfl ?_
    refine gf_X7_25 (q := 9) rfl (by first | assumption | rfl) (by first | assumption | rfl) dX7_aboutOf_6 rfl ?_
    refine g_iconst (q := 10) (v := nI 0) dX7_aboutOf_9 rfl (by decide) ?_
    refine g_ialdn (q := 11) (by first | assumption | rfl) (by repeat' first | apply nI_a | apply nI_m | exact rfl) (by omega) dX7_aboutOf_10 rfl ?_
    rw [hM.nm]
    refine g_icmp_ge (tgt := 40) (q := 14) dX7_aboutOf_11 (by decide) rfl (fun c11 => absurd c11 (nI_ge (by omega) (by omega))) (fun _ => ?_)
    refine g_iload_n (q := 15) dX7_aboutOf_14 rfl rfl ?_
    refine g_aload_n (q := 16) dX7_aboutOf_15 rfl rfl ?_
    refine gf_X7_25 (q := 19) rfl (by first | assumption | rfl) (by first | assumption | rfl) dX7_aboutOf_16 rfl ?_
    refine g_iload_n (q := 20) dX7_aboutOf_19 rfl rfl ?_
    refine g_iload_n (q := 21) dX7_aboutOf_20 rfl rfl ?_
    refine k_X7_196 (q := 24) rfl (Nat.le_of_ble_eq_true rfl) dX7_aboutOf_21 rfl (c_X7_aheadOf rfl hM hV him ha ?_)
    refine g_if_le (tgt := 31) (q := 27) dX7_aboutOf_24 (by decide) rfl (fun c24 => ?_) (fun c24 => ?_)
    · refine g_iconst (q := 32) (v := nI 0) dX7_aboutOf_31 rfl (by decide) ?_
      have ek : knownF v i a = 0 := by
        have : nI (knownF v i a) ≤ nI 0 := c24
        have := (nI_leI (by omega) (by omega)).mp this
        omega
      have es : smN (i + 1) (fun m => if knownF v m a = 0 then 0 else 1) = smN i (fun m => if knownF v m a = 0 then 0 else 1) + 0 := by rw [smN, if_pos ek]
      refine g_iadd (q := 33) dX7_aboutOf_32 rfl ?_
      rw [nI_add, ← es]
      refine g_istore_n (q := 34) dX7_aboutOf_33 rfl (by decide) rfl rfl ?_
      refine g_iincn (q := 37) dX7_aboutOf_34 rfl rfl (by decide) rfl rfl ?_
      refine g_goto (q := 4) dX7_aboutOf_37 (by decide) ?_
      exact ih (i + 1) (by omega)
    · refine g_iconst (q := 28) (v := nI 1) dX7_aboutOf_27 rfl (by decide) ?_
      have ek : ¬ knownF v i a = 0 := fun z => c24 (by rw [z]; decide)
      have es : smN (i + 1) (fun m => if knownF v m a = 0 then 0 else 1) = smN i (fun m => if knownF v m a = 0 then 0 else 1) + 1 := by rw [smN, if_neg ek]
      refine g_goto (q := 32) dX7_aboutOf_28 (by decide) ?_
      refine g_iadd (q := 33) dX7_aboutOf_32 rfl ?_
      rw [nI_add, ← es]
      refine g_istore_n (q := 34) dX7_aboutOf_33 rfl (by decide) rfl rfl ?_
      refine g_iincn (q := 37) dX7_aboutOf_34 rfl rfl (by decide) rfl rfl ?_
      refine g_goto (q := 4) dX7_aboutOf_37 (by decide) ?_
      exact ih (i + 1) (by omega)
set_option maxRecDepth 100000 in
set_option maxHeartbeats 400000 in
theorem c_aMark1 {d k : Nat} {I : Nat → Nat → Int32} {Q : Option Int32 → Wd → Prop} {v : Vv} {a : Nat} {tl : List Nat} (hM : MRep I 58 0 v) (hV : VOk v) (ha : a < vna v) (hT : MTr I tl) (hkd : vfa v a 5 = 1) (h : ∀ I2, FrTr I I2 → MTr I2 (mkT v a tl) → Q (some (mkV v a)) (I2, RR k)) : Ex (d + 4) 0 0 mX7_afterMark [.ref 52, .int (nI a)] 68 (I, RR k) 68 Q := by
  obtain ⟨v1, v2, v3, v4⟩ := id hV
  have hFt : FrTr I I := FrTr.rf
  unfold mkV mkT at h
  simp only [hkd] at h
  refine ex_intro (L0 := [.ref 52, .int (nI a), .null, .null]) (by decide +kernel) rfl rfl (Nat.le_of_ble_eq_true rfl) rfl ?_
  refine g_aload_n (q := 1) dX7_afterMark_0 rfl rfl ?_
  refine g_iload_n (q := 2) dX7_afterMark_1 rfl rfl ?_
  refine k_X7_263 (q := 5) rfl (Nat.le_of_ble_eq_true rfl) (by first | assumption | rfl) dX7_afterMark_2 rfl (c_X7_kindIn hM hV ha ?_)
  rw [hkd]
  refine g_istore_n (q := 6) dX7_afterMark_5 rfl (by decide) rfl rfl ?_
  refine g_iload_n (q := 7) dX7_afterMark_6 rfl rfl ?_
  refine g_iconst (q := 8) (v := nI 1) dX7_afterMark_7 rfl (by decide) ?_
  refine g_icmp_eq (tgt := 27) (q := 11) dX7_afterMark_8 (by decide) rfl (fun _ => ?_) (fun c8 => absurd c8 (by decide))
  refine g_aload_n (q := 28) dX7_afterMark_27 rfl rfl ?_
  refine g_bipush (q := 30) (v := nI 21) dX7_afterMark_28 rfl (by decide) ?_
  refine k_X7_269 (q := 33) rfl (Nat.le_of_ble_eq_true rfl) (by first | assumption | rfl) dX7_afterMark_30 rfl (c_X7_begins hT (fun J hF hT => ?_))
  have hM := hM.eq (hF.1 58 (by decide) (by decide))
  have hFt := FrTr.tr hFt hF
  refine g_aload_n (q := 34) dX7_afterMark_33 rfl rfl ?_
  refine g_bipush (q := 36) (v := nI 20) dX7_afterMark_34 rfl (by decide) ?_
  refine k_X7_269 (q := 39) rfl (Nat.le_of_ble_eq_true rfl) (by first | assumption | rfl) dX7_afterMark_36 rfl (c_X7_begins hT (fun J hF hT => ?_))
  have hM := hM.eq (hF.1 58 (by decide) (by decide))
  have hFt := FrTr.tr hFt hF
  refine g_iload_n (q := 40) dX7_afterMark_39 rfl rfl ?_
  refine g_aload_n (q := 41) dX7_afterMark_40 rfl rfl ?_
  refine g_iload_n (q := 42) dX7_afterMark_41 rfl rfl ?_
  refine k_X7_272 (q := 45) rfl (Nat.le_of_ble_eq_true rfl) (by first | assumption | rfl) dX7_afterMark_42 rfl (c_X7_aboutOf hM hV ha ?_)
  refine g_iadd (q := 46) dX7_afterMark_45 rfl ?_
  refine g_istore_n (q := 47) dX7_afterMark_46 rfl (by decide) rfl rfl ?_
  refine g_iload_n (q := 48) dX7_afterMark_47 rfl rfl ?_
  refine g_iconst (q := 49) (v := nI 2) dX7_afterMark_48 rfl (by decide) ?_
  refine g_icmp_ne (tgt := 58) (q := 52) dX7_afterMark_49 (by decide) rfl (fun _ => ?_) (fun c49 => absurd c49 (by decide))
  refine g_iload_n (q := 59) dX7_afterMark_58 rfl rfl ?_
  refine g_iconst (q := 60) (v := nI 3) dX7_afterMark_59 rfl (by decide) ?_
  refine g_icmp_ne (tgt := 71) (q := 63) dX7_afterMark_60 (by decide) rfl (fun _ => ?_) (fun c60 => absurd c60 (by decide))
  refine g_iload_n (q := 72) dX7_afterMark_71 rfl rfl ?_
  refine g_iret rfl dX7_afterMark_72 (Nat.le_refl _) (Nat.le_refl _) ?_
  exact h _ hFt hT
set_option maxRecDepth 100000 in
set_option maxHeartbeats 400000 in
theorem c_aMark2 {d k : Nat} {I : Nat → Nat → Int32} {Q : Option Int32 → Wd → Prop} {v : Vv} {a : Nat} {tl : List Nat} (hM : MRep I 58 0 v) (hV : VOk v) (ha : a < vna v) (hT : MTr I tl) (hkd : vfa v a 5 = 2) (h : ∀ I2, FrTr I I2 → MTr I2 (mkT v a tl) → Q (some (mkV v a)) (I2, RR k)) : Ex (d + 4) 0 0 mX7_afterMark [.ref 52, .int (nI a)] 68 (I, RR k) 68 Q := by
  obtain ⟨v1, v2, v3, v4⟩ := id hV
  have hFt : FrTr I I := FrTr.rf
  unfold mkV mkT at h
  simp only [hkd] at h
  refine ex_intro (L0 := [.ref 52, .int (nI a), .null, .null]) (by decide +kernel) rfl rfl (Nat.le_of_ble_eq_true rfl) rfl ?_
  refine g_aload_n (q := 1) dX7_afterMark_0 rfl rfl ?_
  refine g_iload_n (q := 2) dX7_afterMark_1 rfl rfl ?_
  refine k_X7_263 (q := 5) rfl (Nat.le_of_ble_eq_true rfl) (by first | assumption | rfl) dX7_afterMark_2 rfl (c_X7_kindIn hM hV ha ?_)
  rw [hkd]
  refine g_istore_n (q := 6) dX7_afterMark_5 rfl (by decide) rfl rfl ?_
  refine g_iload_n (q := 7) dX7_afterMark_6 rfl rfl ?_
  refine g_iconst (q := 8) (v := nI 1) dX7_afterMark_7 rfl (by decide) ?_
  refine g_icmp_eq (tgt := 27) (q := 11) dX7_afterMark_8 (by decide) rfl (fun c8 => absurd c8 (by decide)) (fun _ => ?_)
  refine g_aload_n (q := 12) dX7_afterMark_11 rfl rfl ?_
  refine g_iload_n (q := 13) dX7_afterMark_12 rfl rfl ?_
  refine g_iconst (q := 14) (v := nI 2) dX7_afterMark_13 rfl (by decide) ?_
  refine g_icmp_ne (tgt := 22) (q := 17) dX7_afterMark_14 (by decide) rfl (fun c14 => absurd c14 (by decide)) (fun _ => ?_)
  refine g_bipush (q := 19) (v := nI 24) dX7_afterMark_17 rfl (by decide) ?_
  refine g_goto (q := 24) dX7_afterMark_19 (by decide) ?_
  refine k_X7_269 (q := 27) rfl (Nat.le_of_ble_eq_true rfl) (by first | assumption | rfl) dX7_afterMark_24 rfl (c_X7_begins hT (fun J hF hT => ?_))
  have hM := hM.eq (hF.1 58 (by decide) (by decide))
  have hFt := FrTr.tr hFt hF
  refine g_aload_n (q := 28) dX7_afterMark_27 rfl rfl ?_
  refine g_bipush (q := 30) (v := nI 21) dX7_afterMark_28 rfl (by decide) ?_
  refine k_X7_269 (q := 33) rfl (Nat.le_of_ble_eq_true rfl) (by first | assumption | rfl) dX7_afterMark_30 rfl (c_X7_begins hT (fun J hF hT => ?_))
  have hM := hM.eq (hF.1 58 (by decide) (by decide))
  have hFt := FrTr.tr hFt hF
  refine g_aload_n (q := 34) dX7_afterMark_33 rfl rfl ?_
  refine g_bipush (q := 36) (v := nI 20) dX7_afterMark_34 rfl (by decide) ?_
  refine k_X7_269 (q := 39) rfl (Nat.le_of_ble_eq_true rfl) (by first | assumption | rfl) dX7_afterMark_36 rfl (c_X7_begins hT (fun J hF hT => ?_))
  have hM := hM.eq (hF.1 58 (by decide) (by decide))
  have hFt := FrTr.tr hFt hF
  refine g_iload_n (q := 40) dX7_afterMark_39 rfl rfl ?_
  refine g_aload_n (q := 41) dX7_afterMark_40 rfl rfl ?_
  refine g_iload_n (q := 42) dX7_afterMark_41 rfl rfl ?_
  refine k_X7_272 (q := 45) rfl (Nat.le_of_ble_eq_true rfl) (by first | assumption | rfl) dX7_afterMark_42 rfl (c_X7_aboutOf hM hV ha ?_)
  refine g_iadd (q := 46) dX7_afterMark_45 rfl ?_
  refine g_istore_n (q := 47) dX7_afterMark_46 rfl (by decide) rfl rfl ?_
  refine g_iload_n (q := 48) dX7_afterMark_47 rfl rfl ?_
  refine g_iconst (q := 49) (v := nI 2) dX7_afterMark_48 rfl (by decide) ?_
  refine g_icmp_ne (tgt := 58) (q := 52) dX7_afterMark_49 (by decide) rfl (fun c49 => absurd c49 (by decide)) (fun _ => ?_)
  refine g_iconst (q := 53) (v := nI 2) dX7_afterMark_52 rfl (by decide) ?_
  refine g_iload_n (q := 54) dX7_afterMark_53 rfl rfl ?_
  refine g_imul (q := 55) dX7_afterMark_54 rfl ?_
  refine g_goto (q := 72) dX7_afterMark_55 (by decide) ?_
  refine g_iret rfl dX7_afterMark_72 (Nat.le_refl _) (Nat.le_refl _) ?_
  exact h _ hFt hT
set_option maxRecDepth 100000 in
set_option maxHeartbeats 400000 in
theorem c_aMark3 {d k : Nat} {I : Nat → Nat → Int32} {Q : Option Int32 → Wd → Prop} {v : Vv} {a : Nat} {tl : List Nat} (hM : MRep I 58 0 v) (hV : VOk v) (ha : a < vna v) (hT : MTr I tl) (hkd : vfa v a 5 = 3) (h : ∀ I2, FrTr I I2 → MTr I2 (mkT v a tl) → Q (some (mkV v a)) (I2, RR k)) : Ex (d + 4) 0 0 mX7_afterMark [.ref 52, .int (nI a)] 68 (I, RR k) 68 Q := by
  obtain ⟨v1, v2, v3, v4⟩ := id hV
  have hFt : FrTr I I := FrTr.rf
  unfold mkV mkT at h
  simp only [hkd] at h
  refine ex_intro (L0 := [.ref 52, .int (nI a), .null, .null]) (by decide +kernel) rfl rfl (Nat.le_of_ble_eq_true rfl) rfl ?_
  refine g_aload_n (q := 1) dX7_afterMark_0 rfl rfl ?_
  refine g_iload_n (q := 2) dX7_afterMark_1 rfl rfl ?_
  refine k_X7_263 (q := 5) rfl (Nat.le_of_ble_eq_true rfl) (by first | assumption | rfl) dX7_afterMark_2 rfl (c_X7_kindIn hM hV ha ?_)
  rw [hkd]
  refine g_istore_n (q := 6) dX7_afterMark_5 rfl (by decide) rfl rfl ?_
  refine g_iload_n (q := 7) dX7_afterMark_6 rfl rfl ?_
  refine g_iconst (q := 8) (v := nI 1) dX7_afterMark_7 rfl (by decide) ?_
  refine g_icmp_eq (tgt := 27) (q := 11) dX7_afterMark_8 (by decide) rfl (fun c8 => absurd c8 (by decide)) (fun _ => ?_)
  refine g_aload_n (q := 12) dX7_afterMark_11 rfl rfl ?_
  refine g_iload_n (q := 13) dX7_afterMark_12 rfl rfl ?_
  refine g_iconst (q := 14) (v := nI 2) dX7_afterMark_13 rfl (by decide) ?_
  refine g_icmp_ne (tgt := 22) (q := 17) dX7_afterMark_14 (by decide) rfl (fun _ => ?_) (fun c14 => absurd c14 (by decide))
  refine g_bipush (q := 24) (v := nI 22) dX7_afterMark_22 rfl (by decide) ?_
  refine k_X7_269 (q := 27) rfl (Nat.le_of_ble_eq_true rfl) (by first | assumption | rfl) dX7_afterMark_24 rfl (c_X7_begins hT (fun J hF hT => ?_))
  have hM := hM.eq (hF.1 58 (by decide) (by decide))
  have hFt := FrTr.tr hFt hF
  refine g_aload_n (q := 28) dX7_afterMark_27 rfl rfl ?_
  refine g_bipush (q := 30) (v := nI 21) dX7_afterMark_28 rfl (by decide) ?_
  refine k_X7_269 (q := 33) rfl (Nat.le_of_ble_eq_true rfl) (by first | assumption | rfl) dX7_afterMark_30 rfl (c_X7_begins hT (fun J hF hT => ?_))
  have hM := hM.eq (hF.1 58 (by decide) (by decide))
  have hFt := FrTr.tr hFt hF
  refine g_aload_n (q := 34) dX7_afterMark_33 rfl rfl ?_
  refine g_bipush (q := 36) (v := nI 20) dX7_afterMark_34 rfl (by decide) ?_
  refine k_X7_269 (q := 39) rfl (Nat.le_of_ble_eq_true rfl) (by first | assumption | rfl) dX7_afterMark_36 rfl (c_X7_begins hT (fun J hF hT => ?_))
  have hM := hM.eq (hF.1 58 (by decide) (by decide))
  have hFt := FrTr.tr hFt hF
  refine g_iload_n (q := 40) dX7_afterMark_39 rfl rfl ?_
  refine g_aload_n (q := 41) dX7_afterMark_40 rfl rfl ?_
  refine g_iload_n (q := 42) dX7_afterMark_41 rfl rfl ?_
  refine k_X7_272 (q := 45) rfl (Nat.le_of_ble_eq_true rfl) (by first | assumption | rfl) dX7_afterMark_42 rfl (c_X7_aboutOf hM hV ha ?_)
  refine g_iadd (q := 46) dX7_afterMark_45 rfl ?_
  refine g_istore_n (q := 47) dX7_afterMark_46 rfl (by decide) rfl rfl ?_
  refine g_iload_n (q := 48) dX7_afterMark_47 rfl rfl ?_
  refine g_iconst (q := 49) (v := nI 2) dX7_afterMark_48 rfl (by decide) ?_
  refine g_icmp_ne (tgt := 58) (q := 52) dX7_afterMark_49 (by decide) rfl (fun _ => ?_) (fun c49 => absurd c49 (by decide))
  refine g_iload_n (q := 59) dX7_afterMark_58 rfl rfl ?_
  refine g_iconst (q := 60) (v := nI 3) dX7_afterMark_59 rfl (by decide) ?_
  refine g_icmp_ne (tgt := 71) (q := 63) dX7_afterMark_60 (by decide) rfl (fun c60 => absurd c60 (by decide)) (fun _ => ?_)
  refine g_iload_n (q := 64) dX7_afterMark_63 rfl rfl ?_
  refine g_sipush (q := 67) (v := nI 1000) dX7_afterMark_64 rfl (by decide) ?_
  refine g_isub (q := 68) dX7_afterMark_67 rfl ?_
  refine g_goto (q := 72) dX7_afterMark_68 (by decide) ?_
  refine g_iret rfl dX7_afterMark_72 (Nat.le_refl _) (Nat.le_refl _) ?_
  exact h _ hFt hT
theorem c_aMark {d k : Nat} {I : Nat → Nat → Int32} {Q : Option Int32 → Wd → Prop} {v : Vv} {a : Nat} {tl : List Nat} (hM : MRep I 58 0 v) (hV : VOk v) (ha : a < vna v) (hT : MTr I tl) (hkd : vfa v a 5 < 4) (h : ∀ I2, FrTr I I2 → MTr I2 (mkT v a tl) → Q (some (mkV v a)) (I2, RR k)) : Ex (d + 4) 0 0 mX7_afterMark [.ref 52, .int (nI a)] 68 (I, RR k) 68 Q := by
  have k5 := (hV.2.2.2 a ha).2.2.2.2.2.2.1
  have : vfa v a 5 = 1 ∨ vfa v a 5 = 2 ∨ vfa v a 5 = 3 := by omega
  rcases this with e | e | e
  · exact c_aMark1 hM hV ha hT e h
  · exact c_aMark2 hM hV ha hT e h
  · exact c_aMark3 hM hV ha hT e h
set_option maxRecDepth 100000 in
set_option maxHeartbeats 400000 in
theorem c_aSize1 {d k : Nat} {I : Nat → Nat → Int32} {Q : Option Int32 → Wd → Prop} {v : Vv} {a : Nat} {tl : List Nat} (hM : MRep I 58 0 v) (hV : VOk v) (ha : a < vna v) (hT : MTr I tl) (hkd : vfa v a 5 = 1) (h : ∀ I2, FrTr I I2 → MTr I2 (szT v a tl) → Q (some (szV v a)) (I2, RR k)) : Ex (d + 5) 0 0 mX7_afterSize [.ref 52, .int (nI a)] 68 (I, RR k) 68 Q := by
  obtain ⟨v1, v2, v3, v4⟩ := id hV
  have hFt : FrTr I I := FrTr.rf
  unfold szV szT at h
  simp only [hkd] at h
  refine ex_intro (L0 := [.ref 52, .int (nI a), .null, .null]) (by decide +kernel) rfl rfl (Nat.le_of_ble_eq_true rfl) rfl ?_
  refine g_aload_n (q := 1) dX7_afterSize_0 rfl rfl ?_
  refine g_iload_n (q := 2) dX7_afterSize_1 rfl rfl ?_
  refine k_X7_263 (q := 5) rfl (Nat.le_of_ble_eq_true rfl) (by first | assumption | rfl) dX7_afterSize_2 rfl (c_X7_kindIn hM hV ha ?_)
  rw [hkd]
  refine g_iconst (q := 6) (v := nI 2) dX7_afterSize_5 rfl (by decide) ?_
  refine g_icmp_ne (tgt := 13) (q := 9) dX7_afterSize_6 (by decide) rfl (fun _ => ?_) (fun c6 => absurd c6 (by decide))
  refine g_iconst (q := 14) (v := nI 0) dX7_afterSize_13 rfl (by decide) ?_
  refine g_istore_n (q := 15) dX7_afterSize_14 rfl (by decide) rfl rfl ?_
  refine g_iload_n (q := 16) dX7_afterSize_15 rfl rfl ?_
  refine g_if_eq (tgt := 25) (q := 19) dX7_afterSize_16 (by decide) rfl (fun _ => ?_) (fun c16 => absurd c16 (by decide))
  refine g_aload_n (q := 26) dX7_afterSize_25 rfl rfl ?_
  refine g_bipush (q := 28) (v := nI 11) dX7_afterSize_26 rfl (by decide) ?_
  refine k_X7_269 (q := 31) rfl (Nat.le_of_ble_eq_true rfl) (by first | assumption | rfl) dX7_afterSize_28 rfl (c_X7_begins hT (fun J hF hT => ?_))
  have hM := hM.eq (hF.1 58 (by decide) (by decide))
  have hFt := FrTr.tr hFt hF
  refine g_aload_n (q := 32) dX7_afterSize_31 rfl rfl ?_
  refine g_bipush (q := 34) (v := nI 10) dX7_afterSize_32 rfl (by decide) ?_
  refine k_X7_269 (q := 37) rfl (Nat.le_of_ble_eq_true rfl) (by first | assumption | rfl) dX7_afterSize_34 rfl (c_X7_begins hT (fun J hF hT => ?_))
  have hM := hM.eq (hF.1 58 (by decide) (by decide))
  have hFt := FrTr.tr hFt hF
  refine g_aload_n (q := 38) dX7_afterSize_37 rfl rfl ?_
  refine gf_X7_25 (q := 41) rfl (by first | assumption | rfl) (by first | assumption | rfl) dX7_afterSize_38 rfl ?_
  refine g_bipush (q := 43) (v := nI 62) dX7_afterSize_41 rfl (by decide) ?_
  refine g_bipush (q := 45) (v := nI 6) dX7_afterSize_43 rfl (by decide) ?_
  refine g_iload_n (q := 46) dX7_afterSize_45 rfl rfl ?_
  refine g_imul (q := 47) dX7_afterSize_46 rfl ?_
  refine g_iadd (q := 48) dX7_afterSize_47 rfl ?_
  refine g_iconst (q := 49) (v := nI 1) dX7_afterSize_48 rfl (by decide) ?_
  refine g_iadd (q := 50) dX7_afterSize_49 rfl ?_
  refine g_ialdn (q := 51) (by first | assumption | rfl) (by repeat' first | apply nI_a | apply nI_m | exact rfl) (by omega) dX7_afterSize_50 rfl ?_
  rw [hM.f0 ha]
  refine g_aload_n (q := 52) dX7_afterSize_51 rfl rfl ?_
  refine g_iload_n (q := 53) dX7_afterSize_52 rfl rfl ?_
  refine k_X7_275 (q := 56) rfl (Nat.le_of_ble_eq_true rfl) (by first | assumption | rfl) dX7_afterSize_53 rfl (c_aMark hM hV ha hT (by omega) (fun J hF hT => ?_))
  have hFt := FrTr.tr hFt hF
  refine g_iadd (q := 57) dX7_afterSize_56 rfl ?_
  refine g_istore_n (q := 58) dX7_afterSize_57 rfl (by decide) rfl rfl ?_
  refine g_iload_n (q := 59) dX7_afterSize_58 rfl rfl ?_
  refine g_if_eq (tgt := 67) (q := 62) dX7_afterSize_59 (by decide) rfl (fun _ => ?_) (fun c59 => absurd c59 (by decide))
  refine g_iload_n (q := 68) dX7_afterSize_67 rfl rfl ?_
  refine g_iret rfl dX7_afterSize_68 (Nat.le_refl _) (Nat.le_refl _) ?_
  exact h _ hFt hT
set_option maxRecDepth 100000 in
set_option maxHeartbeats 400000 in
theorem c_aSize2 {d k : Nat} {I : Nat → Nat → Int32} {Q : Option Int32 → Wd → Prop} {v : Vv} {a : Nat} {tl : List Nat} (hM : MRep I 58 0 v) (hV : VOk v) (ha : a < vna v) (hT : MTr I tl) (hkd : vfa v a 5 = 2) (h : ∀ I2, FrTr I I2 → MTr I2 (szT v a tl) → Q (some (szV v a)) (I2, RR k)) : Ex (d + 5) 0 0 mX7_afterSize [.ref 52, .int (nI a)] 68 (I, RR k) 68 Q := by
  obtain ⟨v1, v2, v3, v4⟩ := id hV
  have hFt : FrTr I I := FrTr.rf
  unfold szV szT at h
  simp only [hkd] at h
  refine ex_intro (L0 := [.ref 52, .int (nI a), .null, .null]) (by decide +kernel) rfl rfl (Nat.le_of_ble_eq_true rfl) rfl ?_
  refine g_aload_n (q := 1) dX7_afterSize_0 rfl rfl ?_
  refine g_iload_n (q := 2) dX7_afterSize_1 rfl rfl ?_
  refine k_X7_263 (q := 5) rfl (Nat.le_of_ble_eq_true rfl) (by first | assumption | rfl) dX7_afterSize_2 rfl (c_X7_kindIn hM hV ha ?_)
  rw [hkd]
  refine g_iconst (q := 6) (v := nI 2) dX7_afterSize_5 rfl (by decide) ?_
  refine g_icmp_ne (tgt := 13) (q := 9) dX7_afterSize_6 (by decide) rfl (fun c6 => absurd c6 (by decide)) (fun _ => ?_)
  refine g_iconst (q := 10) (v := nI 1) dX7_afterSize_9 rfl (by decide) ?_
  refine g_goto (q := 14) dX7_afterSize_10 (by decide) ?_
  refine g_istore_n (q := 15) dX7_afterSize_14 rfl (by decide) rfl rfl ?_
  refine g_iload_n (q := 16) dX7_afterSize_15 rfl rfl ?_
  refine g_if_eq (tgt := 25) (q := 19) dX7_afterSize_16 (by decide) rfl (fun c16 => absurd c16 (by decide)) (fun _ => ?_)
  refine g_aload_n (q := 20) dX7_afterSize_19 rfl rfl ?_
  refine g_bipush (q := 22) (v := nI 12) dX7_afterSize_20 rfl (by decide) ?_
  refine k_X7_269 (q := 25) rfl (Nat.le_of_ble_eq_true rfl) (by first | assumption | rfl) dX7_afterSize_22 rfl (c_X7_begins hT (fun J hF hT => ?_))
  have hM := hM.eq (hF.1 58 (by decide) (by decide))
  have hFt := FrTr.tr hFt hF
  refine g_aload_n (q := 26) dX7_afterSize_25 rfl rfl ?_
  refine g_bipush (q := 28) (v := nI 11) dX7_afterSize_26 rfl (by decide) ?_
  refine k_X7_269 (q := 31) rfl (Nat.le_of_ble_eq_true rfl) (by first | assumption | rfl) dX7_afterSize_28 rfl (c_X7_begins hT (fun J hF hT => ?_))
  have hM := hM.eq (hF.1 58 (by decide) (by decide))
  have hFt := FrTr.tr hFt hF
  refine g_aload_n (q := 32) dX7_afterSize_31 rfl rfl ?_
  refine g_bipush (q := 34) (v := nI 10) dX7_afterSize_32 rfl (by decide) ?_
  refine k_X7_269 (q := 37) rfl (Nat.le_of_ble_eq_true rfl) (by first | assumption | rfl) dX7_afterSize_34 rfl (c_X7_begins hT (fun J hF hT => ?_))
  have hM := hM.eq (hF.1 58 (by decide) (by decide))
  have hFt := FrTr.tr hFt hF
  refine g_aload_n (q := 38) dX7_afterSize_37 rfl rfl ?_
  refine gf_X7_25 (q := 41) rfl (by first | assumption | rfl) (by first | assumption | rfl) dX7_afterSize_38 rfl ?_
  refine g_bipush (q := 43) (v := nI 62) dX7_afterSize_41 rfl (by decide) ?_
  refine g_bipush (q := 45) (v := nI 6) dX7_afterSize_43 rfl (by decide) ?_
  refine g_iload_n (q := 46) dX7_afterSize_45 rfl rfl ?_
  refine g_imul (q := 47) dX7_afterSize_46 rfl ?_
  refine g_iadd (q := 48) dX7_afterSize_47 rfl ?_
  refine g_iconst (q := 49) (v := nI 1) dX7_afterSize_48 rfl (by decide) ?_
  refine g_iadd (q := 50) dX7_afterSize_49 rfl ?_
  refine g_ialdn (q := 51) (by first | assumption | rfl) (by repeat' first | apply nI_a | apply nI_m | exact rfl) (by omega) dX7_afterSize_50 rfl ?_
  rw [hM.f0 ha]
  refine g_aload_n (q := 52) dX7_afterSize_51 rfl rfl ?_
  refine g_iload_n (q := 53) dX7_afterSize_52 rfl rfl ?_
  refine k_X7_275 (q := 56) rfl (Nat.le_of_ble_eq_true rfl) (by first | assumption | rfl) dX7_afterSize_53 rfl (c_aMark hM hV ha hT (by omega) (fun J hF hT => ?_))
  have hFt := FrTr.tr hFt hF
  refine g_iadd (q := 57) dX7_afterSize_56 rfl ?_
  refine g_istore_n (q := 58) dX7_afterSize_57 rfl (by decide) rfl rfl ?_
  refine g_iload_n (q := 59) dX7_afterSize_58 rfl rfl ?_
  refine g_if_eq (tgt := 67) (q := 62) dX7_afterSize_59 (by decide) rfl (fun c59 => absurd c59 (by decide)) (fun _ => ?_)
  refine g_iload_n (q := 63) dX7_afterSize_62 rfl rfl ?_
  refine g_ineg (q := 64) dX7_afterSize_63 rfl ?_
  refine g_goto (q := 68) dX7_afterSize_64 (by decide) ?_
  refine g_iret rfl dX7_afterSize_68 (Nat.le_refl _) (Nat.le_refl _) ?_
  exact h _ hFt hT
set_option maxRecDepth 100000 in
set_option maxHeartbeats 400000 in
theorem c_aSize3 {d k : Nat} {I : Nat → Nat → Int32} {Q : Option Int32 → Wd → Prop} {v : Vv} {a : Nat} {tl : List Nat} (hM : MRep I 58 0 v) (hV : VOk v) (ha : a < vna v) (hT : MTr I tl) (hkd : vfa v a 5 = 3) (h : ∀ I2, FrTr I I2 → MTr I2 (szT v a tl) → Q (some (szV v a)) (I2, RR k)) : Ex (d + 5) 0 0 mX7_afterSize [.ref 52, .int (nI a)] 68 (I, RR k) 68 Q := by
  obtain ⟨v1, v2, v3, v4⟩ := id hV
  have hFt : FrTr I I := FrTr.rf
  unfold szV szT at h
  simp only [hkd] at h
  refine ex_intro (L0 := [.ref 52, .int (nI a), .null, .null]) (by decide +kernel) rfl rfl (Nat.le_of_ble_eq_true rfl) rfl ?_
  refine g_aload_n (q := 1) dX7_afterSize_0 rfl rfl ?_
  refine g_iload_n (q := 2) dX7_afterSize_1 rfl rfl ?_
  refine k_X7_263 (q := 5) rfl (Nat.le_of_ble_eq_true rfl) (by first | assumption | rfl) dX7_afterSize_2 rfl (c_X7_kindIn hM hV ha ?_)
  rw [hkd]
  refine g_iconst (q := 6) (v := nI 2) dX7_afterSize_5 rfl (by decide) ?_
  refine g_icmp_ne (tgt := 13) (q := 9) dX7_afterSize_6 (by decide) rfl (fun _ => ?_) (fun c6 => absurd c6 (by decide))
  refine g_iconst (q := 14) (v := nI 0) dX7_afterSize_13 rfl (by decide) ?_
  refine g_istore_n (q := 15) dX7_afterSize_14 rfl (by decide) rfl rfl ?_
  refine g_iload_n (q := 16) dX7_afterSize_15 rfl rfl ?_
  refine g_if_eq (tgt := 25) (q := 19) dX7_afterSize_16 (by decide) rfl (fun _ => ?_) (fun c16 => absurd c16 (by decide))
  refine g_aload_n (q := 26) dX7_afterSize_25 rfl rfl ?_
  refine g_bipush (q := 28) (v := nI 11) dX7_afterSize_26 rfl (by decide) ?_
  refine k_X7_269 (q := 31) rfl (Nat.le_of_ble_eq_true rfl) (by first | assumption | rfl) dX7_afterSize_28 rfl (c_X7_begins hT (fun J hF hT => ?_))
  have hM := hM.eq (hF.1 58 (by decide) (by decide))
  have hFt := FrTr.tr hFt hF
  refine g_aload_n (q := 32) dX7_afterSize_31 rfl rfl ?_
  refine g_bipush (q := 34) (v := nI 10) dX7_afterSize_32 rfl (by decide) ?_
  refine k_X7_269 (q := 37) rfl (Nat.le_of_ble_eq_true rfl) (by first | assumption | rfl) dX7_afterSize_34 rfl (c_X7_begins hT (fun J hF hT => ?_))
  have hM := hM.eq (hF.1 58 (by decide) (by decide))
  have hFt := FrTr.tr hFt hF
  refine g_aload_n (q := 38) dX7_afterSize_37 rfl rfl ?_
  refine gf_X7_25 (q := 41) rfl (by first | assumption | rfl) (by first | assumption | rfl) dX7_afterSize_38 rfl ?_
  refine g_bipush (q := 43) (v := nI 62) dX7_afterSize_41 rfl (by decide) ?_
  refine g_bipush (q := 45) (v := nI 6) dX7_afterSize_43 rfl (by decide) ?_
  refine g_iload_n (q := 46) dX7_afterSize_45 rfl rfl ?_
  refine g_imul (q := 47) dX7_afterSize_46 rfl ?_
  refine g_iadd (q := 48) dX7_afterSize_47 rfl ?_
  refine g_iconst (q := 49) (v := nI 1) dX7_afterSize_48 rfl (by decide) ?_
  refine g_iadd (q := 50) dX7_afterSize_49 rfl ?_
  refine g_ialdn (q := 51) (by first | assumption | rfl) (by repeat' first | apply nI_a | apply nI_m | exact rfl) (by omega) dX7_afterSize_50 rfl ?_
  rw [hM.f0 ha]
  refine g_aload_n (q := 52) dX7_afterSize_51 rfl rfl ?_
  refine g_iload_n (q := 53) dX7_afterSize_52 rfl rfl ?_
  refine k_X7_275 (q := 56) rfl (Nat.le_of_ble_eq_true rfl) (by first | assumption | rfl) dX7_afterSize_53 rfl (c_aMark hM hV ha hT (by omega) (fun J hF hT => ?_))
  have hFt := FrTr.tr hFt hF
  refine g_iadd (q := 57) dX7_afterSize_56 rfl ?_
  refine g_istore_n (q := 58) dX7_afterSize_57 rfl (by decide) rfl rfl ?_
  refine g_iload_n (q := 59) dX7_afterSize_58 rfl rfl ?_
  refine g_if_eq (tgt := 67) (q := 62) dX7_afterSize_59 (by decide) rfl (fun _ => ?_) (fun c59 => absurd c59 (by decide))
  refine g_iload_n (q := 68) dX7_afterSize_67 rfl rfl ?_
  refine g_iret rfl dX7_afterSize_68 (Nat.le_refl _) (Nat.le_refl _) ?_
  exact h _ hFt hT
set_option maxRecDepth 100000 in
set_option maxHeartbeats 400000 in
theorem c_rSize4 {d k : Nat} {I : Nat → Nat → Int32} {Q : Option Int32 → Wd → Prop} {v : Vv} {a : Nat} {tl : List Nat} (hM : MRep I 58 0 v) (hV : VOk v) (ha : a < vna v) (hT : MTr I tl) (hkd : vfa v a 5 = 4) (h : ∀ I2, FrTr I I2 → MTr I2 (szT v a tl) → Q (some (szV v a)) (I2, RR k)) : Ex (d + 5) 0 0 mX7_aroundSize [.ref 52, .int (nI a)] 68 (I, RR k) 68 Q := by
  obtain ⟨v1, v2, v3, v4⟩ := id hV
  have hFt : FrTr I I := FrTr.rf
  unfold szV szT at h
  simp only [hkd] at h
  refine ex_intro (L0 := [.ref 52, .int (nI a), .null, .null]) (by decide +kernel) rfl rfl (Nat.le_of_ble_eq_true rfl) rfl ?_
  refine g_aload_n (q := 1) dX7_aroundSize_0 rfl rfl ?_
  refine g_iload_n (q := 2) dX7_aroundSize_1 rfl rfl ?_
  refine k_X7_263 (q := 5) rfl (Nat.le_of_ble_eq_true rfl) (by first | assumption | rfl) dX7_aroundSize_2 rfl (c_X7_kindIn hM hV ha ?_)
  rw [hkd]
  refine g_iconst (q := 6) (v := nI 5) dX7_aroundSize_5 rfl (by decide) ?_
  refine g_icmp_ne (tgt := 13) (q := 9) dX7_aroundSize_6 (by decide) rfl (fun _ => ?_) (fun c6 => absurd c6 (by decide))
  refine g_iconst (q := 14) (v := nI 0) dX7_aroundSize_13 rfl (by decide) ?_
  refine g_istore_n (q := 15) dX7_aroundSize_14 rfl (by decide) rfl rfl ?_
  refine g_iload_n (q := 16) dX7_aroundSize_15 rfl rfl ?_
  refine g_if_eq (tgt := 25) (q := 19) dX7_aroundSize_16 (by decide) rfl (fun _ => ?_) (fun c16 => absurd c16 (by decide))
  refine g_aload_n (q := 26) dX7_aroundSize_25 rfl rfl ?_
  refine g_bipush (q := 28) (v := nI 13) dX7_aroundSize_26 rfl (by decide) ?_
  refine k_X7_269 (q := 31) rfl (Nat.le_of_ble_eq_true rfl) (by first | assumption | rfl) dX7_aroundSize_28 rfl (c_X7_begins hT (fun J hF hT => ?_))
  have hM := hM.eq (hF.1 58 (by decide) (by decide))
  have hFt := FrTr.tr hFt hF
  refine g_aload_n (q := 32) dX7_aroundSize_31 rfl rfl ?_
  refine g_bipush (q := 34) (v := nI 10) dX7_aroundSize_32 rfl (by decide) ?_
  refine k_X7_269 (q := 37) rfl (Nat.le_of_ble_eq_true rfl) (by first | assumption | rfl) dX7_aroundSize_34 rfl (c_X7_begins hT (fun J hF hT => ?_))
  have hM := hM.eq (hF.1 58 (by decide) (by decide))
  have hFt := FrTr.tr hFt hF
  refine g_aload_n (q := 38) dX7_aroundSize_37 rfl rfl ?_
  refine gf_X7_25 (q := 41) rfl (by first | assumption | rfl) (by first | assumption | rfl) dX7_aroundSize_38 rfl ?_
  refine g_bipush (q := 43) (v := nI 62) dX7_aroundSize_41 rfl (by decide) ?_
  refine g_bipush (q := 45) (v := nI 6) dX7_aroundSize_43 rfl (by decide) ?_
  refine g_iload_n (q := 46) dX7_aroundSize_45 rfl rfl ?_
  refine g_imul (q := 47) dX7_aroundSize_46 rfl ?_
  refine g_iadd (q := 48) dX7_aroundSize_47 rfl ?_
  refine g_iconst (q := 49) (v := nI 1) dX7_aroundSize_48 rfl (by decide) ?_
  refine g_iadd (q := 50) dX7_aroundSize_49 rfl ?_
  refine g_ialdn (q := 51) (by first | assumption | rfl) (by repeat' first | apply nI_a | apply nI_m | exact rfl) (by omega) dX7_aroundSize_50 rfl ?_
  rw [hM.f0 ha]
  refine g_bipush (q := 53) (v := nI 100) dX7_aroundSize_51 rfl (by decide) ?_
  refine g_isub (q := 54) dX7_aroundSize_53 rfl ?_
  refine g_istore_n (q := 55) dX7_aroundSize_54 rfl (by decide) rfl rfl ?_
  refine g_iload_n (q := 56) dX7_aroundSize_55 rfl rfl ?_
  refine g_if_eq (tgt := 65) (q := 59) dX7_aroundSize_56 (by decide) rfl (fun _ => ?_) (fun c56 => absurd c56 (by decide))
  refine g_iload_n (q := 66) dX7_aroundSize_65 rfl rfl ?_
  refine g_iret rfl dX7_aroundSize_66 (Nat.le_refl _) (Nat.le_refl _) ?_
  exact h _ hFt hT
set_option maxRecDepth 100000 in
set_option maxHeartbeats 400000 in
theorem c_rMark4 {d k : Nat} {I : Nat → Nat → Int32} {Q : Option Int32 → Wd → Prop} {v : Vv} {a : Nat} {tl : List Nat} (hM : MRep I 58 0 v) (hV : VOk v) (ha : a < vna v) (hT : MTr I tl) (hkd : vfa v a 5 = 4) (h : ∀ I2, FrTr I I2 → MTr I2 (mkT v a tl) → Q (some (mkV v a)) (I2, RR k)) : Ex (d + 6) 0 0 mX7_aroundMark [.ref 52, .int (nI a)] 68 (I, RR k) 68 Q := by
  obtain ⟨v1, v2, v3, v4⟩ := id hV
  have hFt : FrTr I I := FrTr.rf
  unfold mkV mkT at h
  simp only [hkd] at h
  refine ex_intro (L0 := [.ref 52, .int (nI a)]) (by decide +kernel) rfl rfl (Nat.le_of_ble_eq_true rfl) rfl ?_
  refine g_aload_n (q := 1) dX7_aroundMark_0 rfl rfl ?_
  refine g_bipush (q := 3) (v := nI 23) dX7_aroundMark_1 rfl (by decide) ?_
  refine k_X7_269 (q := 6) rfl (Nat.le_of_ble_eq_true rfl) (by first | assumption | rfl) dX7_aroundMark_3 rfl (c_X7_begins hT (fun J hF hT => ?_))
  have hM := hM.eq (hF.1 58 (by decide) (by decide))
  have hFt := FrTr.tr hFt hF
  refine g_aload_n (q := 7) dX7_aroundMark_6 rfl rfl ?_
  refine g_bipush (q := 9) (v := nI 20) dX7_aroundMark_7 rfl (by decide) ?_
  refine k_X7_269 (q := 12) rfl (Nat.le_of_ble_eq_true rfl) (by first | assumption | rfl) dX7_aroundMark_9 rfl (c_X7_begins hT (fun J hF hT => ?_))
  have hM := hM.eq (hF.1 58 (by decide) (by decide))
  have hFt := FrTr.tr hFt hF
  refine g_iload_n (q := 13) dX7_aroundMark_12 rfl rfl ?_
  refine g_aload_n (q := 14) dX7_aroundMark_13 rfl rfl ?_
  refine g_iload_n (q := 15) dX7_aroundMark_14 rfl rfl ?_
  refine k_X7_278 (q := 18) rfl (Nat.le_of_ble_eq_true rfl) (by first | assumption | rfl) dX7_aroundMark_15 rfl (c_rSize4 hM hV ha hT hkd (fun J hF hT => ?_))
  have hFt := FrTr.tr hFt hF
  unfold szT at hT
  simp only [hkd] at hT
  unfold szV
  simp only [hkd]
  refine g_isub (q := 19) dX7_aroundMark_18 rfl ?_
  refine g_iret rfl dX7_aroundMark_19 (Nat.le_refl _) (Nat.le_refl _) ?_
  exact h _ hFt hT
set_option maxRecDepth 100000 in
set_option maxHeartbeats 400000 in
theorem c_rSize5 {d k : Nat} {I : Nat → Nat → Int32} {Q : Option Int32 → Wd → Prop} {v : Vv} {a : Nat} {tl : List Nat} (hM : MRep I 58 0 v) (hV : VOk v) (ha : a < vna v) (hT : MTr I tl) (hkd : vfa v a 5 = 5) (h : ∀ I2, FrTr I I2 → MTr I2 (szT v a tl) → Q (some (szV v a)) (I2, RR k)) : Ex (d + 5) 0 0 mX7_aroundSize [.ref 52, .int (nI a)] 68 (I, RR k) 68 Q := by
  obtain ⟨v1, v2, v3, v4⟩ := id hV
  have hFt : FrTr I I := FrTr.rf
  unfold szV szT at h
  simp only [hkd] at h
  refine ex_intro (L0 := [.ref 52, .int (nI a), .null, .null]) (by decide +kernel) rfl rfl (Nat.le_of_ble_eq_true rfl) rfl ?_
  refine g_aload_n (q := 1) dX7_aroundSize_0 rfl rfl ?_
  refine g_iload_n (q := 2) dX7_aroundSize_1 rfl rfl ?_
  refine k_X7_263 (q := 5) rfl (Nat.le_of_ble_eq_true rfl) (by first | assumption | rfl) dX7_aroundSize_2 rfl (c_X7_kindIn hM hV ha ?_)
  rw [hkd]
  refine g_iconst (q := 6) (v := nI 5) dX7_aroundSize_5 rfl (by decide) ?_
  refine g_icmp_ne (tgt := 13) (q := 9) dX7_aroundSize_6 (by decide) rfl (fun c6 => absurd c6 (by decide)) (fun _ => ?_)
  refine g_iconst (q := 10) (v := nI 1) dX7_aroundSize_9 rfl (by decide) ?_
  refine g_goto (q := 14) dX7_aroundSize_10 (by decide) ?_
  refine g_istore_n (q := 15) dX7_aroundSize_14 rfl (by decide) rfl rfl ?_
  refine g_iload_n (q := 16) dX7_aroundSize_15 rfl rfl ?_
  refine g_if_eq (tgt := 25) (q := 19) dX7_aroundSize_16 (by decide) rfl (fun c16 => absurd c16 (by decide)) (fun _ => ?_)
  refine g_aload_n (q := 20) dX7_aroundSize_19 rfl rfl ?_
  refine g_bipush (q := 22) (v := nI 14) dX7_aroundSize_20 rfl (by decide) ?_
  refine k_X7_269 (q := 25) rfl (Nat.le_of_ble_eq_true rfl) (by first | assumption | rfl) dX7_aroundSize_22 rfl (c_X7_begins hT (fun J hF hT => ?_))
  have hM := hM.eq (hF.1 58 (by decide) (by decide))
  have hFt := FrTr.tr hFt hF
  refine g_aload_n (q := 26) dX7_aroundSize_25 rfl rfl ?_
  refine g_bipush (q := 28) (v := nI 13) dX7_aroundSize_26 rfl (by decide) ?_
  refine k_X7_269 (q := 31) rfl (Nat.le_of_ble_eq_true rfl) (by first | assumption | rfl) dX7_aroundSize_28 rfl (c_X7_begins hT (fun J hF hT => ?_))
  have hM := hM.eq (hF.1 58 (by decide) (by decide))
  have hFt := FrTr.tr hFt hF
  refine g_aload_n (q := 32) dX7_aroundSize_31 rfl rfl ?_
  refine g_bipush (q := 34) (v := nI 10) dX7_aroundSize_32 rfl (by decide) ?_
  refine k_X7_269 (q := 37) rfl (Nat.le_of_ble_eq_true rfl) (by first | assumption | rfl) dX7_aroundSize_34 rfl (c_X7_begins hT (fun J hF hT => ?_))
  have hM := hM.eq (hF.1 58 (by decide) (by decide))
  have hFt := FrTr.tr hFt hF
  refine g_aload_n (q := 38) dX7_aroundSize_37 rfl rfl ?_
  refine gf_X7_25 (q := 41) rfl (by first | assumption | rfl) (by first | assumption | rfl) dX7_aroundSize_38 rfl ?_
  refine g_bipush (q := 43) (v := nI 62) dX7_aroundSize_41 rfl (by decide) ?_
  refine g_bipush (q := 45) (v := nI 6) dX7_aroundSize_43 rfl (by decide) ?_
  refine g_iload_n (q := 46) dX7_aroundSize_45 rfl rfl ?_
  refine g_imul (q := 47) dX7_aroundSize_46 rfl ?_
  refine g_iadd (q := 48) dX7_aroundSize_47 rfl ?_
  refine g_iconst (q := 49) (v := nI 1) dX7_aroundSize_48 rfl (by decide) ?_
  refine g_iadd (q := 50) dX7_aroundSize_49 rfl ?_
  refine g_ialdn (q := 51) (by first | assumption | rfl) (by repeat' first | apply nI_a | apply nI_m | exact rfl) (by omega) dX7_aroundSize_50 rfl ?_
  rw [hM.f0 ha]
  refine g_bipush (q := 53) (v := nI 100) dX7_aroundSize_51 rfl (by decide) ?_
  refine g_isub (q := 54) dX7_aroundSize_53 rfl ?_
  refine g_istore_n (q := 55) dX7_aroundSize_54 rfl (by decide) rfl rfl ?_
  refine g_iload_n (q := 56) dX7_aroundSize_55 rfl rfl ?_
  refine g_if_eq (tgt := 65) (q := 59) dX7_aroundSize_56 (by decide) rfl (fun c56 => absurd c56 (by decide)) (fun _ => ?_)
  refine g_iconst (q := 60) (v := nI 2) dX7_aroundSize_59 rfl (by decide) ?_
  refine g_iload_n (q := 61) dX7_aroundSize_60 rfl rfl ?_
  refine g_imul (q := 62) dX7_aroundSize_61 rfl ?_
  refine g_goto (q := 66) dX7_aroundSize_62 (by decide) ?_
  refine g_iret rfl dX7_aroundSize_66 (Nat.le_refl _) (Nat.le_refl _) ?_
  exact h _ hFt hT
set_option maxRecDepth 100000 in
set_option maxHeartbeats 400000 in
theorem c_rMark5 {d k : Nat} {I : Nat → Nat → Int32} {Q : Option Int32 → Wd → Prop} {v : Vv} {a : Nat} {tl : List Nat} (hM : MRep I 58 0 v) (hV : VOk v) (ha : a < vna v) (hT : MTr I tl) (hkd : vfa v a 5 = 5) (h : ∀ I2, FrTr I I2 → MTr I2 (mkT v a tl) → Q (some (mkV v a)) (I2, RR k)) : Ex (d + 6) 0 0 mX7_aroundMark [.ref 52, .int (nI a)] 68 (I, RR k) 68 Q := by
  obtain ⟨v1, v2, v3, v4⟩ := id hV
  have hFt : FrTr I I := FrTr.rf
  unfold mkV mkT at h
  simp only [hkd] at h
  refine ex_intro (L0 := [.ref 52, .int (nI a)]) (by decide +kernel) rfl rfl (Nat.le_of_ble_eq_true rfl) rfl ?_
  refine g_aload_n (q := 1) dX7_aroundMark_0 rfl rfl ?_
  refine g_bipush (q := 3) (v := nI 23) dX7_aroundMark_1 rfl (by decide) ?_
  refine k_X7_269 (q := 6) rfl (Nat.le_of_ble_eq_true rfl) (by first | assumption | rfl) dX7_aroundMark_3 rfl (c_X7_begins hT (fun J hF hT => ?_))
  have hM := hM.eq (hF.1 58 (by decide) (by decide))
  have hFt := FrTr.tr hFt hF
  refine g_aload_n (q := 7) dX7_aroundMark_6 rfl rfl ?_
  refine g_bipush (q := 9) (v := nI 20) dX7_aroundMark_7 rfl (by decide) ?_
  refine k_X7_269 (q := 12) rfl (Nat.le_of_ble_eq_true rfl) (by first | assumption | rfl) dX7_aroundMark_9 rfl (c_X7_begins hT (fun J hF hT => ?_))
  have hM := hM.eq (hF.1 58 (by decide) (by decide))
  have hFt := FrTr.tr hFt hF
  refine g_iload_n (q := 13) dX7_aroundMark_12 rfl rfl ?_
  refine g_aload_n (q := 14) dX7_aroundMark_13 rfl rfl ?_
  refine g_iload_n (q := 15) dX7_aroundMark_14 rfl rfl ?_
  refine k_X7_278 (q := 18) rfl (Nat.le_of_ble_eq_true rfl) (by first | assumption | rfl) dX7_aroundMark_15 rfl (c_rSize5 hM hV ha hT hkd (fun J hF hT => ?_))
  have hFt := FrTr.tr hFt hF
  unfold szT at hT
  simp only [hkd] at hT
  unfold szV
  simp only [hkd]
  refine g_isub (q := 19) dX7_aroundMark_18 rfl ?_
  refine g_iret rfl dX7_aroundMark_19 (Nat.le_refl _) (Nat.le_refl _) ?_
  exact h _ hFt hT
set_option maxRecDepth 100000 in
set_option maxHeartbeats 400000 in
theorem c_X7_ask {d k : Nat} {I : Nat → Nat → Int32} {Q : Option Int32 → Wd → Prop} {S : Sg} {a w : Int32} (hr : RepM I S) (h : ∀ I2, RepM I2 (askS S a w).2 → FrM I I2 → Q (some (askS S a w).1) (I2, RR k)) : Ex (d + 7) 0 0 mX7_ask [.ref 52, .int a, .int w] 68 (I, RR k) 68 Q := by
  have hVg : VOk (gv S) := hr.2.2.2.2.1.2
  have hMg : MRep I 58 0 (gv S) := hr.2.2.2.2.1.1
  obtain ⟨v1, v2, v3, v4⟩ := id hVg

  refine ex_intro (L0 := [.ref 52, .int a, .int w, .null]) (by decide +kernel) rfl rfl (Nat.le_of_ble_eq_true rfl) rfl ?_
  refine g_aload_n (q := 1) dX7_ask_0 rfl rfl ?_
  refine g_iload_n (q := 2) dX7_ask_1 rfl rfl ?_
  refine k_X7_232 (q := 5) rfl (Nat.le_of_ble_eq_true rfl) (by first | assumption | rfl) dX7_ask_2 rfl (c_X7_isAdvice hMg (fun z2 => ?_) (fun z2 => ?_))
  · refine g_if_eq (tgt := 17) (q := 8) dX7_ask_5 (by decide) rfl (fun c5 => absurd c5 (by decide)) (fun _ => ?_)
    refine g_iload_n (q := 9) dX7_ask_8 rfl rfl ?_
    refine g_iconst (q := 10) (v := nI 0) dX7_ask_9 rfl (by decide) ?_
    refine g_iconst (q := 11) (v := nI 1) dX7_ask_10 rfl (by decide) ?_
    refine k_X7_62 (q := 14) rfl (Nat.le_of_ble_eq_true rfl) dX7_ask_11 rfl (c_X7_in (fun z111 z112 => ?_) (fun z11 => ?_))
    · have z11 := And.intro z111 z112
      refine g_if_ne (tgt := 20) (q := 17) dX7_ask_14 (by decide) rfl (fun _ => ?_) (fun c14 => absurd c14 (by decide))
      have y2 := z2
      have y11 := z11
      obtain ⟨a, ha, rfl⟩ := in1_nat (by omega) z2
      have k5 := v4 a ha
      have : vfa (gv S) a 5 = 1 ∨ vfa (gv S) a 5 = 2 ∨ vfa (gv S) a 5 = 3 ∨ vfa (gv S) a 5 = 4 ∨ vfa (gv S) a 5 = 5 := by omega
      rcases this with hkd | hkd | hkd | hkd | hkd
      · refine g_aload_n (q := 21) dX7_ask_20 rfl rfl ?_
        refine g_iconst (q := 22) (v := nI 0) dX7_ask_21 rfl (by decide) ?_
        refine pf_X7_266 (q := 25) rfl (by first | assumption | rfl) dX7_ask_22 rfl ?_
        have hFt : FrTr I (uI I 52 31 (nI 0)) := ⟨fun p a b => uI_ne a, fun j hj => by simp [uI, hj]⟩
        have hT : MTr (uI I 52 31 (nI 0)) [] := ⟨uI_eq, fun j hj => absurd hj (Nat.not_lt_zero j), by simp⟩
        have hM : MRep (uI I 52 31 (nI 0)) 58 0 (gv S) := hMg.eq (uI_ne (by decide))
        refine g_aload_n (q := 26) dX7_ask_25 rfl rfl ?_
        refine g_iload_n (q := 27) dX7_ask_26 rfl rfl ?_
        refine k_X7_263 (q := 30) rfl (Nat.le_of_ble_eq_true rfl) (by first | assumption | rfl) dX7_ask_27 rfl (c_X7_kindIn hM hVg ha ?_)
        rw [hkd]
        refine g_iconst (q := 31) (v := nI 4) dX7_ask_30 rfl (by decide) ?_
        refine g_icmp_lt (tgt := 38) (q := 34) dX7_ask_31 (by decide) rfl (fun _ => ?_) (fun c31 => absurd c31 (by decide))
        refine g_iconst (q := 39) (v := nI 0) dX7_ask_38 rfl (by decide) ?_
        refine g_istore_n (q := 40) dX7_ask_39 rfl (by decide) rfl rfl ?_
        refine g_iload_n (q := 41) dX7_ask_40 rfl rfl ?_
        refine g_if_ne (tgt := 62) (q := 44) dX7_ask_41 (by decide) rfl (fun c41 => ?_) (fun c41 => ?_)
        · refine g_iload_n (q := 63) dX7_ask_62 rfl rfl ?_
          refine g_if_eq (tgt := 74) (q := 66) dX7_ask_63 (by decide) rfl (fun _ => ?_) (fun c63 => absurd c63 (by decide))
          refine g_aload_n (q := 75) dX7_ask_74 rfl rfl ?_
          refine g_iload_n (q := 76) dX7_ask_75 rfl rfl ?_
          refine k_X7_275 (q := 79) rfl (Nat.le_of_ble_eq_true rfl) (by first | assumption | rfl) dX7_ask_76 rfl (c_aMark1 hM hVg ha hT hkd (fun J hF hT => ?_))
          have hFt := FrTr.tr hFt hF
          refine g_iret rfl dX7_ask_79 (Nat.le_refl _) (Nat.le_refl _) ?_
          rw [askS, if_pos y2, if_pos y11, nI_clamp (by omega), if_neg c41] at h
          exact h _ (hr.trc hFt hT) hFt.m
        · refine g_iload_n (q := 45) dX7_ask_44 rfl rfl ?_
          refine g_if_eq (tgt := 56) (q := 48) dX7_ask_45 (by decide) rfl (fun _ => ?_) (fun c45 => absurd c45 (by decide))
          refine g_aload_n (q := 57) dX7_ask_56 rfl rfl ?_
          refine g_iload_n (q := 58) dX7_ask_57 rfl rfl ?_
          refine k_X7_281 (q := 61) rfl (Nat.le_of_ble_eq_true rfl) (by first | assumption | rfl) dX7_ask_58 rfl (c_aSize1 hM hVg ha hT hkd (fun J hF hT => ?_))
          have hFt := FrTr.tr hFt hF
          refine g_iret rfl dX7_ask_61 (Nat.le_refl _) (Nat.le_refl _) ?_
          rw [askS, if_pos y2, if_pos y11, nI_clamp (by omega), if_pos c41] at h
          exact h _ (hr.trc hFt hT) hFt.m
      · refine g_aload_n (q := 21) dX7_ask_20 rfl rfl ?_
        refine g_iconst (q := 22) (v := nI 0) dX7_ask_21 rfl (by decide) ?_
        refine pf_X7_266 (q := 25) rfl (by first | assumption | rfl) dX7_ask_22 rfl ?_
        have hFt : FrTr I (uI I 52 31 (nI 0)) := ⟨fun p a b => uI_ne a, fun j hj => by simp [uI, hj]⟩
        have hT : MTr (uI I 52 31 (nI 0)) [] := ⟨uI_eq, fun j hj => absurd hj (Nat.not_lt_zero j), by simp⟩
        have hM : MRep (uI I 52 31 (nI 0)) 58 0 (gv S) := hMg.eq (uI_ne (by decide))
        refine g_aload_n (q := 26) dX7_ask_25 rfl rfl ?_
        refine g_iload_n (q := 27) dX7_ask_26 rfl rfl ?_
        refine k_X7_263 (q := 30) rfl (Nat.le_of_ble_eq_true rfl) (by first | assumption | rfl) dX7_ask_27 rfl (c_X7_kindIn hM hVg ha ?_)
        rw [hkd]
        refine g_iconst (q := 31) (v := nI 4) dX7_ask_30 rfl (by decide) ?_
        refine g_icmp_lt (tgt := 38) (q := 34) dX7_ask_31 (by decide) rfl (fun _ => ?_) (fun c31 => absurd c31 (by decide))
        refine g_iconst (q := 39) (v := nI 0) dX7_ask_38 rfl (by decide) ?_
        refine g_istore_n (q := 40) dX7_ask_39 rfl (by decide) rfl rfl ?_
        refine g_iload_n (q := 41) dX7_ask_40 rfl rfl ?_
        refine g_if_ne (tgt := 62) (q := 44) dX7_ask_41 (by decide) rfl (fun c41 => ?_) (fun c41 => ?_)
        · refine g_iload_n (q := 63) dX7_ask_62 rfl rfl ?_
          refine g_if_eq (tgt := 74) (q := 66) dX7_ask_63 (by decide) rfl (fun _ => ?_) (fun c63 => absurd c63 (by decide))
          refine g_aload_n (q := 75) dX7_ask_74 rfl rfl ?_
          refine g_iload_n (q := 76) dX7_ask_75 rfl rfl ?_
          refine k_X7_275 (q := 79) rfl (Nat.le_of_ble_eq_true rfl) (by first | assumption | rfl) dX7_ask_76 rfl (c_aMark2 hM hVg ha hT hkd (fun J hF hT => ?_))
          have hFt := FrTr.tr hFt hF
          refine g_iret rfl dX7_ask_79 (Nat.le_refl _) (Nat.le_refl _) ?_
          rw [askS, if_pos y2, if_pos y11, nI_clamp (by omega), if_neg c41] at h
          exact h _ (hr.trc hFt hT) hFt.m
        · refine g_iload_n (q := 45) dX7_ask_44 rfl rfl ?_
          refine g_if_eq (tgt := 56) (q := 48) dX7_ask_45 (by decide) rfl (fun _ => ?_) (fun c45 => absurd c45 (by decide))
          refine g_aload_n (q := 57) dX7_ask_56 rfl rfl ?_
          refine g_iload_n (q := 58) dX7_ask_57 rfl rfl ?_
          refine k_X7_281 (q := 61) rfl (Nat.le_of_ble_eq_true rfl) (by first | assumption | rfl) dX7_ask_58 rfl (c_aSize2 hM hVg ha hT hkd (fun J hF hT => ?_))
          have hFt := FrTr.tr hFt hF
          refine g_iret rfl dX7_ask_61 (Nat.le_refl _) (Nat.le_refl _) ?_
          rw [askS, if_pos y2, if_pos y11, nI_clamp (by omega), if_pos c41] at h
          exact h _ (hr.trc hFt hT) hFt.m
      · refine g_aload_n (q := 21) dX7_ask_20 rfl rfl ?_
        refine g_iconst (q := 22) (v := nI 0) dX7_ask_21 rfl (by decide) ?_
        refine pf_X7_266 (q := 25) rfl (by first | assumption | rfl) dX7_ask_22 rfl ?_
        have hFt : FrTr I (uI I 52 31 (nI 0)) := ⟨fun p a b => uI_ne a, fun j hj => by simp [uI, hj]⟩
        have hT : MTr (uI I 52 31 (nI 0)) [] := ⟨uI_eq, fun j hj => absurd hj (Nat.not_lt_zero j), by simp⟩
        have hM : MRep (uI I 52 31 (nI 0)) 58 0 (gv S) := hMg.eq (uI_ne (by decide))
        refine g_aload_n (q := 26) dX7_ask_25 rfl rfl ?_
        refine g_iload_n (q := 27) dX7_ask_26 rfl rfl ?_
        refine k_X7_263 (q := 30) rfl (Nat.le_of_ble_eq_true rfl) (by first | assumption | rfl) dX7_ask_27 rfl (c_X7_kindIn hM hVg ha ?_)
        rw [hkd]
        refine g_iconst (q := 31) (v := nI 4) dX7_ask_30 rfl (by decide) ?_
        refine g_icmp_lt (tgt := 38) (q := 34) dX7_ask_31 (by decide) rfl (fun _ => ?_) (fun c31 => absurd c31 (by decide))
        refine g_iconst (q := 39) (v := nI 0) dX7_ask_38 rfl (by decide) ?_
        refine g_istore_n (q := 40) dX7_ask_39 rfl (by decide) rfl rfl ?_
        refine g_iload_n (q := 41) dX7_ask_40 rfl rfl ?_
        refine g_if_ne (tgt := 62) (q := 44) dX7_ask_41 (by decide) rfl (fun c41 => ?_) (fun c41 => ?_)
        · refine g_iload_n (q := 63) dX7_ask_62 rfl rfl ?_
          refine g_if_eq (tgt := 74) (q := 66) dX7_ask_63 (by decide) rfl (fun _ => ?_) (fun c63 => absurd c63 (by decide))
          refine g_aload_n (q := 75) dX7_ask_74 rfl rfl ?_
          refine g_iload_n (q := 76) dX7_ask_75 rfl rfl ?_
          refine k_X7_275 (q := 79) rfl (Nat.le_of_ble_eq_true rfl) (by first | assumption | rfl) dX7_ask_76 rfl (c_aMark3 hM hVg ha hT hkd (fun J hF hT => ?_))
          have hFt := FrTr.tr hFt hF
          refine g_iret rfl dX7_ask_79 (Nat.le_refl _) (Nat.le_refl _) ?_
          rw [askS, if_pos y2, if_pos y11, nI_clamp (by omega), if_neg c41] at h
          exact h _ (hr.trc hFt hT) hFt.m
        · refine g_iload_n (q := 45) dX7_ask_44 rfl rfl ?_
          refine g_if_eq (tgt := 56) (q := 48) dX7_ask_45 (by decide) rfl (fun _ => ?_) (fun c45 => absurd c45 (by decide))
          refine g_aload_n (q := 57) dX7_ask_56 rfl rfl ?_
          refine g_iload_n (q := 58) dX7_ask_57 rfl rfl ?_
          refine k_X7_281 (q := 61) rfl (Nat.le_of_ble_eq_true rfl) (by first | assumption | rfl) dX7_ask_58 rfl (c_aSize3 hM hVg ha hT hkd (fun J hF hT => ?_))
          have hFt := FrTr.tr hFt hF
          refine g_iret rfl dX7_ask_61 (Nat.le_refl _) (Nat.le_refl _) ?_
          rw [askS, if_pos y2, if_pos y11, nI_clamp (by omega), if_pos c41] at h
          exact h _ (hr.trc hFt hT) hFt.m
      · refine g_aload_n (q := 21) dX7_ask_20 rfl rfl ?_
        refine g_iconst (q := 22) (v := nI 0) dX7_ask_21 rfl (by decide) ?_
        refine pf_X7_266 (q := 25) rfl (by first | assumption | rfl) dX7_ask_22 rfl ?_
        have hFt : FrTr I (uI I 52 31 (nI 0)) := ⟨fun p a b => uI_ne a, fun j hj => by simp [uI, hj]⟩
        have hT : MTr (uI I 52 31 (nI 0)) [] := ⟨uI_eq, fun j hj => absurd hj (Nat.not_lt_zero j), by simp⟩
        have hM : MRep (uI I 52 31 (nI 0)) 58 0 (gv S) := hMg.eq (uI_ne (by decide))
        refine g_aload_n (q := 26) dX7_ask_25 rfl rfl ?_
        refine g_iload_n (q := 27) dX7_ask_26 rfl rfl ?_
        refine k_X7_263 (q := 30) rfl (Nat.le_of_ble_eq_true rfl) (by first | assumption | rfl) dX7_ask_27 rfl (c_X7_kindIn hM hVg ha ?_)
        rw [hkd]
        refine g_iconst (q := 31) (v := nI 4) dX7_ask_30 rfl (by decide) ?_
        refine g_icmp_lt (tgt := 38) (q := 34) dX7_ask_31 (by decide) rfl (fun c31 => absurd c31 (by decide)) (fun _ => ?_)
        refine g_iconst (q := 35) (v := nI 1) dX7_ask_34 rfl (by decide) ?_
        refine g_goto (q := 39) dX7_ask_35 (by decide) ?_
        refine g_istore_n (q := 40) dX7_ask_39 rfl (by decide) rfl rfl ?_
        refine g_iload_n (q := 41) dX7_ask_40 rfl rfl ?_
        refine g_if_ne (tgt := 62) (q := 44) dX7_ask_41 (by decide) rfl (fun c41 => ?_) (fun c41 => ?_)
        · refine g_iload_n (q := 63) dX7_ask_62 rfl rfl ?_
          refine g_if_eq (tgt := 74) (q := 66) dX7_ask_63 (by decide) rfl (fun c63 => absurd c63 (by decide)) (fun _ => ?_)
          refine g_aload_n (q := 67) dX7_ask_66 rfl rfl ?_
          refine g_iload_n (q := 68) dX7_ask_67 rfl rfl ?_
          refine k_X7_284 (q := 71) rfl (Nat.le_of_ble_eq_true rfl) (by first | assumption | rfl) dX7_ask_68 rfl (c_rMark4 hM hVg ha hT hkd (fun J hF hT => ?_))
          have hFt := FrTr.tr hFt hF
          refine g_goto (q := 79) dX7_ask_71 (by decide) ?_
          refine g_iret rfl dX7_ask_79 (Nat.le_refl _) (Nat.le_refl _) ?_
          rw [askS, if_pos y2, if_pos y11, nI_clamp (by omega), if_neg c41] at h
          exact h _ (hr.trc hFt hT) hFt.m
        · refine g_iload_n (q := 45) dX7_ask_44 rfl rfl ?_
          refine g_if_eq (tgt := 56) (q := 48) dX7_ask_45 (by decide) rfl (fun c45 => absurd c45 (by decide)) (fun _ => ?_)
          refine g_aload_n (q := 49) dX7_ask_48 rfl rfl ?_
          refine g_iload_n (q := 50) dX7_ask_49 rfl rfl ?_
          refine k_X7_278 (q := 53) rfl (Nat.le_of_ble_eq_true rfl) (by first | assumption | rfl) dX7_ask_50 rfl (c_rSize4 hM hVg ha hT hkd (fun J hF hT => ?_))
          have hFt := FrTr.tr hFt hF
          refine g_goto (q := 61) dX7_ask_53 (by decide) ?_
          refine g_iret rfl dX7_ask_61 (Nat.le_refl _) (Nat.le_refl _) ?_
          rw [askS, if_pos y2, if_pos y11, nI_clamp (by omega), if_pos c41] at h
          exact h _ (hr.trc hFt hT) hFt.m
      · refine g_aload_n (q := 21) dX7_ask_20 rfl rfl ?_
        refine g_iconst (q := 22) (v := nI 0) dX7_ask_21 rfl (by decide) ?_
        refine pf_X7_266 (q := 25) rfl (by first | assumption | rfl) dX7_ask_22 rfl ?_
        have hFt : FrTr I (uI I 52 31 (nI 0)) := ⟨fun p a b => uI_ne a, fun j hj => by simp [uI, hj]⟩
        have hT : MTr (uI I 52 31 (nI 0)) [] := ⟨uI_eq, fun j hj => absurd hj (Nat.not_lt_zero j), by simp⟩
        have hM : MRep (uI I 52 31 (nI 0)) 58 0 (gv S) := hMg.eq (uI_ne (by decide))
        refine g_aload_n (q := 26) dX7_ask_25 rfl rfl ?_
        refine g_iload_n (q := 27) dX7_ask_26 rfl rfl ?_
        refine k_X7_263 (q := 30) rfl (Nat.le_of_ble_eq_true rfl) (by first | assumption | rfl) dX7_ask_27 rfl (c_X7_kindIn hM hVg ha ?_)
        rw [hkd]
        refine g_iconst (q := 31) (v := nI 4) dX7_ask_30 rfl (by decide) ?_
        refine g_icmp_lt (tgt := 38) (q := 34) dX7_ask_31 (by decide) rfl (fun c31 => absurd c31 (by decide)) (fun _ => ?_)
        refine g_iconst (q := 35) (v := nI 1) dX7_ask_34 rfl (by decide) ?_
        refine g_goto (q := 39) dX7_ask_35 (by decide) ?_
        refine g_istore_n (q := 40) dX7_ask_39 rfl (by decide) rfl rfl ?_
        refine g_iload_n (q := 41) dX7_ask_40 rfl rfl ?_
        refine g_if_ne (tgt := 62) (q := 44) dX7_ask_41 (by decide) rfl (fun c41 => ?_) (fun c41 => ?_)
        · refine g_iload_n (q := 63) dX7_ask_62 rfl rfl ?_
          refine g_if_eq (tgt := 74) (q := 66) dX7_ask_63 (by decide) rfl (fun c63 => absurd c63 (by decide)) (fun _ => ?_)
          refine g_aload_n (q := 67) dX7_ask_66 rfl rfl ?_
          refine g_iload_n (q := 68) dX7_ask_67 rfl rfl ?_
          refine k_X7_284 (q := 71) rfl (Nat.le_of_ble_eq_true rfl) (by first | assumption | rfl) dX7_ask_68 rfl (c_rMark5 hM hVg ha hT hkd (fun J hF hT => ?_))
          have hFt := FrTr.tr hFt hF
          refine g_goto (q := 79) dX7_ask_71 (by decide) ?_
          refine g_iret rfl dX7_ask_79 (Nat.le_refl _) (Nat.le_refl _) ?_
          rw [askS, if_pos y2, if_pos y11, nI_clamp (by omega), if_neg c41] at h
          exact h _ (hr.trc hFt hT) hFt.m
        · refine g_iload_n (q := 45) dX7_ask_44 rfl rfl ?_
          refine g_if_eq (tgt := 56) (q := 48) dX7_ask_45 (by decide) rfl (fun c45 => absurd c45 (by decide)) (fun _ => ?_)
          refine g_aload_n (q := 49) dX7_ask_48 rfl rfl ?_
          refine g_iload_n (q := 50) dX7_ask_49 rfl rfl ?_
          refine k_X7_278 (q := 53) rfl (Nat.le_of_ble_eq_true rfl) (by first | assumption | rfl) dX7_ask_50 rfl (c_rSize5 hM hVg ha hT hkd (fun J hF hT => ?_))
          have hFt := FrTr.tr hFt hF
          refine g_goto (q := 61) dX7_ask_53 (by decide) ?_
          refine g_iret rfl dX7_ask_61 (Nat.le_refl _) (Nat.le_refl _) ?_
          rw [askS, if_pos y2, if_pos y11, nI_clamp (by omega), if_pos c41] at h
          exact h _ (hr.trc hFt hT) hFt.m
    · refine g_if_ne (tgt := 20) (q := 17) dX7_ask_14 (by decide) rfl (fun c14 => absurd c14 (by decide)) (fun _ => ?_)
      refine lc_X7_70 (q := 19) rfl dX7_ask_17 rfl ?_
      refine g_iret rfl dX7_ask_19 (Nat.le_refl _) (Nat.le_refl _) ?_
      rw [askS, if_pos z2, if_neg z11] at h
      exact h I hr FrM.rf
  · refine g_if_eq (tgt := 17) (q := 8) dX7_ask_5 (by decide) rfl (fun _ => ?_) (fun c5 => absurd c5 (by decide))
    refine lc_X7_70 (q := 19) rfl dX7_ask_17 rfl ?_
    refine g_iret rfl dX7_ask_19 (Nat.le_refl _) (Nat.le_refl _) ?_
    rw [askS, if_neg z2] at h
    exact h I hr FrM.rf
