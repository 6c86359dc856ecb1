theorem lN_div {a b : Nat} (ha : a < 2 ^ 63) (hb : b < 2 ^ 63) : lN a / lN b = lN (a / b) := (Int64.ofNat_div ha hb).symm
theorem lN_rem {a b : Nat} (ha : a < 2 ^ 63) (hb : b < 2 ^ 63) : lN a - lN a / lN b * lN b = lN (a % b) := by
  rw [lN_div ha hb, lN_mul, lN_sub (Nat.div_mul_le_self a b)]
  congr 1
  have := Nat.div_add_mod a b
  rw [Nat.mul_comm] at this
  omega
theorem lN_ne0 {n : Nat} (h0 : 0 < n) (h : n < 2 ^ 31) : ¬ lN n = 0 := fun z => by
  have := (lN_eq (a := n) (b := 0) h (by decide)).mp z
  omega
theorem nextF_lt (x : Nat) : nextF x < 2147483647 := Nat.mod_lt _ (by decide)
theorem add_0I (a : Int32) : a + nI 0 = a := by rw [nI_0]; exact Int32.add_zero a

set_option maxRecDepth 100000 in
set_option maxHeartbeats 400000 in
theorem l_drawn {d n : Nat} {sd w : Int32} {S : Sg} {I0 : Nat → Nat → Int32} {Q : Option Int32 → Wd → Prop} (hnm : 0 < vnm (gv S)) (hn : n ≤ 20) : ∀ (t i x : Nat) (acc : Int32) (I : Nat → Nat → Int32) (k : Nat), i + t = n → x < 2147483647 → (k = 4 ∨ k = 10) → RepC I S → FrC I0 I → (∀ I2 k2, RepC I2 S → FrC I0 I2 → (k2 = 4 ∨ k2 = 10) → Q (some (drawF (gv S) w t x acc)) (I2, RR k2)) → G mX6_drawn (rmd (d + 150) 0 0) (Zm Q 68 68 0 0) 68 59 [.ref 0, .int (nI n), .int sd, .int w, .int (nI (vnm (gv S))), .long (lN x), .null, .int acc, .int (nI i)] [] 68 (I, RR k) 0 0 := by
  intro t
  induction t with
  | zero =>
    intro i x acc I k hi hx hk hr hFI h
    have hi : i = n := by omega
    subst hi
    refine g_iload (q := 61) dX6_drawn_59 rfl rfl ?_
    refine g_iload_n (q := 62) dX6_drawn_61 rfl rfl ?_
    refine g_icmp_ge (tgt := 156) (q := 65) dX6_drawn_62 (by decide) rfl (fun _ => ?_) (fun c62 => absurd (nI_le (by omega) (by omega)) c62)
    refine g_iload (q := 158) dX6_drawn_156 rfl rfl ?_
    refine g_iret rfl dX6_drawn_158 (Nat.le_refl _) (Nat.le_refl _) ?_
    exact h I k hr hFI hk
  | succ t ih =>
    intro i x acc I k hi hx hk hr hFI h
    have hC : CRep I 4 (gv S) := hr.2.2.2.2.1.1
    have hV : VOk (gv S) := hr.2.2.2.2.1.2
    obtain ⟨v1, v2, v3, v4⟩ := id hV
    have hW := wv4 k
    have hy := nextF_lt x
    have hmm : nextF x % vnm (gv S) < vnm (gv S) := Nat.mod_lt _ hnm
    have hxx : nextF x / 8 % 6 < 10 := Nat.lt_of_lt_of_le (Nat.mod_lt _ (by decide)) (by decide)
    rw [drawF] at h
    refine g_iload (q := 61) dX6_drawn_59 rfl rfl ?_
    refine g_iload_n (q := 62) dX6_drawn_61 rfl rfl ?_
    refine g_icmp_ge (tgt := 156) (q := 65) dX6_drawn_62 (by decide) rfl (fun c62 => absurd c62 (nI_ge (by omega) (by omega))) (fun _ => ?_)
    refine g_lload (q := 67) dX6_drawn_65 rfl rfl ?_
    refine lc_X6_250 (q := 70) rfl dX6_drawn_67 rfl ?_
    refine g_lmul (q := 71) dX6_drawn_70 rfl ?_
    rw [show (16807 : Int64) = lN 16807 from rfl, lN_mul]
    refine lc_X6_252 (q := 74) rfl dX6_drawn_71 rfl ?_
    refine g_lrem (q := 75) dX6_drawn_74 rfl (by decide) ?_
    rw [show (2147483647 : Int64) = lN 2147483647 from rfl, lN_rem (by omega) (by decide), show x * 16807 % 2147483647 = nextF x from rfl]
    refine g_lstore (q := 77) dX6_drawn_75 rfl (by decide) rfl rfl ?_
    refine g_aload_n (q := 78) dX6_drawn_77 rfl rfl ?_
    refine gf_X6_48 (q := 81) rfl (by first | assumption | rfl) (by first | assumption | rfl) dX6_drawn_78 rfl ?_
    refine g_aload_n (q := 82) dX6_drawn_81 rfl rfl ?_
    refine gf_X6_25 (q := 85) rfl (by first | assumption | rfl) (by first | assumption | rfl) dX6_drawn_82 rfl ?_
    refine g_lload (q := 87) dX6_drawn_85 rfl rfl ?_
    refine g_iload (q := 89) dX6_drawn_87 rfl rfl ?_
    refine g_i2l (q := 90) dX6_drawn_89 rfl ?_
    rw [nI_l (by omega)]
    refine g_lrem (q := 91) dX6_drawn_90 rfl (lN_ne0 hnm (by omega)) ?_
    rw [lN_rem (by omega) (by omega)]
    refine g_l2i (q := 92) dX6_drawn_91 rfl ?_
    rw [lN_i]
    refine g_lload (q := 94) dX6_drawn_92 rfl rfl ?_
    refine lc_X6_254 (q := 97) rfl dX6_drawn_94 rfl ?_
    refine g_ldiv (q := 98) dX6_drawn_97 rfl (by decide) ?_
    rw [show (8 : Int64) = lN 8 from rfl, lN_div (by omega) (by decide)]
    refine lc_X6_256 (q := 101) rfl dX6_drawn_98 rfl ?_
    refine g_lrem (q := 102) dX6_drawn_101 rfl (by decide) ?_
    rw [show (6 : Int64) = lN 6 from rfl, lN_rem (by omega) (by decide)]
    refine g_l2i (q := 103) dX6_drawn_102 rfl ?_
    rw [lN_i]
    refine k_X6_203 (q := 106) rfl (Nat.le_of_ble_eq_true rfl) (by first | assumption | rfl) dX6_drawn_103 rfl (c_make_at (by omega) (Or.inl rfl) hC hV hmm hxx (fun I2 hF hP => ?_))
    have hr2 := hr.scr (scr_fr hF)
    have hF2 := hFI.tr (frc_run hF)
    generalize hres : enF (gv S) (nextF x / 8 % 6) (nextF x % vnm (gv S)) 0 s0 = res at hP h
    refine g_aload_n (q := 107) dX6_drawn_106 rfl rfl ?_
    refine gf_X6_48 (q := 110) rfl (by first | assumption | rfl) (by first | assumption | rfl) dX6_drawn_107 rfl ?_
    refine k_X6_206 (q := 113) rfl (Nat.le_of_ble_eq_true rfl) (by first | assumption | rfl) dX6_drawn_110 rfl (c_X3_isFull (fun _ zf => ?_) (fun zf => ?_) hP.full)
    · have hn : res = none := by
        cases res with
        | none => rfl
        | some q => exact absurd (hP.1.2.2.2.1.symm.trans zf) (by decide)
      refine g_if_ne (tgt := 150) (q := 116) dX6_drawn_113 (by decide) rfl (fun _ => ?_) (fun c113 => absurd c113 (by decide))
      refine g_iincn (q := 153) dX6_drawn_150 rfl rfl (by decide) rfl rfl ?_
      refine g_goto (q := 59) dX6_drawn_153 (by decide) ?_
      refine ih (i + 1) (nextF x) _ I2 4 (by omega) hy (Or.inl rfl) hr2 hF2 ?_
      rw [hn, oneF, add_0I] at h
      exact h
    · obtain ⟨q, rfl⟩ : ∃ q, res = some q := by
        cases res with
        | none => exact absurd (zf.symm.trans hP) (by decide)
        | some q => exact ⟨q, rfl⟩
      refine g_if_ne (tgt := 150) (q := 116) dX6_drawn_113 (by decide) rfl (fun c113 => absurd c113 (by decide)) (fun _ => ?_)
      refine g_iload (q := 118) dX6_drawn_116 rfl rfl ?_
      refine g_iload_n (q := 119) dX6_drawn_118 rfl rfl ?_
      refine g_if_ne (tgt := 132) (q := 122) dX6_drawn_119 (by decide) rfl (fun c119 => ?_) (fun c119 => ?_)
      · refine g_aload_n (q := 133) dX6_drawn_132 rfl rfl ?_
        refine gf_X6_48 (q := 136) rfl (by first | assumption | rfl) (by first | assumption | rfl) dX6_drawn_133 rfl ?_
        refine k_X6_225 (q := 139) rfl (Nat.le_of_ble_eq_true rfl) (by first | assumption | rfl) dX6_drawn_136 rfl (c_X3_fails (fun u1 u2 => ?_) (fun z136 => ?_))
        · have hs := (fails_iff hP).mp ⟨u1, u2⟩
          refine g_if_eq (tgt := 146) (q := 142) dX6_drawn_139 (by decide) rfl (fun c139 => absurd c139 (by decide)) (fun _ => ?_)
          refine g_iconst (q := 143) (v := nI 1) dX6_drawn_142 rfl (by decide) ?_
          refine g_goto (q := 147) dX6_drawn_143 (by decide) ?_
          refine g_iadd (q := 148) dX6_drawn_147 rfl ?_
          refine g_istore (q := 150) dX6_drawn_148 rfl (by decide) rfl rfl ?_
          refine g_iincn (q := 153) dX6_drawn_150 rfl rfl (by decide) rfl rfl ?_
          refine g_goto (q := 59) dX6_drawn_153 (by decide) ?_
          refine ih (i + 1) (nextF x) _ I2 4 (by omega) hy (Or.inl rfl) hr2 hF2 ?_
          simp only [failsF, Bool.not_eq_true', beq_eq_false_iff_ne, ne_eq] at hs
          rw [oneF, if_neg c119, if_neg hs] at h
          exact h
        · have hs : ¬ _ := fun z => z136 ((fails_iff hP).mpr z)
          refine g_if_eq (tgt := 146) (q := 142) dX6_drawn_139 (by decide) rfl (fun _ => ?_) (fun c139 => absurd c139 (by decide))
          refine g_iconst (q := 147) (v := nI 0) dX6_drawn_146 rfl (by decide) ?_
          refine g_iadd (q := 148) dX6_drawn_147 rfl ?_
          refine g_istore (q := 150) dX6_drawn_148 rfl (by decide) rfl rfl ?_
          refine g_iincn (q := 153) dX6_drawn_150 rfl rfl (by decide) rfl rfl ?_
          refine g_goto (q := 59) dX6_drawn_153 (by decide) ?_
          refine ih (i + 1) (nextF x) _ I2 4 (by omega) hy (Or.inl rfl) hr2 hF2 ?_
          simp only [failsF, Bool.not_eq_true', beq_eq_false_iff_ne, ne_eq, Decidable.not_not] at hs
          rw [oneF, if_neg c119, if_pos hs] at h
          exact h
      · refine g_aload_n (q := 123) dX6_drawn_122 rfl rfl ?_
        refine gf_X6_48 (q := 126) rfl (by first | assumption | rfl) (by first | assumption | rfl) dX6_drawn_123 rfl ?_
        refine k_X6_209 (q := 129) rfl (Nat.le_of_ble_eq_true rfl) (by first | assumption | rfl) dX6_drawn_126 rfl (c_X3_size ?_)
        rw [hP.1.1]
        refine g_goto (q := 147) dX6_drawn_129 (by decide) ?_
        refine g_iadd (q := 148) dX6_drawn_147 rfl ?_
        refine g_istore (q := 150) dX6_drawn_148 rfl (by decide) rfl rfl ?_
        refine g_iincn (q := 153) dX6_drawn_150 rfl rfl (by decide) rfl rfl ?_
        refine g_goto (q := 59) dX6_drawn_153 (by decide) ?_
        refine ih (i + 1) (nextF x) _ I2 4 (by omega) hy (Or.inl rfl) hr2 hF2 ?_
        rw [oneF, if_pos c119] at h
        exact h
set_option maxRecDepth 100000 in
set_option maxHeartbeats 400000 in
theorem c_X6_drawn {d k : Nat} {I : Nat → Nat → Int32} {Q : Option Int32 → Wd → Prop} {S : Sg} {n sd w : Int32} (hk : k = 4 ∨ k = 10) (hr : RepC I S) (h : ∀ I2 k2, RepC I2 (drawnS S n sd w).2 → FrC I I2 → (k2 = 4 ∨ k2 = 10) → Q (some (drawnS S n sd w).1) (I2, RR k2)) : Ex (d + 150) 0 0 mX6_drawn [.ref 0, .int n, .int sd, .int w] 68 (I, RR k) 68 Q := by
  have hC : CRep I 4 (gv S) := hr.2.2.2.2.1.1
  have hV : VOk (gv S) := hr.2.2.2.2.1.2
  obtain ⟨v1, v2, v3, v4⟩ := id hV
  have hW := wv4 k
  refine ex_intro (L0 := [.ref 0, .int n, .int sd, .int w, .null, .null, .null, .null, .null]) (by decide +kernel) rfl rfl (Nat.le_of_ble_eq_true rfl) rfl ?_
  refine g_aload_n (q := 1) dX6_drawn_0 rfl rfl ?_
  refine gf_X6_25 (q := 4) rfl (by first | assumption | rfl) (by first | assumption | rfl) dX6_drawn_1 rfl ?_
  refine k_X6_131 (q := 7) rfl (Nat.le_of_ble_eq_true rfl) (by first | assumption | rfl) dX6_drawn_4 rfl (c_X5_methods hW ?_)
  rw [hC.1]
  refine g_istore (q := 9) dX6_drawn_7 rfl (by decide) rfl rfl ?_
  refine g_iload (q := 11) dX6_drawn_9 rfl rfl ?_
  refine g_if_ne (tgt := 17) (q := 14) dX6_drawn_11 (by decide) rfl (fun c11 => ?_) (fun c11 => ?_)
  · refine g_iload_n (q := 18) dX6_drawn_17 rfl rfl ?_
    refine g_iconst (q := 19) (v := nI 0) dX6_drawn_18 rfl (by decide) ?_
    refine g_bipush (q := 21) (v := nI 20) dX6_drawn_19 rfl (by decide) ?_
    refine k_X6_71 (q := 24) rfl (Nat.le_of_ble_eq_true rfl) dX6_drawn_21 rfl (c_X6_isWithin (fun z211 z212 => ?_) (fun z21 => ?_))
    · have z21 := And.intro z211 z212
      refine g_if_eq (tgt := 46) (q := 27) dX6_drawn_24 (by decide) rfl (fun c24 => absurd c24 (by decide)) (fun _ => ?_)
      refine g_iload_n (q := 28) dX6_drawn_27 rfl rfl ?_
      refine g_iconst (q := 29) (v := nI 1) dX6_drawn_28 rfl (by decide) ?_
      refine lc_X6_249 (q := 31) rfl dX6_drawn_29 rfl ?_
      refine k_X6_71 (q := 34) rfl (Nat.le_of_ble_eq_true rfl) dX6_drawn_31 rfl (c_X6_isWithin (fun z311 z312 => ?_) (fun z31 => ?_))
      · have z31 := And.intro z311 z312
        refine g_if_eq (tgt := 46) (q := 37) dX6_drawn_34 (by decide) rfl (fun c34 => absurd c34 (by decide)) (fun _ => ?_)
        refine g_iload_n (q := 38) dX6_drawn_37 rfl rfl ?_
        refine g_iconst (q := 39) (v := nI 0) dX6_drawn_38 rfl (by decide) ?_
        refine g_iconst (q := 40) (v := nI 1) dX6_drawn_39 rfl (by decide) ?_
        refine k_X6_71 (q := 43) rfl (Nat.le_of_ble_eq_true rfl) dX6_drawn_40 rfl (c_X6_isWithin (fun z401 z402 => ?_) (fun z40 => ?_))
        · have z40 := And.intro z401 z402
          refine g_if_ne (tgt := 49) (q := 46) dX6_drawn_43 (by decide) rfl (fun _ => ?_) (fun c43 => absurd c43 (by decide))
          have y21 := z21
          have y31 := z31
          have y40 := z40
          have hnm : ¬ vnm (gv S) = 0 := fun e => c11 (by rw [e]; rfl)
          obtain ⟨n, hn, rfl⟩ := inR_nat (by decide) z21
          obtain ⟨sd, hsd, rfl⟩ := inR_nat (N := 999999) (by decide) ⟨Int32.le_trans (by decide) z31.1, z31.2⟩
          rw [drawnS, if_neg hnm, if_pos y21, if_pos y31, if_pos y40, nI_clamp (by omega), nI_clamp (by omega)] at h
          refine g_iload_n (q := 50) dX6_drawn_49 rfl rfl ?_
          refine g_i2l (q := 51) dX6_drawn_50 rfl ?_
          rw [nI_l (by omega)]
          refine g_lstore (q := 53) dX6_drawn_51 rfl (by decide) rfl rfl ?_
          refine g_iconst (q := 54) (v := nI 0) dX6_drawn_53 rfl (by decide) ?_
          refine g_istore (q := 56) dX6_drawn_54 rfl (by decide) rfl rfl ?_
          refine g_iconst (q := 57) (v := nI 0) dX6_drawn_56 rfl (by decide) ?_
          refine g_istore (q := 59) dX6_drawn_57 rfl (by decide) rfl rfl ?_
          exact l_drawn (by omega) hn n 0 sd (nI 0) I k (by omega) (by omega) hk hr FrC.rf h
        · refine g_if_ne (tgt := 49) (q := 46) dX6_drawn_43 (by decide) rfl (fun c43 => absurd c43 (by decide)) (fun _ => ?_)
          refine lc_X6_75 (q := 48) rfl dX6_drawn_46 rfl ?_
          refine g_iret rfl dX6_drawn_48 (Nat.le_refl _) (Nat.le_refl _) ?_
          have hnm : ¬ vnm (gv S) = 0 := fun e => c11 (by rw [e]; rfl)
          rw [drawnS, if_neg hnm, if_pos z21, if_pos z31, if_neg z40] at h
          exact h I k hr FrC.rf hk
      · refine g_if_eq (tgt := 46) (q := 37) dX6_drawn_34 (by decide) rfl (fun _ => ?_) (fun c34 => absurd c34 (by decide))
        refine lc_X6_75 (q := 48) rfl dX6_drawn_46 rfl ?_
        refine g_iret rfl dX6_drawn_48 (Nat.le_refl _) (Nat.le_refl _) ?_
        have hnm : ¬ vnm (gv S) = 0 := fun e => c11 (by rw [e]; rfl)
        rw [drawnS, if_neg hnm, if_pos z21, if_neg z31] at h
        exact h I k hr FrC.rf hk
    · refine g_if_eq (tgt := 46) (q := 27) dX6_drawn_24 (by decide) rfl (fun _ => ?_) (fun c24 => absurd c24 (by decide))
      refine lc_X6_75 (q := 48) rfl dX6_drawn_46 rfl ?_
      refine g_iret rfl dX6_drawn_48 (Nat.le_refl _) (Nat.le_refl _) ?_
      have hnm : ¬ vnm (gv S) = 0 := fun e => c11 (by rw [e]; rfl)
      rw [drawnS, if_neg hnm, if_neg z21] at h
      exact h I k hr FrC.rf hk
  · refine lc_X6_144 (q := 16) rfl dX6_drawn_14 rfl ?_
    refine g_iret rfl dX6_drawn_16 (Nat.le_refl _) (Nat.le_refl _) ?_
    rw [drawnS, if_pos ((nI_eq (b := 0) (by omega) (by omega)).mp c11)] at h
    exact h I k hr FrC.rf hk
