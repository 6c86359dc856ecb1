def rvM (q : Rs × Nat × Int32) : Int32 := if q.2.1 = 0 then q.2.2 else nI 0
theorem msame_iff {v : Vv} {I : Nat → Nat → Int32} {r : Res} {q : Rs × Nat × Int32} (h : MPo v I r) (hl : q.1.1.length ≤ 99) (hf : q.2.1 < 10) : (I 52 29 = 0 ∧ nI q.1.1.length = I 52 24 ∧ nI q.2.1 = I 52 25 ∧ rvM q = I 52 26) ↔ sameF q r = true := by
  cases r with
  | none =>
    constructor
    · intro z; exact absurd (z.1.symm.trans h) (by decide)
    · intro z; cases z
  | some p =>
    obtain ⟨h1, h2, h3, pf⟩ := h
    have pl := h1.2.2.2.2.2.2.1
    have e1 := nI_eq (a := q.1.1.length) (b := p.1.1.length) (by omega) (by omega)
    have e2 := nI_eq (a := q.2.1) (b := p.2.1) (by omega) (by omega)
    rw [h1.2.1, h2, h3]
    have hs : sameF q (some p) = true ↔ (p.1.1.length = q.1.1.length ∧ p.2.1 = q.2.1 ∧ (¬ p.2.1 = 0 ∨ p.2.2 = q.2.2)) := by
      simp [sameF, and_assoc]
    rw [hs]
    constructor
    · rintro ⟨-, g1, g2, g3⟩
      have g2 := (e2.mp g2).symm
      refine ⟨(e1.mp g1).symm, g2, ?_⟩
      by_cases z : p.2.1 = 0
      · rw [rvM, if_pos z, if_pos (g2 ▸ z)] at g3
        exact Or.inr g3.symm
      · exact Or.inl z
    · rintro ⟨g1, g2, g3⟩
      refine ⟨h1.2.2.2.2.1, e1.mpr g1.symm, e2.mpr g2.symm, ?_⟩
      unfold rvM
      rw [← g2]
      by_cases z : p.2.1 = 0
      · rw [if_pos z, if_pos z]; exact (g3.resolve_left (fun y => y z)).symm
      · rw [if_neg z, if_neg z]
/-- the row that is tried with is nobody's -/
theorem RepM.tri {I J : Nat → Nat → Int32} {S : Sg} (h : RepM I S) (e : ∀ p, p ≠ 60 → J p = I p) : RepM J S := by
  obtain ⟨h1, h2, h3, h4, h5, h6, h7, h8⟩ := h
  have e0 := e 52 (by decide)
  exact ⟨h1.eq (e 53 (by decide)) (e 54 (by decide)) (e 55 (by decide)), by rw [e0]; exact h2, h3.eq (by rw [e0]) (e 57 (by decide)), by rw [e0]; exact h4, ⟨h5.1.eq (e 58 (by decide)), h5.2⟩, h6.eq (by rw [e0]) (e 61 (by decide)), h7.eq (e 62 (by decide)) (e 63 (by decide)), h8.eq (by rw [e0]) (e 67 (by decide))⟩
theorem MRep.cp {I : Nat → Nat → Int32} {v : Vv} (h : MRep I 58 0 v) (hV : VOk v) : MRep (cpI I 58 0 60 0 92) 60 0 v := h.of hV (fun j hj => cpI_eq hj)

set_option maxRecDepth 100000 in
set_option maxHeartbeats 400000 in
theorem l_mneeded {d k m x : Nat} {S : Sg} {q : Rs × Nat × Int32} {I0 : Nat → Nat → Int32} {Q : Option Int32 → Wd → Prop} (hm : m < vnm (gv S)) (hx : x < 10) (hl : q.1.1.length ≤ 99) (hf : q.2.1 < 10) : ∀ (n a : Nat) (I : Nat → Nat → Int32), a + n = vna (gv S) → RepM I S → FrM I0 I → (∀ I2, RepM I2 S → FrM I0 I2 → Q (some (nI (neededF (gv S) x m q))) (I2, RR k)) → G mX7_needed (rmd (d + 6) 0 0) (Zm Q 68 68 0 0) 68 64 [.ref 52, .int (nI m), .int (nI x), .int (nI q.1.1.length), .int (nI q.2.1), .int (rvM q), .int (nI (orN a (fun a => if sameF q (enF (setFa (gv S) a 3 0) x m 0 s0) = true then 0 else 1 <<< a))), .int (nI a)] [] 68 (I, RR k) 0 0 := by
  intro n
  induction n with
  | zero =>
    intro a I ha hr hFI h
    have ha : a = vna (gv S) := by omega
    subst ha
    have hVg : VOk (gv S) := hr.2.2.2.2.1.2
    have hMg : MRep I 58 0 (gv S) := hr.2.2.2.2.1.1
    obtain ⟨v1, v2, v3, v4⟩ := id hVg
    refine g_iload (q := 66) dX7_needed_64 rfl rfl ?_
    refine g_aload_n (q := 67) dX7_needed_66 rfl rfl ?_
    refine gf_X7_25 (q := 70) rfl (by first | assumption | rfl) (by first | assumption | rfl) dX7_needed_67 rfl ?_
    refine g_iconst (q := 71) (v := nI 1) dX7_needed_70 rfl (by decide) ?_
    refine g_ialdn (q := 72) (by first | assumption | rfl) (by repeat' first | apply nI_a | apply nI_m | exact rfl) (by omega) dX7_needed_71 rfl ?_
    rw [hMg.na]
    refine g_icmp_ge (tgt := 166) (q := 75) dX7_needed_72 (by decide) rfl (fun _ => ?_) (fun c72 => absurd (nI_le (by omega) (by omega)) c72)
    refine g_iload (q := 168) dX7_needed_166 rfl rfl ?_
    refine g_iret rfl dX7_needed_168 (Nat.le_refl _) (Nat.le_refl _) ?_
    exact h I hr hFI
  | succ n ih =>
    intro a I ha hr hFI h
    have hVg : VOk (gv S) := hr.2.2.2.2.1.2
    have hMg : MRep I 58 0 (gv S) := hr.2.2.2.2.1.1
    obtain ⟨v1, v2, v3, v4⟩ := id hVg
    have hna : a < vna (gv S) := by omega
    have hVa : VOk (setFa (gv S) a 3 0) := VOk_setFa hVg ⟨fun z => absurd z (by decide), fun z => absurd z (by decide), fun z => absurd z (by decide), fun _ => by decide, fun z => absurd z (by decide), fun z => absurd z (by decide)⟩
    have hMa : MRep (uI (cpI I 58 0 60 0 92) 60 (62 + 6 * a + 4) (nI 0)) 60 0 (setFa (gv S) a 3 0) := MRep_setFa (MRep.cp hMg hVg) hVg (by decide) rfl
    refine g_iload (q := 66) dX7_needed_64 rfl rfl ?_
    refine g_aload_n (q := 67) dX7_needed_66 rfl rfl ?_
    refine gf_X7_25 (q := 70) rfl (by first | assumption | rfl) (by first | assumption | rfl) dX7_needed_67 rfl ?_
    refine g_iconst (q := 71) (v := nI 1) dX7_needed_70 rfl (by decide) ?_
    refine g_ialdn (q := 72) (by first | assumption | rfl) (by repeat' first | apply nI_a | apply nI_m | exact rfl) (by omega) dX7_needed_71 rfl ?_
    rw [hMg.na]
    refine g_icmp_ge (tgt := 166) (q := 75) dX7_needed_72 (by decide) rfl (fun c72 => absurd c72 (nI_ge (by omega) (by omega))) (fun _ => ?_)
    refine g_aload_n (q := 76) dX7_needed_75 rfl rfl ?_
    refine gf_X7_25 (q := 79) rfl (by first | assumption | rfl) (by first | assumption | rfl) dX7_needed_76 rfl ?_
    refine g_iconst (q := 80) (v := nI 0) dX7_needed_79 rfl (by decide) ?_
    refine g_aload_n (q := 81) dX7_needed_80 rfl rfl ?_
    refine gf_X7_31 (q := 84) rfl (by first | assumption | rfl) (by first | assumption | rfl) dX7_needed_81 rfl ?_
    refine g_iconst (q := 85) (v := nI 0) dX7_needed_84 rfl (by decide) ?_
    refine k_X7_151 (q := 88) rfl (Nat.le_of_ble_eq_true rfl) dX7_needed_85 rfl (c_copies rfl rfl (by decide) (by decide) (by decide) ?_)
    refine g_aload_n (q := 89) dX7_needed_88 rfl rfl ?_
    refine gf_X7_31 (q := 92) rfl (by first | assumption | rfl) (by first | assumption | rfl) dX7_needed_89 rfl ?_
    refine g_bipush (q := 94) (v := nI 62) dX7_needed_92 rfl (by decide) ?_
    refine g_bipush (q := 96) (v := nI 6) dX7_needed_94 rfl (by decide) ?_
    refine g_iload (q := 98) dX7_needed_96 rfl rfl ?_
    refine g_imul (q := 99) dX7_needed_98 rfl ?_
    refine g_iadd (q := 100) dX7_needed_99 rfl ?_
    refine g_iconst (q := 101) (v := nI 4) dX7_needed_100 rfl (by decide) ?_
    refine g_iadd (q := 102) dX7_needed_101 rfl ?_
    refine g_iconst (q := 103) (v := nI 0) dX7_needed_102 rfl (by decide) ?_
    refine g_iastn (q := 104) (by first | assumption | rfl) (by repeat' first | apply nI_a | apply nI_m | exact rfl) (by omega) dX7_needed_103 rfl ?_
    refine g_aload_n (q := 105) dX7_needed_104 rfl rfl ?_
    refine g_aload_n (q := 106) dX7_needed_105 rfl rfl ?_
    refine gf_X7_31 (q := 109) rfl (by first | assumption | rfl) (by first | assumption | rfl) dX7_needed_106 rfl ?_
    refine g_iload_n (q := 110) dX7_needed_109 rfl rfl ?_
    refine g_iload_n (q := 111) dX7_needed_110 rfl rfl ?_
    refine k_X7_245 (q := 114) rfl (Nat.le_of_ble_eq_true rfl) (by first | assumption | rfl) dX7_needed_111 rfl (c_X7_runs (Or.inr rfl) rfl hMa hVa hm hx (fun J hF hP => ?_))
    have e60 : ∀ p, p ≠ 60 → uI (cpI I 58 0 60 0 92) 60 (62 + 6 * a + 4) (nI 0) p = I p := fun p hp => (uI_ne hp).trans (cpI_ne hp)
    have hr2 := (hr.tri e60).run hF
    have hF2 : FrM I0 J := hFI.tr (FrM.tr (fun p hp => e60 p (by omega)) hF.m)
    have hen := msame_iff hP hl hf
    refine g_iload (q := 116) dX7_needed_114 rfl rfl ?_
    refine g_aload_n (q := 117) dX7_needed_116 rfl rfl ?_
    refine gf_X7_179 (q := 120) rfl (by first | assumption | rfl) dX7_needed_117 rfl ?_
    refine g_if_ne (tgt := 149) (q := 123) dX7_needed_120 (by decide) rfl (fun c120 => ?_) (fun c120 => ?_)
    · refine g_iconst (q := 150) (v := nI 1) dX7_needed_149 rfl (by decide) ?_
      refine g_iload (q := 152) dX7_needed_150 rfl rfl ?_
      refine g_ishl (q := 153) dX7_needed_152 rfl ?_
      rw [bit_shG a (by omega)]
      refine g_goto (q := 157) dX7_needed_153 (by decide) ?_
      refine g_ior (q := 158) dX7_needed_157 rfl ?_
      rw [bit_orG]
      refine g_istore (q := 160) dX7_needed_158 rfl (by decide) rfl rfl ?_
      refine g_iincn (q := 163) dX7_needed_160 rfl rfl (by decide) rfl rfl ?_
      refine g_goto (q := 64) dX7_needed_163 (by decide) ?_
      have hn := ih (a + 1) J (by omega) hr2 hF2 h
      rw [orN, if_neg (fun z => c120 (hen.mpr z).1)] at hn
      exact hn
    · refine g_iload_n (q := 124) dX7_needed_123 rfl rfl ?_
      refine g_aload_n (q := 125) dX7_needed_124 rfl rfl ?_
      refine gf_X7_176 (q := 128) rfl (by first | assumption | rfl) dX7_needed_125 rfl ?_
      refine g_icmp_ne (tgt := 149) (q := 131) dX7_needed_128 (by decide) rfl (fun c128 => ?_) (fun c128 => ?_)
      · refine g_iconst (q := 150) (v := nI 1) dX7_needed_149 rfl (by decide) ?_
        refine g_iload (q := 152) dX7_needed_150 rfl rfl ?_
        refine g_ishl (q := 153) dX7_needed_152 rfl ?_
        rw [bit_shG a (by omega)]
        refine g_goto (q := 157) dX7_needed_153 (by decide) ?_
        refine g_ior (q := 158) dX7_needed_157 rfl ?_
        rw [bit_orG]
        refine g_istore (q := 160) dX7_needed_158 rfl (by decide) rfl rfl ?_
        refine g_iincn (q := 163) dX7_needed_160 rfl rfl (by decide) rfl rfl ?_
        refine g_goto (q := 64) dX7_needed_163 (by decide) ?_
        have hn := ih (a + 1) J (by omega) hr2 hF2 h
        rw [orN, if_neg (fun z => c128 (hen.mpr z).2.1)] at hn
        exact hn
      · refine g_iload (q := 133) dX7_needed_131 rfl rfl ?_
        refine g_aload_n (q := 134) dX7_needed_133 rfl rfl ?_
        refine gf_X7_204 (q := 137) rfl (by first | assumption | rfl) dX7_needed_134 rfl ?_
        refine g_icmp_ne (tgt := 149) (q := 140) dX7_needed_137 (by decide) rfl (fun c137 => ?_) (fun c137 => ?_)
        · refine g_iconst (q := 150) (v := nI 1) dX7_needed_149 rfl (by decide) ?_
          refine g_iload (q := 152) dX7_needed_150 rfl rfl ?_
          refine g_ishl (q := 153) dX7_needed_152 rfl ?_
          rw [bit_shG a (by omega)]
          refine g_goto (q := 157) dX7_needed_153 (by decide) ?_
          refine g_ior (q := 158) dX7_needed_157 rfl ?_
          rw [bit_orG]
          refine g_istore (q := 160) dX7_needed_158 rfl (by decide) rfl rfl ?_
          refine g_iincn (q := 163) dX7_needed_160 rfl rfl (by decide) rfl rfl ?_
          refine g_goto (q := 64) dX7_needed_163 (by decide) ?_
          have hn := ih (a + 1) J (by omega) hr2 hF2 h
          rw [orN, if_neg (fun z => c137 (hen.mpr z).2.2.1)] at hn
          exact hn
        · refine g_iload (q := 142) dX7_needed_140 rfl rfl ?_
          refine g_aload_n (q := 143) dX7_needed_142 rfl rfl ?_
          refine gf_X7_207 (q := 146) rfl (by first | assumption | rfl) dX7_needed_143 rfl ?_
          refine g_icmp_eq (tgt := 156) (q := 149) dX7_needed_146 (by decide) rfl (fun c146 => ?_) (fun c146 => ?_)
          · refine g_iconst (q := 157) (v := nI 0) dX7_needed_156 rfl (by decide) ?_
            refine g_ior (q := 158) dX7_needed_157 rfl ?_
            rw [bit_orG]
            refine g_istore (q := 160) dX7_needed_158 rfl (by decide) rfl rfl ?_
            refine g_iincn (q := 163) dX7_needed_160 rfl rfl (by decide) rfl rfl ?_
            refine g_goto (q := 64) dX7_needed_163 (by decide) ?_
            have hn := ih (a + 1) J (by omega) hr2 hF2 h
            rw [orN, if_pos (hen.mp ⟨c120, c128, c137, c146⟩)] at hn
            exact hn
          · refine g_iconst (q := 150) (v := nI 1) dX7_needed_149 rfl (by decide) ?_
            refine g_iload (q := 152) dX7_needed_150 rfl rfl ?_
            refine g_ishl (q := 153) dX7_needed_152 rfl ?_
            rw [bit_shG a (by omega)]
            refine g_goto (q := 157) dX7_needed_153 (by decide) ?_
            refine g_ior (q := 158) dX7_needed_157 rfl ?_
            rw [bit_orG]
            refine g_istore (q := 160) dX7_needed_158 rfl (by decide) rfl rfl ?_
            refine g_iincn (q := 163) dX7_needed_160 rfl rfl (by decide) rfl rfl ?_
            refine g_goto (q := 64) dX7_needed_163 (by decide) ?_
            have hn := ih (a + 1) J (by omega) hr2 hF2 h
            rw [orN, if_neg (fun z => c146 (hen.mpr z).2.2.2)] at hn
            exact hn
set_option maxRecDepth 100000 in
set_option maxHeartbeats 400000 in
theorem c_X7_needed {d k : Nat} {I : Nat → Nat → Int32} {Q : Option Int32 → Wd → Prop} {S : Sg} {m x : Int32} (hr : RepM I S) (h : ∀ I2, RepM I2 (neededS S m x).2 → FrM I I2 → Q (some (neededS S m x).1) (I2, RR k)) : Ex (d + 6) 0 0 mX7_needed [.ref 52, .int m, .int x] 68 (I, RR k) 68 Q := by
  have hVg : VOk (gv S) := hr.2.2.2.2.1.2
  have hMg : MRep I 58 0 (gv S) := hr.2.2.2.2.1.1
  obtain ⟨v1, v2, v3, v4⟩ := id hVg

  refine ex_intro (L0 := [.ref 52, .int m, .int x, .null, .null, .null, .null, .null]) (by decide +kernel) rfl rfl (Nat.le_of_ble_eq_true rfl) rfl ?_
  refine g_aload_n (q := 1) dX7_needed_0 rfl rfl ?_
  refine g_iload_n (q := 2) dX7_needed_1 rfl rfl ?_
  refine k_X7_242 (q := 5) rfl (Nat.le_of_ble_eq_true rfl) (by first | assumption | rfl) dX7_needed_2 rfl (c_X7_isMethod hMg (fun z2 => ?_) (fun z2 => ?_))
  · refine g_if_eq (tgt := 18) (q := 8) dX7_needed_5 (by decide) rfl (fun c5 => absurd c5 (by decide)) (fun _ => ?_)
    refine g_iload_n (q := 9) dX7_needed_8 rfl rfl ?_
    refine g_iconst (q := 10) (v := nI 0) dX7_needed_9 rfl (by decide) ?_
    refine g_bipush (q := 12) (v := nI 9) dX7_needed_10 rfl (by decide) ?_
    refine k_X7_62 (q := 15) rfl (Nat.le_of_ble_eq_true rfl) dX7_needed_12 rfl (c_X7_in (fun z121 z122 => ?_) (fun z12 => ?_))
    · have z12 := And.intro z121 z122
      refine g_if_ne (tgt := 21) (q := 18) dX7_needed_15 (by decide) rfl (fun _ => ?_) (fun c15 => absurd c15 (by decide))
      have y2 := z2
      obtain ⟨m, hm, rfl⟩ := in1_nat (by omega) z2
      have y12 := z12
      obtain ⟨x, hx, rfl⟩ := inR_nat (by decide) z12
      rw [neededS, if_pos y2, if_pos y12, nI_clamp (by omega), nI_clamp (by omega)] at h
      refine g_aload_n (q := 22) dX7_needed_21 rfl rfl ?_
      refine g_aload_n (q := 23) dX7_needed_22 rfl rfl ?_
      refine gf_X7_25 (q := 26) rfl (by first | assumption | rfl) (by first | assumption | rfl) dX7_needed_23 rfl ?_
      refine g_iload_n (q := 27) dX7_needed_26 rfl rfl ?_
      refine g_iload_n (q := 28) dX7_needed_27 rfl rfl ?_
      refine k_X7_245 (q := 31) rfl (Nat.le_of_ble_eq_true rfl) (by first | assumption | rfl) dX7_needed_28 rfl (c_X7_runs (Or.inl rfl) rfl hMg hVg hm (by omega) (fun J hF hP => ?_))
      have hr2 := hr.run hF
      have hF2 := hF.m
      cases hres : enF (gv S) x m 0 s0 with
      | none =>
        rw [hres] at hP h
        have hP : J 52 29 = nI 1 := hP
        refine g_aload_n (q := 32) dX7_needed_31 rfl rfl ?_
        refine gf_X7_179 (q := 35) rfl (by first | assumption | rfl) dX7_needed_32 rfl ?_
        rw [hP]
        refine g_if_eq (tgt := 41) (q := 38) dX7_needed_35 (by decide) rfl (fun c35 => absurd c35 (by decide)) (fun _ => ?_)
        refine lc_X7_91 (q := 40) rfl dX7_needed_38 rfl ?_
        refine g_iret rfl dX7_needed_40 (Nat.le_refl _) (Nat.le_refl _) ?_
        exact h J hr2 hF2
      | some q =>
        rw [hres] at hP h
        dsimp only at h
        obtain ⟨hP1, hP2, hP3, hP4⟩ := id hP
        refine g_aload_n (q := 32) dX7_needed_31 rfl rfl ?_
        refine gf_X7_179 (q := 35) rfl (by first | assumption | rfl) dX7_needed_32 rfl ?_
        rw [hP1.2.2.2.2.1]
        refine g_if_eq (tgt := 41) (q := 38) dX7_needed_35 (by decide) rfl (fun _ => ?_) (fun c35 => absurd c35 (by decide))
        refine g_aload_n (q := 42) dX7_needed_41 rfl rfl ?_
        refine gf_X7_176 (q := 45) rfl (by first | assumption | rfl) dX7_needed_42 rfl ?_
        rw [hP1.2.1]
        refine g_istore_n (q := 46) dX7_needed_45 rfl (by decide) rfl rfl ?_
        refine g_aload_n (q := 47) dX7_needed_46 rfl rfl ?_
        refine gf_X7_204 (q := 50) rfl (by first | assumption | rfl) dX7_needed_47 rfl ?_
        rw [hP2]
        refine g_istore (q := 52) dX7_needed_50 rfl (by decide) rfl rfl ?_
        refine g_aload_n (q := 53) dX7_needed_52 rfl rfl ?_
        refine gf_X7_207 (q := 56) rfl (by first | assumption | rfl) dX7_needed_53 rfl ?_
        rw [show J 52 26 = rvM q from hP3]
        refine g_istore (q := 58) dX7_needed_56 rfl (by decide) rfl rfl ?_
        refine g_iconst (q := 59) (v := nI 0) dX7_needed_58 rfl (by decide) ?_
        refine g_istore (q := 61) dX7_needed_59 rfl (by decide) rfl rfl ?_
        refine g_iconst (q := 62) (v := nI 0) dX7_needed_61 rfl (by decide) ?_
        refine g_istore (q := 64) dX7_needed_62 rfl (by decide) rfl rfl ?_
        exact l_mneeded hm (by omega) hP1.2.2.2.2.2.2.1 hP4 (vna (gv S)) 0 J (by omega) hr2 hF2 h
    · refine g_if_ne (tgt := 21) (q := 18) dX7_needed_15 (by decide) rfl (fun c15 => absurd c15 (by decide)) (fun _ => ?_)
      refine lc_X7_70 (q := 20) rfl dX7_needed_18 rfl ?_
      refine g_iret rfl dX7_needed_20 (Nat.le_refl _) (Nat.le_refl _) ?_
      rw [neededS, if_pos z2, if_neg z12] at h
      exact h I hr FrM.rf
  · refine g_if_eq (tgt := 18) (q := 8) dX7_needed_5 (by decide) rfl (fun _ => ?_) (fun c5 => absurd c5 (by decide))
    refine lc_X7_70 (q := 20) rfl dX7_needed_18 rfl ?_
    refine g_iret rfl dX7_needed_20 (Nat.le_refl _) (Nat.le_refl _) ?_
    rw [neededS, if_neg z2] at h
    exact h I hr FrM.rf
set_option maxRecDepth 100000 in
set_option maxHeartbeats 400000 in
theorem l_seen0 {d k m x r z i : Nat} {I : Nat → Nat → Int32} {Q : Option Int32 → Wd → Prop} (hr8 : r < 8) (h : Q (some (nI 0)) (I, RR k)) : G mX7_isSeen (rmd (d + 6) 0 0) (Zm Q 68 68 0 0) 68 40 [.ref 52, .int (nI m), .int (nI x), .int (nI r), .int (nI 0), .int (nI i)] [] 68 (I, RR k) 0 0 := by
  refine g_iload (q := 42) dX7_isSeen_40 rfl rfl ?_
  refine g_aload_n (q := 43) dX7_isSeen_42 rfl rfl ?_
  refine gf_X7_13 (q := 46) rfl (by first | assumption | rfl) (by first | assumption | rfl) dX7_isSeen_43 rfl ?_
  refine g_iload_n (q := 47) dX7_isSeen_46 rfl rfl ?_
  refine g_ialdn (q := 48) (by first | assumption | rfl) (by repeat' first | apply nI_a | apply nI_m | exact rfl) (by omega) dX7_isSeen_47 rfl ?_
  refine g_icmp_ge (tgt := 91) (q := 51) dX7_isSeen_48 (by decide) rfl (fun c48 => ?_) (fun c48 => ?_)
  · refine g_iload (q := 93) dX7_isSeen_91 rfl rfl ?_
    refine g_zret rfl (by decide) dX7_isSeen_93 (Nat.le_refl _) (Nat.le_refl _) ?_
    exact h
  · refine g_iload (q := 53) dX7_isSeen_51 rfl rfl ?_
    refine g_if_eq (tgt := 91) (q := 56) dX7_isSeen_53 (by decide) rfl (fun _ => ?_) (fun c53 => absurd c53 (by decide))
    refine g_iload (q := 93) dX7_isSeen_91 rfl rfl ?_
    refine g_zret rfl (by decide) dX7_isSeen_93 (Nat.le_refl _) (Nat.le_refl _) ?_
    exact h
set_option maxRecDepth 100000 in
set_option maxHeartbeats 400000 in
theorem l_seen1 {d k m x r z : Nat} {I : Nat → Nat → Int32} {Q : Option Int32 → Wd → Prop} {l : List Nat} {it : Nat → Int32} (hr8 : r < 8) (hz : I 54 r = nI z) (hzl : z ≤ l.length) (hl : l.length ≤ 99) (hz40 : z ≤ 40) (hit : ∀ j, j < z → I 55 (40 * r + j) = it j) (hnm : ∀ j, j < l.length → I 66 j = nI (l.getD j 0)) (h1 : (∀ j, j < z → nI (l.getD j 0) = it j) → Q (some (nI 1)) (I, RR k)) (h0 : ¬ (∀ j, j < z → nI (l.getD j 0) = it j) → Q (some (nI 0)) (I, RR k)) : ∀ (n i : Nat), i + n = z → (∀ j, j < i → nI (l.getD j 0) = it j) → G mX7_isSeen (rmd (d + 6) 0 0) (Zm Q 68 68 0 0) 68 40 [.ref 52, .int (nI m), .int (nI x), .int (nI r), .int (nI 1), .int (nI i)] [] 68 (I, RR k) 0 0 := by
  intro n
  induction n with
  | zero =>
    intro i hi hall
    have hi : i = z := by omega
    subst hi
    refine g_iload (q := 42) dX7_isSeen_40 rfl rfl ?_
    refine g_aload_n (q := 43) dX7_isSeen_42 rfl rfl ?_
    refine gf_X7_13 (q := 46) rfl (by first | assumption | rfl) (by first | assumption | rfl) dX7_isSeen_43 rfl ?_
    refine g_iload_n (q := 47) dX7_isSeen_46 rfl rfl ?_
    refine g_ialdn (q := 48) (by first | assumption | rfl) (by repeat' first | apply nI_a | apply nI_m | exact rfl) (by omega) dX7_isSeen_47 rfl ?_
    rw [hz]
    refine g_icmp_ge (tgt := 91) (q := 51) dX7_isSeen_48 (by decide) rfl (fun _ => ?_) (fun c48 => absurd (nI_le (by omega) (by omega)) c48)
    refine g_iload (q := 93) dX7_isSeen_91 rfl rfl ?_
    refine g_zret rfl (by decide) dX7_isSeen_93 (Nat.le_refl _) (Nat.le_refl _) ?_
    exact h1 hall
  | succ n ih =>
    intro i hi hall
    refine g_iload (q := 42) dX7_isSeen_40 rfl rfl ?_
    refine g_aload_n (q := 43) dX7_isSeen_42 rfl rfl ?_
    refine gf_X7_13 (q := 46) rfl (by first | assumption | rfl) (by first | assumption | rfl) dX7_isSeen_43 rfl ?_
    refine g_iload_n (q := 47) dX7_isSeen_46 rfl rfl ?_
    refine g_ialdn (q := 48) (by first | assumption | rfl) (by repeat' first | apply nI_a | apply nI_m | exact rfl) (by omega) dX7_isSeen_47 rfl ?_
    rw [hz]
    refine g_icmp_ge (tgt := 91) (q := 51) dX7_isSeen_48 (by decide) rfl (fun c48 => absurd c48 (nI_ge (by omega) (by omega))) (fun _ => ?_)
    refine g_iload (q := 53) dX7_isSeen_51 rfl rfl ?_
    refine g_if_eq (tgt := 91) (q := 56) dX7_isSeen_53 (by decide) rfl (fun c53 => absurd c53 (by decide)) (fun _ => ?_)
    refine g_aload_n (q := 57) dX7_isSeen_56 rfl rfl ?_
    refine gf_X7_50 (q := 60) rfl (by first | assumption | rfl) (by first | assumption | rfl) dX7_isSeen_57 rfl ?_
    refine g_iload (q := 62) dX7_isSeen_60 rfl rfl ?_
    refine g_ialdn (q := 63) (by first | assumption | rfl) (by repeat' first | apply nI_a | apply nI_m | exact rfl) (by omega) dX7_isSeen_62 rfl ?_
    rw [hnm i (by omega)]
    refine g_aload_n (q := 64) dX7_isSeen_63 rfl rfl ?_
    refine gf_X7_16 (q := 67) rfl (by first | assumption | rfl) (by first | assumption | rfl) dX7_isSeen_64 rfl ?_
    refine g_bipush (q := 69) (v := nI 40) dX7_isSeen_67 rfl (by decide) ?_
    refine g_iload_n (q := 70) dX7_isSeen_69 rfl rfl ?_
    refine g_imul (q := 71) dX7_isSeen_70 rfl ?_
    refine g_iload (q := 73) dX7_isSeen_71 rfl rfl ?_
    refine g_iadd (q := 74) dX7_isSeen_73 rfl ?_
    refine g_ialdn (q := 75) (by first | assumption | rfl) (by repeat' first | apply nI_a | apply nI_m | exact rfl) (by omega) dX7_isSeen_74 rfl ?_
    rw [hit i (by omega)]
    refine g_icmp_ne (tgt := 82) (q := 78) dX7_isSeen_75 (by decide) rfl (fun c75 => ?_) (fun c75 => ?_)
    · refine g_iconst (q := 83) (v := nI 0) dX7_isSeen_82 rfl (by decide) ?_
      refine g_istore (q := 85) dX7_isSeen_83 rfl (by decide) rfl rfl ?_
      refine g_iincn (q := 88) dX7_isSeen_85 rfl rfl (by decide) rfl rfl ?_
      refine g_goto (q := 40) dX7_isSeen_88 (by decide) ?_
      exact l_seen0 (z := z) hr8 (h0 (fun y => c75 (y i (by omega))))
    · refine g_iconst (q := 79) (v := nI 1) dX7_isSeen_78 rfl (by decide) ?_
      refine g_goto (q := 83) dX7_isSeen_79 (by decide) ?_
      refine g_istore (q := 85) dX7_isSeen_83 rfl (by decide) rfl rfl ?_
      refine g_iincn (q := 88) dX7_isSeen_85 rfl rfl (by decide) rfl rfl ?_
      refine g_goto (q := 40) dX7_isSeen_88 (by decide) ?_
      refine ih (i + 1) (by omega) (fun j hj => ?_)
      by_cases e : j = i
      · subst e; exact c75
      · exact hall j (by omega)
set_option maxRecDepth 100000 in
set_option maxHeartbeats 400000 in
theorem c_X7_isSeen {d k : Nat} {I : Nat → Nat → Int32} {Q : Option Int32 → Wd → Prop} {m x r z : Nat} {v : Vv} {it : Nat → Int32} (hM : MRep I 60 0 v) (hV : VOk v) (hm : m < vnm v) (hx : x < 10) (hr8 : r < 8) (hz : I 54 r = nI z) (hz40 : z ≤ 40) (hit : ∀ j, j < z → I 55 (40 * r + j) = it j) (h1 : ∀ J, FrR I J → seenF z it (enF v x m 0 s0) = true → Q (some (nI 1)) (J, RR k)) (h0 : ∀ J, FrR I J → ¬ seenF z it (enF v x m 0 s0) = true → Q (some (nI 0)) (J, RR k)) : Ex (d + 6) 0 0 mX7_isSeen [.ref 52, .int (nI m), .int (nI x), .int (nI r)] 68 (I, RR k) 68 Q := by
  refine ex_intro (L0 := [.ref 52, .int (nI m), .int (nI x), .int (nI r), .null, .null]) (by decide +kernel) rfl rfl (Nat.le_of_ble_eq_true rfl) rfl ?_
  refine g_aload_n (q := 1) dX7_isSeen_0 rfl rfl ?_
  refine g_aload_n (q := 2) dX7_isSeen_1 rfl rfl ?_
  refine gf_X7_31 (q := 5) rfl (by first | assumption | rfl) (by first | assumption | rfl) dX7_isSeen_2 rfl ?_
  refine g_iload_n (q := 6) dX7_isSeen_5 rfl rfl ?_
  refine g_iload_n (q := 7) dX7_isSeen_6 rfl rfl ?_
  refine k_X7_245 (q := 10) rfl (Nat.le_of_ble_eq_true rfl) (by first | assumption | rfl) dX7_isSeen_7 rfl (c_X7_runs (Or.inr rfl) rfl hM hV hm hx (fun J hF hP => ?_))
  have e54 : J 54 = I 54 := hF.1 54 (by decide) (by decide) (by decide) (by decide)
  have e55 : J 55 = I 55 := hF.1 55 (by decide) (by decide) (by decide) (by decide)
  cases hres : enF v x m 0 s0 with
  | none =>
    rw [hres] at hP h0
    have hP : J 52 29 = nI 1 := hP
    refine g_aload_n (q := 11) dX7_isSeen_10 rfl rfl ?_
    refine gf_X7_179 (q := 14) rfl (by first | assumption | rfl) dX7_isSeen_11 rfl ?_
    rw [hP]
    refine g_if_ne (tgt := 34) (q := 17) dX7_isSeen_14 (by decide) rfl (fun _ => ?_) (fun c14 => absurd c14 (by decide))
    refine g_iconst (q := 35) (v := nI 0) dX7_isSeen_34 rfl (by decide) ?_
    refine g_istore (q := 37) dX7_isSeen_35 rfl (by decide) rfl rfl ?_
    refine g_iconst (q := 38) (v := nI 0) dX7_isSeen_37 rfl (by decide) ?_
    refine g_istore (q := 40) dX7_isSeen_38 rfl (by decide) rfl rfl ?_
    exact l_seen0 (z := z) hr8 (h0 J hF (fun y => by cases y))
  | some q =>
    rw [hres] at hP h0 h1
    obtain ⟨hP1, hP2, hP3, hP4⟩ := id hP
    have hlen := hP1.2.2.2.2.2.2.1
    have hsq : seenF z it (some q) = true ↔ (z ≤ q.1.1.length ∧ ∀ j, j < z → nI (q.1.1.getD j 0) = it j) := by
      simp only [seenF, Bool.and_eq_true, decide_eq_true_eq, List.all_eq_true, List.mem_range]
    refine g_aload_n (q := 11) dX7_isSeen_10 rfl rfl ?_
    refine gf_X7_179 (q := 14) rfl (by first | assumption | rfl) dX7_isSeen_11 rfl ?_
    rw [hP1.2.2.2.2.1]
    refine g_if_ne (tgt := 34) (q := 17) dX7_isSeen_14 (by decide) rfl (fun c14 => absurd c14 (by decide)) (fun _ => ?_)
    refine g_aload_n (q := 18) dX7_isSeen_17 rfl rfl ?_
    refine gf_X7_176 (q := 21) rfl (by first | assumption | rfl) dX7_isSeen_18 rfl ?_
    rw [hP1.2.1]
    refine g_aload_n (q := 22) dX7_isSeen_21 rfl rfl ?_
    refine gf_X7_13 (q := 25) rfl (by first | assumption | rfl) (by first | assumption | rfl) dX7_isSeen_22 rfl ?_
    refine g_iload_n (q := 26) dX7_isSeen_25 rfl rfl ?_
    refine g_ialdn (q := 27) (by first | assumption | rfl) (by repeat' first | apply nI_a | apply nI_m | exact rfl) (by omega) dX7_isSeen_26 rfl ?_
    rw [e54, hz]
    refine g_icmp_lt (tgt := 34) (q := 30) dX7_isSeen_27 (by decide) rfl (fun c27 => ?_) (fun c27 => ?_)
    · refine g_iconst (q := 35) (v := nI 0) dX7_isSeen_34 rfl (by decide) ?_
      refine g_istore (q := 37) dX7_isSeen_35 rfl (by decide) rfl rfl ?_
      refine g_iconst (q := 38) (v := nI 0) dX7_isSeen_37 rfl (by decide) ?_
      refine g_istore (q := 40) dX7_isSeen_38 rfl (by decide) rfl rfl ?_
      exact l_seen0 (z := z) hr8 (h0 J hF (fun y => absurd (hsq.mp y).1 (by have := (nI_ltI (by omega) (by omega)).mp c27; omega)))
    · refine g_iconst (q := 31) (v := nI 1) dX7_isSeen_30 rfl (by decide) ?_
      refine g_goto (q := 35) dX7_isSeen_31 (by decide) ?_
      refine g_istore (q := 37) dX7_isSeen_35 rfl (by decide) rfl rfl ?_
      refine g_iconst (q := 38) (v := nI 0) dX7_isSeen_37 rfl (by decide) ?_
      refine g_istore (q := 40) dX7_isSeen_38 rfl (by decide) rfl rfl ?_
      have hzl : z ≤ q.1.1.length := by
        have : ¬ q.1.1.length < z := fun y => c27 (nI_lt y (by omega))
        omega
      exact l_seen1 hr8 (by rw [e54]; exact hz) hzl hlen hz40 (fun j hj => by rw [e55]; exact hit j hj) hP1.2.2.2.2.2.1 (fun y => h1 J hF (hsq.mpr ⟨hzl, y⟩)) (fun y => h0 J hF (fun w => y (hsq.mp w).2)) z 0 (by omega) (fun j hj => absurd hj (by omega))
set_option maxRecDepth 100000 in
set_option maxHeartbeats 400000 in
theorem l_mfits0 {d k a m x r l z : Nat} {it : Nat → Int32} {S : Sg} {I0 : Nat → Nat → Int32} {Q : Option Int32 → Wd → Prop} (ha : a < vna (gv S)) (hm : m < vnm (gv S)) (hx : x < 10) (hr8 : r < 8) (hq : S.1 r = some (l, z, it)) : ∀ (n i : Nat) (I : Nat → Nat → Int32), i + n = 5 → RepM I S → FrM I0 I → (∀ I2, RepM I2 (S.1, 0, S.2.2) → FrM I0 I2 → Q (some (nI (fitsF (gv S) a m x 0 z it 1 (5)))) (I2, RR k)) → G mX7_fits (rmd (d + 7) 0 0) (Zm Q 68 68 0 0) 68 93 [.ref 52, .int (nI a), .int (nI m), .int (nI x), .int (nI r), .int (nI 0), .int (nI (orN i (fun i => if seenF z it (enF (tryF (gv S) a 0 (1 + i)) x m 0 s0) = true then 1 <<< (1 + i) else 0))), .int (nI (1 + i))] [] 68 (I, RR k) 0 0 := by
  intro n
  induction n with
  | zero =>
    intro i I hi hr hFI h
    have hVg : VOk (gv S) := hr.2.2.2.2.1.2
    have hMg : MRep I 58 0 (gv S) := hr.2.2.2.2.1.1
    obtain ⟨v1, v2, v3, v4⟩ := id hVg
    have hi : i = 5 := by omega
    subst hi
    refine g_iload (q := 95) dX7_fits_93 rfl rfl ?_
    refine g_iload (q := 97) dX7_fits_95 rfl rfl ?_
    refine g_if_ne (tgt := 104) (q := 100) dX7_fits_97 (by decide) rfl (fun c97 => absurd c97 (by decide)) (fun _ => ?_)
    refine g_iconst (q := 101) (v := nI 5) dX7_fits_100 rfl (by decide) ?_
    refine g_goto (q := 123) dX7_fits_101 (by decide) ?_
    refine g_icmp_gt (tgt := 213) (q := 126) dX7_fits_123 (by decide) rfl (fun _ => ?_) (fun c123 => absurd (nI_lt (by omega) (by omega)) c123)
    refine g_aload_n (q := 214) dX7_fits_213 rfl rfl ?_
    refine g_iload (q := 216) dX7_fits_214 rfl rfl ?_
    refine k_X7_75 (q := 219) rfl (Nat.le_of_ble_eq_true rfl) (by first | assumption | rfl) dX7_fits_216 rfl (c_X7_well ?_)
    refine g_iret rfl dX7_fits_219 (Nat.le_refl _) (Nat.le_refl _) ?_
    exact h _ (hr.fnd (by decide)) (hFI.tr (FrM.ui (by decide)))
  | succ n ih =>
    intro i I hi hr hFI h
    have hVg : VOk (gv S) := hr.2.2.2.2.1.2
    have hMg : MRep I 58 0 (gv S) := hr.2.2.2.2.1.1
    obtain ⟨v1, v2, v3, v4⟩ := id hVg
    have hty : tok (gv S) 0 (1 + i) := ⟨fun e => by omega, fun e => by omega, fun e => by omega⟩
    have hVt : VOk (tryF (gv S) a 0 (1 + i)) := tryF_ok hVg ha (by decide) hty
    have hmt : m < vnm (tryF (gv S) a 0 (1 + i)) := by rw [tryF_nm]; exact hm
    obtain ⟨e1r, e2r, hlr, hzr, hitr⟩ : I 53 r = nI l ∧ I 54 r = nI z ∧ l < 3 ∧ z ≤ 40 ∧ ∀ j, j < z → I 55 (40 * r + j) = it j := by
      rcases hr.1 r hr8 with ⟨w1, w2⟩ | ⟨l2, z2, it2, w1, w2⟩
      · rw [hq] at w1; cases w1
      · rw [hq] at w1; cases w1; exact w2
    have hMt : MRep (uI (cpI I 58 0 60 0 92) 60 (62 + 6 * a + 0) (nI (1 + i))) 60 0 (tryF (gv S) a 0 (1 + i)) := MRep_setFa (f := 5) (MRep.cp hMg hVg) hVg (by decide) rfl
    have e60 : ∀ p, p ≠ 60 → (uI (cpI I 58 0 60 0 92) 60 (62 + 6 * a + 0) (nI (1 + i))) p = I p := fun p hp => (uI_ne hp).trans (cpI_ne hp)
    refine g_iload (q := 95) dX7_fits_93 rfl rfl ?_
    refine g_iload (q := 97) dX7_fits_95 rfl rfl ?_
    refine g_if_ne (tgt := 104) (q := 100) dX7_fits_97 (by decide) rfl (fun c97 => absurd c97 (by decide)) (fun _ => ?_)
    refine g_iconst (q := 101) (v := nI 5) dX7_fits_100 rfl (by decide) ?_
    refine g_goto (q := 123) dX7_fits_101 (by decide) ?_
    refine g_icmp_gt (tgt := 213) (q := 126) dX7_fits_123 (by decide) rfl (fun c123 => absurd c123 (nI_nlt (by omega) (by omega))) (fun _ => ?_)
    refine g_aload_n (q := 127) dX7_fits_126 rfl rfl ?_
    refine gf_X7_25 (q := 130) rfl (by first | assumption | rfl) (by first | assumption | rfl) dX7_fits_127 rfl ?_
    refine g_iconst (q := 131) (v := nI 0) dX7_fits_130 rfl (by decide) ?_
    refine g_aload_n (q := 132) dX7_fits_131 rfl rfl ?_
    refine gf_X7_31 (q := 135) rfl (by first | assumption | rfl) (by first | assumption | rfl) dX7_fits_132 rfl ?_
    refine g_iconst (q := 136) (v := nI 0) dX7_fits_135 rfl (by decide) ?_
    refine k_X7_151 (q := 139) rfl (Nat.le_of_ble_eq_true rfl) dX7_fits_136 rfl (c_copies rfl rfl (by decide) (by decide) (by decide) ?_)
    refine g_iload (q := 141) dX7_fits_139 rfl rfl ?_
    refine g_iconst (q := 142) (v := nI 2) dX7_fits_141 rfl (by decide) ?_
    refine g_icmp_ne (tgt := 158) (q := 145) dX7_fits_142 (by decide) rfl (fun _ => ?_) (fun c142 => absurd c142 (by decide))
    refine g_aload_n (q := 159) dX7_fits_158 rfl rfl ?_
    refine gf_X7_31 (q := 162) rfl (by first | assumption | rfl) (by first | assumption | rfl) dX7_fits_159 rfl ?_
    refine g_bipush (q := 164) (v := nI 62) dX7_fits_162 rfl (by decide) ?_
    refine g_bipush (q := 166) (v := nI 6) dX7_fits_164 rfl (by decide) ?_
    refine g_iload_n (q := 167) dX7_fits_166 rfl rfl ?_
    refine g_imul (q := 168) dX7_fits_167 rfl ?_
    refine g_iadd (q := 169) dX7_fits_168 rfl ?_
    refine g_iload (q := 171) dX7_fits_169 rfl rfl ?_
    refine g_if_ne (tgt := 178) (q := 174) dX7_fits_171 (by decide) rfl (fun c171 => absurd c171 (by decide)) (fun _ => ?_)
    refine g_iconst (q := 175) (v := nI 0) dX7_fits_174 rfl (by decide) ?_
    refine g_goto (q := 179) dX7_fits_175 (by decide) ?_
    refine g_iadd (q := 180) dX7_fits_179 rfl ?_
    refine g_iload (q := 182) dX7_fits_180 rfl rfl ?_
    refine g_iastn (q := 183) (by first | assumption | rfl) (by repeat' first | apply nI_a | apply nI_m | exact rfl) (by omega) dX7_fits_182 rfl ?_
    refine g_iload (q := 185) dX7_fits_183 rfl rfl ?_
    refine g_aload_n (q := 186) dX7_fits_185 rfl rfl ?_
    refine g_iload_n (q := 187) dX7_fits_186 rfl rfl ?_
    refine g_iload_n (q := 188) dX7_fits_187 rfl rfl ?_
    refine g_iload (q := 190) dX7_fits_188 rfl rfl ?_
    refine k_X7_248 (q := 193) rfl (Nat.le_of_ble_eq_true rfl) (by first | assumption | rfl) dX7_fits_190 rfl (c_X7_isSeen (z := z) (it := it) hMt hVt hmt hx hr8 (by rw [e60 54 (by decide)]; exact e2r) hzr (fun j hj => by rw [e60 55 (by decide)]; exact hitr j hj) (fun J hF hs => ?_) (fun J hF hs => ?_))
    · have hr2 := (hr.tri e60).run hF
      have hF2 : FrM I0 J := hFI.tr (FrM.tr (fun p hp => e60 p (by omega)) hF.m)
      refine g_if_eq (tgt := 203) (q := 196) dX7_fits_193 (by decide) rfl (fun c193 => absurd c193 (by decide)) (fun _ => ?_)
      refine g_iconst (q := 197) (v := nI 1) dX7_fits_196 rfl (by decide) ?_
      refine g_iload (q := 199) dX7_fits_197 rfl rfl ?_
      refine g_ishl (q := 200) dX7_fits_199 rfl ?_
      rw [bit_shG _ (by omega)]
      refine g_goto (q := 204) dX7_fits_200 (by decide) ?_
      refine g_ior (q := 205) dX7_fits_204 rfl ?_
      rw [bit_orG]
      refine g_istore (q := 207) dX7_fits_205 rfl (by decide) rfl rfl ?_
      refine g_iincn (q := 210) dX7_fits_207 rfl rfl (by decide) rfl rfl ?_
      refine g_goto (q := 93) dX7_fits_210 (by decide) ?_
      have hn := ih (i + 1) J (by omega) hr2 hF2 h
      rw [orN, if_pos hs] at hn
      exact hn
    · have hr2 := (hr.tri e60).run hF
      have hF2 : FrM I0 J := hFI.tr (FrM.tr (fun p hp => e60 p (by omega)) hF.m)
      refine g_if_eq (tgt := 203) (q := 196) dX7_fits_193 (by decide) rfl (fun _ => ?_) (fun c193 => absurd c193 (by decide))
      refine g_iconst (q := 204) (v := nI 0) dX7_fits_203 rfl (by decide) ?_
      refine g_ior (q := 205) dX7_fits_204 rfl ?_
      rw [bit_orG]
      refine g_istore (q := 207) dX7_fits_205 rfl (by decide) rfl rfl ?_
      refine g_iincn (q := 210) dX7_fits_207 rfl rfl (by decide) rfl rfl ?_
      refine g_goto (q := 93) dX7_fits_210 (by decide) ?_
      have hn := ih (i + 1) J (by omega) hr2 hF2 h
      rw [orN, if_neg hs] at hn
      exact hn
set_option maxRecDepth 100000 in
set_option maxHeartbeats 400000 in
theorem l_mfits1 {d k a m x r l z : Nat} {it : Nat → Int32} {S : Sg} {I0 : Nat → Nat → Int32} {Q : Option Int32 → Wd → Prop} (ha : a < vna (gv S)) (hm : m < vnm (gv S)) (hx : x < 10) (hr8 : r < 8) (hq : S.1 r = some (l, z, it)) : ∀ (n i : Nat) (I : Nat → Nat → Int32), i + n = 11 → RepM I S → FrM I0 I → (∀ I2, RepM I2 (S.1, 0, S.2.2) → FrM I0 I2 → Q (some (nI (fitsF (gv S) a m x 1 z it 0 (11)))) (I2, RR k)) → G mX7_fits (rmd (d + 7) 0 0) (Zm Q 68 68 0 0) 68 93 [.ref 52, .int (nI a), .int (nI m), .int (nI x), .int (nI r), .int (nI 1), .int (nI (orN i (fun i => if seenF z it (enF (tryF (gv S) a 1 (0 + i)) x m 0 s0) = true then 1 <<< (0 + i) else 0))), .int (nI (0 + i))] [] 68 (I, RR k) 0 0 := by
  intro n
  induction n with
  | zero =>
    intro i I hi hr hFI h
    have hVg : VOk (gv S) := hr.2.2.2.2.1.2
    have hMg : MRep I 58 0 (gv S) := hr.2.2.2.2.1.1
    obtain ⟨v1, v2, v3, v4⟩ := id hVg
    have hi : i = 11 := by omega
    subst hi
    refine g_iload (q := 95) dX7_fits_93 rfl rfl ?_
    refine g_iload (q := 97) dX7_fits_95 rfl rfl ?_
    refine g_if_ne (tgt := 104) (q := 100) dX7_fits_97 (by decide) rfl (fun _ => ?_) (fun c97 => absurd c97 (by decide))
    refine g_iload (q := 106) dX7_fits_104 rfl rfl ?_
    refine g_iconst (q := 107) (v := nI 1) dX7_fits_106 rfl (by decide) ?_
    refine g_icmp_ne (tgt := 115) (q := 110) dX7_fits_107 (by decide) rfl (fun c107 => absurd c107 (by decide)) (fun _ => ?_)
    refine g_bipush (q := 112) (v := nI 10) dX7_fits_110 rfl (by decide) ?_
    refine g_goto (q := 123) dX7_fits_112 (by decide) ?_
    refine g_icmp_gt (tgt := 213) (q := 126) dX7_fits_123 (by decide) rfl (fun _ => ?_) (fun c123 => absurd (nI_lt (by omega) (by omega)) c123)
    refine g_aload_n (q := 214) dX7_fits_213 rfl rfl ?_
    refine g_iload (q := 216) dX7_fits_214 rfl rfl ?_
    refine k_X7_75 (q := 219) rfl (Nat.le_of_ble_eq_true rfl) (by first | assumption | rfl) dX7_fits_216 rfl (c_X7_well ?_)
    refine g_iret rfl dX7_fits_219 (Nat.le_refl _) (Nat.le_refl _) ?_
    exact h _ (hr.fnd (by decide)) (hFI.tr (FrM.ui (by decide)))
  | succ n ih =>
    intro i I hi hr hFI h
    have hVg : VOk (gv S) := hr.2.2.2.2.1.2
    have hMg : MRep I 58 0 (gv S) := hr.2.2.2.2.1.1
    obtain ⟨v1, v2, v3, v4⟩ := id hVg
    have hty : tok (gv S) 1 (0 + i) := ⟨fun e => by omega, fun e => by omega, fun e => by omega⟩
    have hVt : VOk (tryF (gv S) a 1 (0 + i)) := tryF_ok hVg ha (by decide) hty
    have hmt : m < vnm (tryF (gv S) a 1 (0 + i)) := by rw [tryF_nm]; exact hm
    obtain ⟨e1r, e2r, hlr, hzr, hitr⟩ : I 53 r = nI l ∧ I 54 r = nI z ∧ l < 3 ∧ z ≤ 40 ∧ ∀ j, j < z → I 55 (40 * r + j) = it j := by
      rcases hr.1 r hr8 with ⟨w1, w2⟩ | ⟨l2, z2, it2, w1, w2⟩
      · rw [hq] at w1; cases w1
      · rw [hq] at w1; cases w1; exact w2
    have hMt : MRep (uI (cpI I 58 0 60 0 92) 60 (62 + 6 * a + 4) (nI (0 + i))) 60 0 (tryF (gv S) a 1 (0 + i)) := MRep_setFa (f := 3) (MRep.cp hMg hVg) hVg (by decide) rfl
    have e60 : ∀ p, p ≠ 60 → (uI (cpI I 58 0 60 0 92) 60 (62 + 6 * a + 4) (nI (0 + i))) p = I p := fun p hp => (uI_ne hp).trans (cpI_ne hp)
    refine g_iload (q := 95) dX7_fits_93 rfl rfl ?_
    refine g_iload (q := 97) dX7_fits_95 rfl rfl ?_
    refine g_if_ne (tgt := 104) (q := 100) dX7_fits_97 (by decide) rfl (fun _ => ?_) (fun c97 => absurd c97 (by decide))
    refine g_iload (q := 106) dX7_fits_104 rfl rfl ?_
    refine g_iconst (q := 107) (v := nI 1) dX7_fits_106 rfl (by decide) ?_
    refine g_icmp_ne (tgt := 115) (q := 110) dX7_fits_107 (by decide) rfl (fun c107 => absurd c107 (by decide)) (fun _ => ?_)
    refine g_bipush (q := 112) (v := nI 10) dX7_fits_110 rfl (by decide) ?_
    refine g_goto (q := 123) dX7_fits_112 (by decide) ?_
    refine g_icmp_gt (tgt := 213) (q := 126) dX7_fits_123 (by decide) rfl (fun c123 => absurd c123 (nI_nlt (by omega) (by omega))) (fun _ => ?_)
    refine g_aload_n (q := 127) dX7_fits_126 rfl rfl ?_
    refine gf_X7_25 (q := 130) rfl (by first | assumption | rfl) (by first | assumption | rfl) dX7_fits_127 rfl ?_
    refine g_iconst (q := 131) (v := nI 0) dX7_fits_130 rfl (by decide) ?_
    refine g_aload_n (q := 132) dX7_fits_131 rfl rfl ?_
    refine gf_X7_31 (q := 135) rfl (by first | assumption | rfl) (by first | assumption | rfl) dX7_fits_132 rfl ?_
    refine g_iconst (q := 136) (v := nI 0) dX7_fits_135 rfl (by decide) ?_
    refine k_X7_151 (q := 139) rfl (Nat.le_of_ble_eq_true rfl) dX7_fits_136 rfl (c_copies rfl rfl (by decide) (by decide) (by decide) ?_)
    refine g_iload (q := 141) dX7_fits_139 rfl rfl ?_
    refine g_iconst (q := 142) (v := nI 2) dX7_fits_141 rfl (by decide) ?_
    refine g_icmp_ne (tgt := 158) (q := 145) dX7_fits_142 (by decide) rfl (fun _ => ?_) (fun c142 => absurd c142 (by decide))
    refine g_aload_n (q := 159) dX7_fits_158 rfl rfl ?_
    refine gf_X7_31 (q := 162) rfl (by first | assumption | rfl) (by first | assumption | rfl) dX7_fits_159 rfl ?_
    refine g_bipush (q := 164) (v := nI 62) dX7_fits_162 rfl (by decide) ?_
    refine g_bipush (q := 166) (v := nI 6) dX7_fits_164 rfl (by decide) ?_
    refine g_iload_n (q := 167) dX7_fits_166 rfl rfl ?_
    refine g_imul (q := 168) dX7_fits_167 rfl ?_
    refine g_iadd (q := 169) dX7_fits_168 rfl ?_
    refine g_iload (q := 171) dX7_fits_169 rfl rfl ?_
    refine g_if_ne (tgt := 178) (q := 174) dX7_fits_171 (by decide) rfl (fun _ => ?_) (fun c171 => absurd c171 (by decide))
    refine g_iconst (q := 179) (v := nI 4) dX7_fits_178 rfl (by decide) ?_
    refine g_iadd (q := 180) dX7_fits_179 rfl ?_
    refine g_iload (q := 182) dX7_fits_180 rfl rfl ?_
    refine g_iastn (q := 183) (by first | assumption | rfl) (by repeat' first | apply nI_a | apply nI_m | exact rfl) (by omega) dX7_fits_182 rfl ?_
    refine g_iload (q := 185) dX7_fits_183 rfl rfl ?_
    refine g_aload_n (q := 186) dX7_fits_185 rfl rfl ?_
    refine g_iload_n (q := 187) dX7_fits_186 rfl rfl ?_
    refine g_iload_n (q := 188) dX7_fits_187 rfl rfl ?_
    refine g_iload (q := 190) dX7_fits_188 rfl rfl ?_
    refine k_X7_248 (q := 193) rfl (Nat.le_of_ble_eq_true rfl) (by first | assumption | rfl) dX7_fits_190 rfl (c_X7_isSeen (z := z) (it := it) hMt hVt hmt hx hr8 (by rw [e60 54 (by decide)]; exact e2r) hzr (fun j hj => by rw [e60 55 (by decide)]; exact hitr j hj) (fun J hF hs => ?_) (fun J hF hs => ?_))
    · have hr2 := (hr.tri e60).run hF
      have hF2 : FrM I0 J := hFI.tr (FrM.tr (fun p hp => e60 p (by omega)) hF.m)
      refine g_if_eq (tgt := 203) (q := 196) dX7_fits_193 (by decide) rfl (fun c193 => absurd c193 (by decide)) (fun _ => ?_)
      refine g_iconst (q := 197) (v := nI 1) dX7_fits_196 rfl (by decide) ?_
      refine g_iload (q := 199) dX7_fits_197 rfl rfl ?_
      refine g_ishl (q := 200) dX7_fits_199 rfl ?_
      rw [bit_shG _ (by omega)]
      refine g_goto (q := 204) dX7_fits_200 (by decide) ?_
      refine g_ior (q := 205) dX7_fits_204 rfl ?_
      rw [bit_orG]
      refine g_istore (q := 207) dX7_fits_205 rfl (by decide) rfl rfl ?_
      refine g_iincn (q := 210) dX7_fits_207 rfl rfl (by decide) rfl rfl ?_
      refine g_goto (q := 93) dX7_fits_210 (by decide) ?_
      have hn := ih (i + 1) J (by omega) hr2 hF2 h
      rw [orN, if_pos hs] at hn
      exact hn
    · have hr2 := (hr.tri e60).run hF
      have hF2 : FrM I0 J := hFI.tr (FrM.tr (fun p hp => e60 p (by omega)) hF.m)
      refine g_if_eq (tgt := 203) (q := 196) dX7_fits_193 (by decide) rfl (fun _ => ?_) (fun c193 => absurd c193 (by decide))
      refine g_iconst (q := 204) (v := nI 0) dX7_fits_203 rfl (by decide) ?_
      refine g_ior (q := 205) dX7_fits_204 rfl ?_
      rw [bit_orG]
      refine g_istore (q := 207) dX7_fits_205 rfl (by decide) rfl rfl ?_
      refine g_iincn (q := 210) dX7_fits_207 rfl rfl (by decide) rfl rfl ?_
      refine g_goto (q := 93) dX7_fits_210 (by decide) ?_
      have hn := ih (i + 1) J (by omega) hr2 hF2 h
      rw [orN, if_neg hs] at hn
      exact hn
set_option maxRecDepth 100000 in
set_option maxHeartbeats 400000 in
theorem l_mfits2 {d k a m x r l z : Nat} {it : Nat → Int32} {S : Sg} {I0 : Nat → Nat → Int32} {Q : Option Int32 → Wd → Prop} (ha : a < vna (gv S)) (hm : m < vnm (gv S)) (hx : x < 10) (hr8 : r < 8) (hq : S.1 r = some (l, z, it)) : ∀ (n i : Nat) (I : Nat → Nat → Int32), i + n = vna (gv S) → RepM I S → FrM I0 I → (∀ I2, RepM I2 (S.1, 0, S.2.2) → FrM I0 I2 → Q (some (nI (fitsF (gv S) a m x 2 z it 0 (vna (gv S))))) (I2, RR k)) → G mX7_fits (rmd (d + 7) 0 0) (Zm Q 68 68 0 0) 68 93 [.ref 52, .int (nI a), .int (nI m), .int (nI x), .int (nI r), .int (nI 2), .int (nI (orN i (fun i => if seenF z it (enF (tryF (gv S) a 2 (0 + i)) x m 0 s0) = true then 1 <<< (0 + i) else 0))), .int (nI (0 + i))] [] 68 (I, RR k) 0 0 := by
  intro n
  induction n with
  | zero =>
    intro i I hi hr hFI h
    have hVg : VOk (gv S) := hr.2.2.2.2.1.2
    have hMg : MRep I 58 0 (gv S) := hr.2.2.2.2.1.1
    obtain ⟨v1, v2, v3, v4⟩ := id hVg
    have hi : i = vna (gv S) := by omega
    subst hi
    refine g_iload (q := 95) dX7_fits_93 rfl rfl ?_
    refine g_iload (q := 97) dX7_fits_95 rfl rfl ?_
    refine g_if_ne (tgt := 104) (q := 100) dX7_fits_97 (by decide) rfl (fun _ => ?_) (fun c97 => absurd c97 (by decide))
    refine g_iload (q := 106) dX7_fits_104 rfl rfl ?_
    refine g_iconst (q := 107) (v := nI 1) dX7_fits_106 rfl (by decide) ?_
    refine g_icmp_ne (tgt := 115) (q := 110) dX7_fits_107 (by decide) rfl (fun _ => ?_) (fun c107 => absurd c107 (by decide))
    refine g_aload_n (q := 116) dX7_fits_115 rfl rfl ?_
    refine gf_X7_25 (q := 119) rfl (by first | assumption | rfl) (by first | assumption | rfl) dX7_fits_116 rfl ?_
    refine g_iconst (q := 120) (v := nI 1) dX7_fits_119 rfl (by decide) ?_
    refine g_ialdn (q := 121) (by first | assumption | rfl) (by repeat' first | apply nI_a | apply nI_m | exact rfl) (by omega) dX7_fits_120 rfl ?_
    rw [hMg.na]
    refine g_iconst (q := 122) (v := nI 1) dX7_fits_121 rfl (by decide) ?_
    refine g_isub (q := 123) dX7_fits_122 rfl ?_
    rw [nI_pr (by omega)]
    refine g_icmp_gt (tgt := 213) (q := 126) dX7_fits_123 (by decide) rfl (fun _ => ?_) (fun c123 => absurd (nI_lt (by omega) (by omega)) c123)
    refine g_aload_n (q := 214) dX7_fits_213 rfl rfl ?_
    refine g_iload (q := 216) dX7_fits_214 rfl rfl ?_
    refine k_X7_75 (q := 219) rfl (Nat.le_of_ble_eq_true rfl) (by first | assumption | rfl) dX7_fits_216 rfl (c_X7_well ?_)
    refine g_iret rfl dX7_fits_219 (Nat.le_refl _) (Nat.le_refl _) ?_
    exact h _ (hr.fnd (by decide)) (hFI.tr (FrM.ui (by decide)))
  | succ n ih =>
    intro i I hi hr hFI h
    have hVg : VOk (gv S) := hr.2.2.2.2.1.2
    have hMg : MRep I 58 0 (gv S) := hr.2.2.2.2.1.1
    obtain ⟨v1, v2, v3, v4⟩ := id hVg
    have hty : tok (gv S) 2 (0 + i) := ⟨fun e => by omega, fun e => by omega, fun e => by omega⟩
    have hVt : VOk (tryF (gv S) a 2 (0 + i)) := tryF_ok hVg ha (by decide) hty
    have hmt : m < vnm (tryF (gv S) a 2 (0 + i)) := by rw [tryF_nm]; exact hm
    obtain ⟨e1r, e2r, hlr, hzr, hitr⟩ : I 53 r = nI l ∧ I 54 r = nI z ∧ l < 3 ∧ z ≤ 40 ∧ ∀ j, j < z → I 55 (40 * r + j) = it j := by
      rcases hr.1 r hr8 with ⟨w1, w2⟩ | ⟨l2, z2, it2, w1, w2⟩
      · rw [hq] at w1; cases w1
      · rw [hq] at w1; cases w1; exact w2
    have hMt : MRep (swP (cpI I 58 0 60 0 92) 60 a (0 + i) 6) 60 0 (tryF (gv S) a 2 (0 + i)) := MRep_exV (MRep.cp hMg hVg) hVg ha (by omega) rfl
    have e60 : ∀ p, p ≠ 60 → (swP (cpI I 58 0 60 0 92) 60 a (0 + i) 6) p = I p := fun p hp => (swP_ne hp).trans (cpI_ne hp)
    refine g_iload (q := 95) dX7_fits_93 rfl rfl ?_
    refine g_iload (q := 97) dX7_fits_95 rfl rfl ?_
    refine g_if_ne (tgt := 104) (q := 100) dX7_fits_97 (by decide) rfl (fun _ => ?_) (fun c97 => absurd c97 (by decide))
    refine g_iload (q := 106) dX7_fits_104 rfl rfl ?_
    refine g_iconst (q := 107) (v := nI 1) dX7_fits_106 rfl (by decide) ?_
    refine g_icmp_ne (tgt := 115) (q := 110) dX7_fits_107 (by decide) rfl (fun _ => ?_) (fun c107 => absurd c107 (by decide))
    refine g_aload_n (q := 116) dX7_fits_115 rfl rfl ?_
    refine gf_X7_25 (q := 119) rfl (by first | assumption | rfl) (by first | assumption | rfl) dX7_fits_116 rfl ?_
    refine g_iconst (q := 120) (v := nI 1) dX7_fits_119 rfl (by decide) ?_
    refine g_ialdn (q := 121) (by first | assumption | rfl) (by repeat' first | apply nI_a | apply nI_m | exact rfl) (by omega) dX7_fits_120 rfl ?_
    rw [hMg.na]
    refine g_iconst (q := 122) (v := nI 1) dX7_fits_121 rfl (by decide) ?_
    refine g_isub (q := 123) dX7_fits_122 rfl ?_
    rw [nI_pr (by omega)]
    refine g_icmp_gt (tgt := 213) (q := 126) dX7_fits_123 (by decide) rfl (fun c123 => absurd c123 (nI_nlt (by omega) (by omega))) (fun _ => ?_)
    refine g_aload_n (q := 127) dX7_fits_126 rfl rfl ?_
    refine gf_X7_25 (q := 130) rfl (by first | assumption | rfl) (by first | assumption | rfl) dX7_fits_127 rfl ?_
    refine g_iconst (q := 131) (v := nI 0) dX7_fits_130 rfl (by decide) ?_
    refine g_aload_n (q := 132) dX7_fits_131 rfl rfl ?_
    refine gf_X7_31 (q := 135) rfl (by first | assumption | rfl) (by first | assumption | rfl) dX7_fits_132 rfl ?_
    refine g_iconst (q := 136) (v := nI 0) dX7_fits_135 rfl (by decide) ?_
    refine k_X7_151 (q := 139) rfl (Nat.le_of_ble_eq_true rfl) dX7_fits_136 rfl (c_copies rfl rfl (by decide) (by decide) (by decide) ?_)
    refine g_iload (q := 141) dX7_fits_139 rfl rfl ?_
    refine g_iconst (q := 142) (v := nI 2) dX7_fits_141 rfl (by decide) ?_
    refine g_icmp_ne (tgt := 158) (q := 145) dX7_fits_142 (by decide) rfl (fun c142 => absurd c142 (by decide)) (fun _ => ?_)
    refine g_aload_n (q := 146) dX7_fits_145 rfl rfl ?_
    refine gf_X7_31 (q := 149) rfl (by first | assumption | rfl) (by first | assumption | rfl) dX7_fits_146 rfl ?_
    refine g_iload_n (q := 150) dX7_fits_149 rfl rfl ?_
    refine g_iload (q := 152) dX7_fits_150 rfl rfl ?_
    refine k_X7_239 (q := 155) rfl (Nat.le_of_ble_eq_true rfl) dX7_fits_152 rfl (c_swaps rfl (by omega) (by omega) ?_)
    refine g_goto (q := 183) dX7_fits_155 (by decide) ?_
    refine g_iload (q := 185) dX7_fits_183 rfl rfl ?_
    refine g_aload_n (q := 186) dX7_fits_185 rfl rfl ?_
    refine g_iload_n (q := 187) dX7_fits_186 rfl rfl ?_
    refine g_iload_n (q := 188) dX7_fits_187 rfl rfl ?_
    refine g_iload (q := 190) dX7_fits_188 rfl rfl ?_
    refine k_X7_248 (q := 193) rfl (Nat.le_of_ble_eq_true rfl) (by first | assumption | rfl) dX7_fits_190 rfl (c_X7_isSeen (z := z) (it := it) hMt hVt hmt hx hr8 (by rw [e60 54 (by decide)]; exact e2r) hzr (fun j hj => by rw [e60 55 (by decide)]; exact hitr j hj) (fun J hF hs => ?_) (fun J hF hs => ?_))
    · have hr2 := (hr.tri e60).run hF
      have hF2 : FrM I0 J := hFI.tr (FrM.tr (fun p hp => e60 p (by omega)) hF.m)
      refine g_if_eq (tgt := 203) (q := 196) dX7_fits_193 (by decide) rfl (fun c193 => absurd c193 (by decide)) (fun _ => ?_)
      refine g_iconst (q := 197) (v := nI 1) dX7_fits_196 rfl (by decide) ?_
      refine g_iload (q := 199) dX7_fits_197 rfl rfl ?_
      refine g_ishl (q := 200) dX7_fits_199 rfl ?_
      rw [bit_shG _ (by omega)]
      refine g_goto (q := 204) dX7_fits_200 (by decide) ?_
      refine g_ior (q := 205) dX7_fits_204 rfl ?_
      rw [bit_orG]
      refine g_istore (q := 207) dX7_fits_205 rfl (by decide) rfl rfl ?_
      refine g_iincn (q := 210) dX7_fits_207 rfl rfl (by decide) rfl rfl ?_
      refine g_goto (q := 93) dX7_fits_210 (by decide) ?_
      have hn := ih (i + 1) J (by omega) hr2 hF2 h
      rw [orN, if_pos hs] at hn
      exact hn
    · have hr2 := (hr.tri e60).run hF
      have hF2 : FrM I0 J := hFI.tr (FrM.tr (fun p hp => e60 p (by omega)) hF.m)
      refine g_if_eq (tgt := 203) (q := 196) dX7_fits_193 (by decide) rfl (fun _ => ?_) (fun c193 => absurd c193 (by decide))
      refine g_iconst (q := 204) (v := nI 0) dX7_fits_203 rfl (by decide) ?_
      refine g_ior (q := 205) dX7_fits_204 rfl ?_
      rw [bit_orG]
      refine g_istore (q := 207) dX7_fits_205 rfl (by decide) rfl rfl ?_
      refine g_iincn (q := 210) dX7_fits_207 rfl rfl (by decide) rfl rfl ?_
      refine g_goto (q := 93) dX7_fits_210 (by decide) ?_
      have hn := ih (i + 1) J (by omega) hr2 hF2 h
      rw [orN, if_neg hs] at hn
      exact hn
set_option maxRecDepth 100000 in
set_option maxHeartbeats 400000 in
theorem c_X7_fits {d k : Nat} {I : Nat → Nat → Int32} {Q : Option Int32 → Wd → Prop} {S : Sg} {a m x r w : Int32} (hr : RepM I S) (h : ∀ I2, RepM I2 (fitsS S a m x r w).2 → FrM I I2 → Q (some (fitsS S a m x r w).1) (I2, RR k)) : Ex (d + 7) 0 0 mX7_fits [.ref 52, .int a, .int m, .int x, .int r, .int w] 68 (I, RR k) 68 Q := by
  have hVg : VOk (gv S) := hr.2.2.2.2.1.2
  have hMg : MRep I 58 0 (gv S) := hr.2.2.2.2.1.1
  obtain ⟨v1, v2, v3, v4⟩ := id hVg

  refine ex_intro (L0 := [.ref 52, .int a, .int m, .int x, .int r, .int w, .null, .null]) (by decide +kernel) rfl rfl (Nat.le_of_ble_eq_true rfl) rfl ?_
  refine g_aload_n (q := 1) dX7_fits_0 rfl rfl ?_
  refine g_iload_n (q := 2) dX7_fits_1 rfl rfl ?_
  refine k_X7_232 (q := 5) rfl (Nat.le_of_ble_eq_true rfl) (by first | assumption | rfl) dX7_fits_2 rfl (c_X7_isAdvice hMg (fun z2 => ?_) (fun z2 => ?_))
  · refine g_if_eq (tgt := 44) (q := 8) dX7_fits_5 (by decide) rfl (fun c5 => absurd c5 (by decide)) (fun _ => ?_)
    refine g_aload_n (q := 9) dX7_fits_8 rfl rfl ?_
    refine g_iload_n (q := 10) dX7_fits_9 rfl rfl ?_
    refine k_X7_242 (q := 13) rfl (Nat.le_of_ble_eq_true rfl) (by first | assumption | rfl) dX7_fits_10 rfl (c_X7_isMethod hMg (fun z10 => ?_) (fun z10 => ?_))
    · refine g_if_eq (tgt := 44) (q := 16) dX7_fits_13 (by decide) rfl (fun c13 => absurd c13 (by decide)) (fun _ => ?_)
      refine g_iload_n (q := 17) dX7_fits_16 rfl rfl ?_
      refine g_iconst (q := 18) (v := nI 0) dX7_fits_17 rfl (by decide) ?_
      refine g_bipush (q := 20) (v := nI 9) dX7_fits_18 rfl (by decide) ?_
      refine k_X7_62 (q := 23) rfl (Nat.le_of_ble_eq_true rfl) dX7_fits_20 rfl (c_X7_in (fun z201 z202 => ?_) (fun z20 => ?_))
      · have z20 := And.intro z201 z202
        refine g_if_eq (tgt := 44) (q := 26) dX7_fits_23 (by decide) rfl (fun c23 => absurd c23 (by decide)) (fun _ => ?_)
        refine g_iload (q := 28) dX7_fits_26 rfl rfl ?_
        refine k_X7_66 (q := 31) rfl (Nat.le_of_ble_eq_true rfl) dX7_fits_28 rfl (c_X7_isRow (fun z28 => ?_) (fun z28 => ?_))
        · refine g_if_eq (tgt := 44) (q := 34) dX7_fits_31 (by decide) rfl (fun c31 => absurd c31 (by decide)) (fun _ => ?_)
          refine g_iload (q := 36) dX7_fits_34 rfl rfl ?_
          refine g_iconst (q := 37) (v := nI 0) dX7_fits_36 rfl (by decide) ?_
          refine g_iconst (q := 38) (v := nI 2) dX7_fits_37 rfl (by decide) ?_
          refine k_X7_62 (q := 41) rfl (Nat.le_of_ble_eq_true rfl) dX7_fits_38 rfl (c_X7_in (fun z381 z382 => ?_) (fun z38 => ?_))
          · have z38 := And.intro z381 z382
            refine g_if_ne (tgt := 47) (q := 44) dX7_fits_41 (by decide) rfl (fun _ => ?_) (fun c41 => absurd c41 (by decide))
            have y2 := z2
            obtain ⟨a, ha, rfl⟩ := in1_nat (by omega) z2
            have y10 := z10
            obtain ⟨m, hm, rfl⟩ := in1_nat (by omega) z10
            have y20 := z20
            obtain ⟨x, hx, rfl⟩ := inR_nat (by decide) z20
            have y28 := z28
            obtain ⟨ro, hro, rfl⟩ := inR_nat (by decide) z28
            have y38 := z38
            obtain ⟨w, hw, rfl⟩ := inR_nat (by decide) z38
            rw [fitsS, if_pos y2, if_pos y10, if_pos y20, if_pos y28, if_pos y38, nI_clamp (by omega), nI_clamp (by omega), nI_clamp (by omega), nI_clamp (by omega), nI_clamp (by omega)] at h
            refine g_aload_n (q := 48) dX7_fits_47 rfl rfl ?_
            refine g_iload (q := 50) dX7_fits_48 rfl rfl ?_
            refine k_X7_78 (q := 53) rfl (Nat.le_of_ble_eq_true rfl) (by first | assumption | rfl) dX7_fits_50 rfl (c_X7_isMissing (by omega) (fun z50 => ?_) (fun z50 => ?_))
            · have qnro : S.1 ro = none := (hr.1 ro (by omega)).elim (fun w => w.1) (fun ⟨l, z, it, w1, e1, e2, hl, hz, hit⟩ => absurd (e1.symm.trans z50) (nI_none (by omega)))
              refine g_if_eq (tgt := 62) (q := 56) dX7_fits_53 (by decide) rfl (fun c53 => absurd c53 (by decide)) (fun _ => ?_)
              refine g_aload_n (q := 57) dX7_fits_56 rfl rfl ?_
              refine g_iconst (q := 58) (v := nI 1) dX7_fits_57 rfl (by decide) ?_
              refine k_X7_71 (q := 61) rfl (Nat.le_of_ble_eq_true rfl) (by first | assumption | rfl) dX7_fits_58 rfl (c_X7_found ?_)
              refine g_iret rfl dX7_fits_61 (Nat.le_refl _) (Nat.le_refl _) ?_
              rw [qnro] at h
              exact h _ (hr.fnd (by decide)) (FrM.ui (by decide))
            · obtain ⟨lro, zro, itro, qro, e1ro, e2ro, hlro, hzro, hitro⟩ : ∃ l z it, S.1 ro = some (l, z, it) ∧ I 53 ro = nI l ∧ I 54 ro = nI z ∧ l < 3 ∧ z ≤ 40 ∧ ∀ j, j < z → I 55 (40 * ro + j) = it j := (hr.1 ro (by omega)).elim (fun w => absurd w.2 z50) id
              refine g_if_eq (tgt := 62) (q := 56) dX7_fits_53 (by decide) rfl (fun _ => ?_) (fun c53 => absurd c53 (by decide))
              refine g_aload_n (q := 63) dX7_fits_62 rfl rfl ?_
              refine gf_X7_13 (q := 66) rfl (by first | assumption | rfl) (by first | assumption | rfl) dX7_fits_63 rfl ?_
              refine g_iload (q := 68) dX7_fits_66 rfl rfl ?_
              refine g_ialdn (q := 69) (by first | assumption | rfl) (by repeat' first | apply nI_a | apply nI_m | exact rfl) (by omega) dX7_fits_68 rfl ?_
              rw [e2ro]
              refine g_if_ne (tgt := 78) (q := 72) dX7_fits_69 (by decide) rfl (fun c69 => ?_) (fun c69 => ?_)
              · refine g_iconst (q := 79) (v := nI 0) dX7_fits_78 rfl (by decide) ?_
                refine g_istore (q := 81) dX7_fits_79 rfl (by decide) rfl rfl ?_
                refine g_iload (q := 83) dX7_fits_81 rfl rfl ?_
                refine g_if_ne (tgt := 90) (q := 86) dX7_fits_83 (by decide) rfl (fun c83 => ?_) (fun c83 => ?_)
                · refine g_iconst (q := 91) (v := nI 0) dX7_fits_90 rfl (by decide) ?_
                  refine g_istore (q := 93) dX7_fits_91 rfl (by decide) rfl rfl ?_
                  have hz0 : ¬ zro = 0 := fun e => c69 (by rw [e]; rfl)
                  rw [qro] at h
                  dsimp only at h
                  have hw0 : ¬ w = 0 := fun y => c83 (by rw [y]; rfl)
                  have ew : w = 1 ∨ w = 2 := by omega
                  rcases ew with rfl | rfl
                  · exact l_mfits1 ha hm (by omega) (by omega) qro 11 0 I rfl hr FrM.rf (by rw [if_neg hz0] at h; exact h)
                  · exact l_mfits2 ha hm (by omega) (by omega) qro (vna (gv S)) 0 I (by omega) hr FrM.rf (by rw [if_neg hz0] at h; exact h)
                · refine g_iconst (q := 87) (v := nI 1) dX7_fits_86 rfl (by decide) ?_
                  refine g_goto (q := 91) dX7_fits_87 (by decide) ?_
                  refine g_istore (q := 93) dX7_fits_91 rfl (by decide) rfl rfl ?_
                  have hz0 : ¬ zro = 0 := fun e => c69 (by rw [e]; rfl)
                  rw [qro] at h
                  dsimp only at h
                  have ew : w = 0 := (nI_eq (b := 0) (by omega) (by omega)).mp c83
                  subst ew
                  exact l_mfits0 ha hm (by omega) (by omega) qro 5 0 I rfl hr FrM.rf (by rw [if_neg hz0] at h; exact h)
              · refine g_aload_n (q := 73) dX7_fits_72 rfl rfl ?_
                refine g_iconst (q := 74) (v := nI 2) dX7_fits_73 rfl (by decide) ?_
                refine k_X7_71 (q := 77) rfl (Nat.le_of_ble_eq_true rfl) (by first | assumption | rfl) dX7_fits_74 rfl (c_X7_found ?_)
                refine g_iret rfl dX7_fits_77 (Nat.le_refl _) (Nat.le_refl _) ?_
                rw [qro] at h
                dsimp only at h
                rw [if_pos ((nI_eq (b := 0) (by omega) (by omega)).mp c69)] at h
                exact h _ (hr.fnd (by decide)) (FrM.ui (by decide))
          · refine g_if_ne (tgt := 47) (q := 44) dX7_fits_41 (by decide) rfl (fun c41 => absurd c41 (by decide)) (fun _ => ?_)
            refine lc_X7_70 (q := 46) rfl dX7_fits_44 rfl ?_
            refine g_iret rfl dX7_fits_46 (Nat.le_refl _) (Nat.le_refl _) ?_
            rw [fitsS, if_pos z2, if_pos z10, if_pos z20, if_pos z28, if_neg z38] at h
            exact h I hr FrM.rf
        · refine g_if_eq (tgt := 44) (q := 34) dX7_fits_31 (by decide) rfl (fun _ => ?_) (fun c31 => absurd c31 (by decide))
          refine lc_X7_70 (q := 46) rfl dX7_fits_44 rfl ?_
          refine g_iret rfl dX7_fits_46 (Nat.le_refl _) (Nat.le_refl _) ?_
          rw [fitsS, if_pos z2, if_pos z10, if_pos z20, if_neg z28] at h
          exact h I hr FrM.rf
      · refine g_if_eq (tgt := 44) (q := 26) dX7_fits_23 (by decide) rfl (fun _ => ?_) (fun c23 => absurd c23 (by decide))
        refine lc_X7_70 (q := 46) rfl dX7_fits_44 rfl ?_
        refine g_iret rfl dX7_fits_46 (Nat.le_refl _) (Nat.le_refl _) ?_
        rw [fitsS, if_pos z2, if_pos z10, if_neg z20] at h
        exact h I hr FrM.rf
    · refine g_if_eq (tgt := 44) (q := 16) dX7_fits_13 (by decide) rfl (fun _ => ?_) (fun c13 => absurd c13 (by decide))
      refine lc_X7_70 (q := 46) rfl dX7_fits_44 rfl ?_
      refine g_iret rfl dX7_fits_46 (Nat.le_refl _) (Nat.le_refl _) ?_
      rw [fitsS, if_pos z2, if_neg z10] at h
      exact h I hr FrM.rf
  · refine g_if_eq (tgt := 44) (q := 8) dX7_fits_5 (by decide) rfl (fun _ => ?_) (fun c5 => absurd c5 (by decide))
    refine lc_X7_70 (q := 46) rfl dX7_fits_44 rfl ?_
    refine g_iret rfl dX7_fits_46 (Nat.le_refl _) (Nat.le_refl _) ?_
    rw [fitsS, if_neg z2] at h
    exact h I hr FrM.rf
set_option maxRecDepth 100000 in
set_option maxHeartbeats 400000 in
theorem l_mdrawn {d k n : Nat} {sd w : Int32} {S : Sg} {I0 : Nat → Nat → Int32} {Q : Option Int32 → Wd → Prop} (hnm : 0 < vnm (gv S)) (hn : n ≤ 20) : ∀ (t i x : Nat) (a0 a1 : Int32) (I : Nat → Nat → Int32), i + t = n → x < 2147483647 → RepM I S → FrM I0 I → (∀ I2, RepM I2 S → FrM I0 I2 → Q (some (if w = 0 then drawF (gv S) 0 t x a0 else drawF (gv S) (nI 1) t x a1)) (I2, RR k)) → G mX7_drawn (rmd (d + 6) 0 0) (Zm Q 68 68 0 0) 68 55 [.ref 52, .int (nI n), .int sd, .int w, .long (lN x), .null, .int a0, .int a1, .int (nI i)] [] 68 (I, RR k) 0 0 := by
  intro t
  induction t with
  | zero =>
    intro i x a0 a1 I hi hx hr hFI h
    have hi : i = n := by omega
    subst hi
    refine g_iload (q := 57) dX7_drawn_55 rfl rfl ?_
    refine g_iload_n (q := 58) dX7_drawn_57 rfl rfl ?_
    refine g_icmp_ge (tgt := 153) (q := 61) dX7_drawn_58 (by decide) rfl (fun _ => ?_) (fun c58 => absurd (nI_le (by omega) (by omega)) c58)
    refine g_iload_n (q := 154) dX7_drawn_153 rfl rfl ?_
    refine g_if_ne (tgt := 162) (q := 157) dX7_drawn_154 (by decide) rfl (fun c154 => ?_) (fun c154 => ?_)
    · refine g_iload (q := 164) dX7_drawn_162 rfl rfl ?_
      refine g_iret rfl dX7_drawn_164 (Nat.le_refl _) (Nat.le_refl _) ?_
      rw [if_neg c154] at h
      exact h I hr hFI
    · refine g_iload (q := 159) dX7_drawn_157 rfl rfl ?_
      refine g_goto (q := 164) dX7_drawn_159 (by decide) ?_
      refine g_iret rfl dX7_drawn_164 (Nat.le_refl _) (Nat.le_refl _) ?_
      rw [if_pos (c154)] at h
      exact h I hr hFI
  | succ t ih =>
    intro i x a0 a1 I hi hx hr hFI h
    have hVg : VOk (gv S) := hr.2.2.2.2.1.2
    have hMg : MRep I 58 0 (gv S) := hr.2.2.2.2.1.1
    obtain ⟨v1, v2, v3, v4⟩ := id hVg
    have hy := nextF_lt x
    have hmm : nextF x % vnm (gv S) < vnm (gv S) := Nat.mod_lt _ hnm
    have hxx : nextF x / 8 % 6 < 10 := Nat.lt_of_lt_of_le (Nat.mod_lt _ (by decide)) (by decide)
    rw [drawF, drawF] at h
    refine g_iload (q := 57) dX7_drawn_55 rfl rfl ?_
    refine g_iload_n (q := 58) dX7_drawn_57 rfl rfl ?_
    refine g_icmp_ge (tgt := 153) (q := 61) dX7_drawn_58 (by decide) rfl (fun c58 => absurd c58 (nI_ge (by omega) (by omega))) (fun _ => ?_)
    refine g_lload (q := 63) dX7_drawn_61 rfl rfl ?_
    refine lc_X7_255 (q := 66) rfl dX7_drawn_63 rfl ?_
    refine g_lmul (q := 67) dX7_drawn_66 rfl ?_
    rw [show (16807 : Int64) = lN 16807 from rfl, lN_mul]
    refine lc_X7_257 (q := 70) rfl dX7_drawn_67 rfl ?_
    refine g_lrem (q := 71) dX7_drawn_70 rfl (by decide) ?_
    rw [show (2147483647 : Int64) = lN 2147483647 from rfl, lN_rem (by omega) (by decide), show x * 16807 % 2147483647 = nextF x from rfl]
    refine g_lstore (q := 73) dX7_drawn_71 rfl (by decide) rfl rfl ?_
    refine g_aload_n (q := 74) dX7_drawn_73 rfl rfl ?_
    refine g_aload_n (q := 75) dX7_drawn_74 rfl rfl ?_
    refine gf_X7_25 (q := 78) rfl (by first | assumption | rfl) (by first | assumption | rfl) dX7_drawn_75 rfl ?_
    refine g_lload (q := 80) dX7_drawn_78 rfl rfl ?_
    refine g_aload_n (q := 81) dX7_drawn_80 rfl rfl ?_
    refine gf_X7_25 (q := 84) rfl (by first | assumption | rfl) (by first | assumption | rfl) dX7_drawn_81 rfl ?_
    refine g_iconst (q := 85) (v := nI 0) dX7_drawn_84 rfl (by decide) ?_
    refine g_ialdn (q := 86) (by first | assumption | rfl) (by repeat' first | apply nI_a | apply nI_m | exact rfl) (by omega) dX7_drawn_85 rfl ?_
    rw [hMg.nm]
    refine g_i2l (q := 87) dX7_drawn_86 rfl ?_
    rw [nI_l (by omega)]
    refine g_lrem (q := 88) dX7_drawn_87 rfl (lN_ne0 hnm (by omega)) ?_
    rw [lN_rem (by omega) (by omega)]
    refine g_l2i (q := 89) dX7_drawn_88 rfl ?_
    rw [lN_i]
    refine g_lload (q := 91) dX7_drawn_89 rfl rfl ?_
    refine lc_X7_259 (q := 94) rfl dX7_drawn_91 rfl ?_
    refine g_ldiv (q := 95) dX7_drawn_94 rfl (by decide) ?_
    rw [show (8 : Int64) = lN 8 from rfl, lN_div (by omega) (by decide)]
    refine lc_X7_261 (q := 98) rfl dX7_drawn_95 rfl ?_
    refine g_lrem (q := 99) dX7_drawn_98 rfl (by decide) ?_
    rw [show (6 : Int64) = lN 6 from rfl, lN_rem (by omega) (by decide)]
    refine g_l2i (q := 100) dX7_drawn_99 rfl ?_
    rw [lN_i]
    refine k_X7_245 (q := 103) rfl (Nat.le_of_ble_eq_true rfl) (by first | assumption | rfl) dX7_drawn_100 rfl (c_X7_runs (Or.inl rfl) rfl hMg hVg hmm hxx (fun J hF hP => ?_))
    have hr2 := hr.run hF
    have hF2 := hFI.tr hF.m
    cases hres : enF (gv S) (nextF x / 8 % 6) (nextF x % vnm (gv S)) 0 s0 with
    | none =>
      rw [hres] at hP h
      have hP : J 52 29 = nI 1 := hP
      refine g_iload (q := 105) dX7_drawn_103 rfl rfl ?_
      refine g_aload_n (q := 106) dX7_drawn_105 rfl rfl ?_
      refine gf_X7_179 (q := 109) rfl (by first | assumption | rfl) dX7_drawn_106 rfl ?_
      rw [hP]
      refine g_if_eq (tgt := 116) (q := 112) dX7_drawn_109 (by decide) rfl (fun c109 => absurd c109 (by decide)) (fun _ => ?_)
      refine g_iconst (q := 113) (v := nI 0) dX7_drawn_112 rfl (by decide) ?_
      refine g_goto (q := 120) dX7_drawn_113 (by decide) ?_
      refine g_iadd (q := 121) dX7_drawn_120 rfl ?_
      refine g_istore (q := 123) dX7_drawn_121 rfl (by decide) rfl rfl ?_
      refine g_iload (q := 125) dX7_drawn_123 rfl rfl ?_
      refine g_aload_n (q := 126) dX7_drawn_125 rfl rfl ?_
      refine gf_X7_179 (q := 129) rfl (by first | assumption | rfl) dX7_drawn_126 rfl ?_
      rw [hP]
      refine g_if_ne (tgt := 143) (q := 132) dX7_drawn_129 (by decide) rfl (fun _ => ?_) (fun c129 => absurd c129 (by decide))
      refine g_iconst (q := 144) (v := nI 0) dX7_drawn_143 rfl (by decide) ?_
      refine g_iadd (q := 145) dX7_drawn_144 rfl ?_
      refine g_istore (q := 147) dX7_drawn_145 rfl (by decide) rfl rfl ?_
      refine g_iincn (q := 150) dX7_drawn_147 rfl rfl (by decide) rfl rfl ?_
      refine g_goto (q := 55) dX7_drawn_150 (by decide) ?_
      exact ih (i + 1) (nextF x) _ _ J (by omega) hy hr2 hF2 h
    | some q =>
      rw [hres] at hP h
      obtain ⟨hP1, hP2, hP3, hP4⟩ := id hP
      have ez : nI q.2.1 ≤ nI 0 ↔ q.2.1 ≤ 0 := nI_leI (by omega) (by omega)
      refine g_iload (q := 105) dX7_drawn_103 rfl rfl ?_
      refine g_aload_n (q := 106) dX7_drawn_105 rfl rfl ?_
      refine gf_X7_179 (q := 109) rfl (by first | assumption | rfl) dX7_drawn_106 rfl ?_
      rw [hP1.2.2.2.2.1]
      refine g_if_eq (tgt := 116) (q := 112) dX7_drawn_109 (by decide) rfl (fun _ => ?_) (fun c109 => absurd c109 (by decide))
      refine g_aload_n (q := 117) dX7_drawn_116 rfl rfl ?_
      refine gf_X7_176 (q := 120) rfl (by first | assumption | rfl) dX7_drawn_117 rfl ?_
      rw [hP1.2.1]
      refine g_iadd (q := 121) dX7_drawn_120 rfl ?_
      refine g_istore (q := 123) dX7_drawn_121 rfl (by decide) rfl rfl ?_
      refine g_iload (q := 125) dX7_drawn_123 rfl rfl ?_
      refine g_aload_n (q := 126) dX7_drawn_125 rfl rfl ?_
      refine gf_X7_179 (q := 129) rfl (by first | assumption | rfl) dX7_drawn_126 rfl ?_
      rw [hP1.2.2.2.2.1]
      refine g_if_ne (tgt := 143) (q := 132) dX7_drawn_129 (by decide) rfl (fun c129 => absurd c129 (by decide)) (fun _ => ?_)
      refine g_aload_n (q := 133) dX7_drawn_132 rfl rfl ?_
      refine gf_X7_204 (q := 136) rfl (by first | assumption | rfl) dX7_drawn_133 rfl ?_
      rw [hP2]
      refine g_if_le (tgt := 143) (q := 139) dX7_drawn_136 (by decide) rfl (fun c136 => ?_) (fun c136 => ?_)
      · refine g_iconst (q := 144) (v := nI 0) dX7_drawn_143 rfl (by decide) ?_
        refine g_iadd (q := 145) dX7_drawn_144 rfl ?_
        refine g_istore (q := 147) dX7_drawn_145 rfl (by decide) rfl rfl ?_
        refine g_iincn (q := 150) dX7_drawn_147 rfl rfl (by decide) rfl rfl ?_
        refine g_goto (q := 55) dX7_drawn_150 (by decide) ?_
        refine ih (i + 1) (nextF x) _ _ J (by omega) hy hr2 hF2 ?_
        have hz : q.2.1 = 0 := by
          have := ez.mp c136
          omega
        have o0 : oneF (some q) 0 = nI q.1.1.length := by
          unfold oneF
          dsimp only
          rw [if_pos rfl]
        have o1 : oneF (some q) (nI 1) = nI 0 := by
          unfold oneF
          dsimp only
          rw [if_neg (show ¬ nI 1 = 0 by decide), if_pos hz]
        rw [o0, o1] at h
        exact h
      · refine g_iconst (q := 140) (v := nI 1) dX7_drawn_139 rfl (by decide) ?_
        refine g_goto (q := 144) dX7_drawn_140 (by decide) ?_
        refine g_iadd (q := 145) dX7_drawn_144 rfl ?_
        refine g_istore (q := 147) dX7_drawn_145 rfl (by decide) rfl rfl ?_
        refine g_iincn (q := 150) dX7_drawn_147 rfl rfl (by decide) rfl rfl ?_
        refine g_goto (q := 55) dX7_drawn_150 (by decide) ?_
        refine ih (i + 1) (nextF x) _ _ J (by omega) hy hr2 hF2 ?_
        have hz : ¬ q.2.1 = 0 := by
          have := mt ez.mpr c136
          omega
        have o0 : oneF (some q) 0 = nI q.1.1.length := by
          unfold oneF
          dsimp only
          rw [if_pos rfl]
        have o1 : oneF (some q) (nI 1) = nI 1 := by
          unfold oneF
          dsimp only
          rw [if_neg (show ¬ nI 1 = 0 by decide), if_neg hz]
        rw [o0, o1] at h
        exact h
set_option maxRecDepth 100000 in
set_option maxHeartbeats 400000 in
theorem c_X7_drawn {d k : Nat} {I : Nat → Nat → Int32} {Q : Option Int32 → Wd → Prop} {S : Sg} {n sd w : Int32} (hr : RepM I S) (h : ∀ I2, RepM I2 (drawnS S n sd w).2 → FrM I I2 → Q (some (drawnS S n sd w).1) (I2, RR k)) : Ex (d + 6) 0 0 mX7_drawn [.ref 52, .int n, .int sd, .int w] 68 (I, RR k) 68 Q := by
  have hVg : VOk (gv S) := hr.2.2.2.2.1.2
  have hMg : MRep I 58 0 (gv S) := hr.2.2.2.2.1.1
  obtain ⟨v1, v2, v3, v4⟩ := id hVg

  refine ex_intro (L0 := [.ref 52, .int n, .int sd, .int w, .null, .null, .null, .null, .null]) (by decide +kernel) rfl rfl (Nat.le_of_ble_eq_true rfl) rfl ?_
  refine g_aload_n (q := 1) dX7_drawn_0 rfl rfl ?_
  refine k_X7_251 (q := 4) rfl (Nat.le_of_ble_eq_true rfl) (by first | assumption | rfl) dX7_drawn_1 rfl (c_X7_isWeave hMg hVg (fun z1 => ?_) (fun z1 => ?_))
  · refine g_if_ne (tgt := 10) (q := 7) dX7_drawn_4 (by decide) rfl (fun _ => ?_) (fun c4 => absurd c4 (by decide))
    refine g_iload_n (q := 11) dX7_drawn_10 rfl rfl ?_
    refine g_iconst (q := 12) (v := nI 0) dX7_drawn_11 rfl (by decide) ?_
    refine g_bipush (q := 14) (v := nI 20) dX7_drawn_12 rfl (by decide) ?_
    refine k_X7_62 (q := 17) rfl (Nat.le_of_ble_eq_true rfl) dX7_drawn_14 rfl (c_X7_in (fun z141 z142 => ?_) (fun z14 => ?_))
    · have z14 := And.intro z141 z142
      refine g_if_eq (tgt := 39) (q := 20) dX7_drawn_17 (by decide) rfl (fun c17 => absurd c17 (by decide)) (fun _ => ?_)
      refine g_iload_n (q := 21) dX7_drawn_20 rfl rfl ?_
      refine g_iconst (q := 22) (v := nI 1) dX7_drawn_21 rfl (by decide) ?_
      refine lc_X7_254 (q := 24) rfl dX7_drawn_22 rfl ?_
      refine k_X7_62 (q := 27) rfl (Nat.le_of_ble_eq_true rfl) dX7_drawn_24 rfl (c_X7_in (fun z241 z242 => ?_) (fun z24 => ?_))
      · have z24 := And.intro z241 z242
        refine g_if_eq (tgt := 39) (q := 30) dX7_drawn_27 (by decide) rfl (fun c27 => absurd c27 (by decide)) (fun _ => ?_)
        refine g_iload_n (q := 31) dX7_drawn_30 rfl rfl ?_
        refine g_iconst (q := 32) (v := nI 0) dX7_drawn_31 rfl (by decide) ?_
        refine g_iconst (q := 33) (v := nI 1) dX7_drawn_32 rfl (by decide) ?_
        refine k_X7_62 (q := 36) rfl (Nat.le_of_ble_eq_true rfl) dX7_drawn_33 rfl (c_X7_in (fun z331 z332 => ?_) (fun z33 => ?_))
        · have z33 := And.intro z331 z332
          refine g_if_ne (tgt := 42) (q := 39) dX7_drawn_36 (by decide) rfl (fun _ => ?_) (fun c36 => absurd c36 (by decide))
          have y14 := z14
          have y24 := z24
          have y33 := z33
          obtain ⟨n, hn, rfl⟩ := inR_nat (by decide) z14
          obtain ⟨sd, hsd, rfl⟩ := inR_nat (N := 999999) (by decide) ⟨Int32.le_trans (by decide) z24.1, z24.2⟩
          obtain ⟨w, hw, rfl⟩ := inR_nat (by decide) z33
          rw [drawnS, if_neg z1, if_pos y14, if_pos y24, if_pos y33, nI_clamp (by omega), nI_clamp (by omega)] at h
          refine g_iload_n (q := 43) dX7_drawn_42 rfl rfl ?_
          refine g_i2l (q := 44) dX7_drawn_43 rfl ?_
          rw [nI_l (by omega)]
          refine g_lstore (q := 46) dX7_drawn_44 rfl (by decide) rfl rfl ?_
          refine g_iconst (q := 47) (v := nI 0) dX7_drawn_46 rfl (by decide) ?_
          refine g_istore (q := 49) dX7_drawn_47 rfl (by decide) rfl rfl ?_
          refine g_iconst (q := 50) (v := nI 0) dX7_drawn_49 rfl (by decide) ?_
          refine g_istore (q := 52) dX7_drawn_50 rfl (by decide) rfl rfl ?_
          refine g_iconst (q := 53) (v := nI 0) dX7_drawn_52 rfl (by decide) ?_
          refine g_istore (q := 55) dX7_drawn_53 rfl (by decide) rfl rfl ?_
          refine l_mdrawn (by omega) hn n 0 sd (nI 0) (nI 0) I (by omega) (by omega) hr FrM.rf (fun I2 g1 g2 => ?_)
          have ew : w = 0 ∨ w = 1 := by omega
          rcases ew with rfl | rfl
          · exact h I2 g1 g2
          · exact h I2 g1 g2
        · refine g_if_ne (tgt := 42) (q := 39) dX7_drawn_36 (by decide) rfl (fun c36 => absurd c36 (by decide)) (fun _ => ?_)
          refine lc_X7_70 (q := 41) rfl dX7_drawn_39 rfl ?_
          refine g_iret rfl dX7_drawn_41 (Nat.le_refl _) (Nat.le_refl _) ?_
          rw [drawnS, if_neg z1, if_pos z14, if_pos z24, if_neg z33] at h
          exact h I hr FrM.rf
      · refine g_if_eq (tgt := 39) (q := 30) dX7_drawn_27 (by decide) rfl (fun _ => ?_) (fun c27 => absurd c27 (by decide))
        refine lc_X7_70 (q := 41) rfl dX7_drawn_39 rfl ?_
        refine g_iret rfl dX7_drawn_41 (Nat.le_refl _) (Nat.le_refl _) ?_
        rw [drawnS, if_neg z1, if_pos z14, if_neg z24] at h
        exact h I hr FrM.rf
    · refine g_if_eq (tgt := 39) (q := 20) dX7_drawn_17 (by decide) rfl (fun _ => ?_) (fun c17 => absurd c17 (by decide))
      refine lc_X7_70 (q := 41) rfl dX7_drawn_39 rfl ?_
      refine g_iret rfl dX7_drawn_41 (Nat.le_refl _) (Nat.le_refl _) ?_
      rw [drawnS, if_neg z1, if_neg z14] at h
      exact h I hr FrM.rf
  · refine g_if_ne (tgt := 10) (q := 7) dX7_drawn_4 (by decide) rfl (fun c4 => absurd c4 (by decide)) (fun _ => ?_)
    refine lc_X7_238 (q := 9) rfl dX7_drawn_7 rfl ?_
    refine g_iret rfl dX7_drawn_9 (Nat.le_refl _) (Nat.le_refl _) ?_
    rw [drawnS, if_pos z1] at h
    exact h I hr FrM.rf
