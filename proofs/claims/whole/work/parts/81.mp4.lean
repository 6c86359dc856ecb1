set_option maxRecDepth 100000 in
set_option maxHeartbeats 1600000 in
theorem c_X7_readsAdvice {d k : Nat} {I : Nat → Nat → Int32} {Q : Option Int32 → Wd → Prop} {t : List Nat} {s : Ps} {f0 : Nat} {v : Vv} (hR : RX I t s f0) (hs : s.1 = 0) (hk : ¬ kdN t s.2 = 0) (hM : MRep I 59 0 v) (hv : VOk0 v) (h : ∀ J, FrD I J → RX J t (a6S t (vna v) s) f0 → MRep J 59 0 (avS t s v) → Q none (J, RR k)) : Ex (d + 5) 0 0 mX7_readsAdvice [.ref 52] 68 (I, RR k) 68 Q := by
  have hn5 := hv.2.1
  obtain ⟨r1, r2, r3, r4, r5, r6, r7⟩ := id hR
  obtain ⟨q1, q2, q3, q4, q5⟩ := r7 hs
  have hb := r1.b s.2
  obtain ⟨k1, k2⟩ := kdN_1 hk
  refine ex_intro (L0 := [.ref 52, .null, .null, .null, .null, .null, .null, .null]) (by decide +kernel) rfl rfl (Nat.le_of_ble_eq_true rfl) rfl ?_
  by_cases hn : vna v < 5
  · refine g_aload_n (q := 1) dX7_readsAdvice_0 rfl rfl ?_
    refine gf_X7_101 (q := 4) rfl rfl dX7_readsAdvice_1 rfl ?_
    rw [q4 k1]
    refine k_X7_130 (q := 7) rfl (Nat.le_of_ble_eq_true rfl) dX7_readsAdvice_4 rfl (c_X7_kindOf ?_)
    rw [kdI_n _ hb, k2]
    refine g_istore_n (q := 8) dX7_readsAdvice_7 rfl (by decide) rfl rfl ?_
    refine g_aload_n (q := 9) dX7_readsAdvice_8 rfl rfl ?_
    refine g_aload_n (q := 10) dX7_readsAdvice_9 rfl rfl ?_
    refine gf_X7_28 (q := 13) rfl rfl rfl dX7_readsAdvice_10 rfl ?_
    refine g_iconst (q := 14) (v := nI 1) dX7_readsAdvice_13 rfl (by decide) ?_
    refine g_ialdn (q := 15) rfl (by repeat' first | apply nI_a | apply nI_m | exact rfl) (by omega) dX7_readsAdvice_14 rfl ?_
    rw [hM.na]
    refine g_iconst (q := 16) (v := nI 5) dX7_readsAdvice_15 rfl (by decide) ?_
    refine g_icmp_ge (tgt := 23) (q := 19) dX7_readsAdvice_16 (by decide) rfl (fun c16 => absurd c16 (nI_ge hn (by omega))) (fun _ => ?_)
    refine g_iconst (q := 20) (v := nI 1) dX7_readsAdvice_19 rfl (by decide) ?_
    refine g_goto (q := 24) dX7_readsAdvice_20 (by decide) ?_
    refine g_iconst (q := 25) (v := nI 3) dX7_readsAdvice_24 rfl (by decide) ?_
    refine k_X7_120 (q := 28) rfl (Nat.le_of_ble_eq_true rfl) rfl dX7_readsAdvice_25 rfl (c_takes1 hR (fun J1 r0 f1 R1 _ => ?_))
    have M1 := hM.x f1
    have ea : a0S t (vna v) s = tkS t true 3 s := by unfold a0S; rw [decide_eq_true hn]
    rw [← ea] at R1
    refine g_pop (q := 29) dX7_readsAdvice_28 rfl rfl ?_
    refine g_bipush (q := 31) (v := nI 62) dX7_readsAdvice_29 rfl (by decide) ?_
    refine g_bipush (q := 33) (v := nI 6) dX7_readsAdvice_31 rfl (by decide) ?_
    refine g_aload_n (q := 34) dX7_readsAdvice_33 rfl rfl ?_
    refine gf_X7_28 (q := 37) rfl rfl rfl dX7_readsAdvice_34 rfl ?_
    refine g_iconst (q := 38) (v := nI 1) dX7_readsAdvice_37 rfl (by decide) ?_
    refine g_ialdn (q := 39) rfl (by repeat' first | apply nI_a | apply nI_m | exact rfl) (by omega) dX7_readsAdvice_38 rfl ?_
    rw [M1.na]
    refine g_iconst (q := 40) (v := nI 5) dX7_readsAdvice_39 rfl (by decide) ?_
    refine g_icmp_ge (tgt := 52) (q := 43) dX7_readsAdvice_40 (by decide) rfl (fun c40 => absurd c40 (nI_ge hn (by omega))) (fun _ => ?_)
    refine g_aload_n (q := 44) dX7_readsAdvice_43 rfl rfl ?_
    refine gf_X7_28 (q := 47) rfl rfl rfl dX7_readsAdvice_44 rfl ?_
    refine g_iconst (q := 48) (v := nI 1) dX7_readsAdvice_47 rfl (by decide) ?_
    refine g_ialdn (q := 49) rfl (by repeat' first | apply nI_a | apply nI_m | exact rfl) (by omega) dX7_readsAdvice_48 rfl ?_
    rw [M1.na]
    refine g_goto (q := 53) dX7_readsAdvice_49 (by decide) ?_
    refine g_imul (q := 54) dX7_readsAdvice_53 rfl ?_
    refine g_iadd (q := 55) dX7_readsAdvice_54 rfl ?_
    rw [show nI 62 + nI 6 * nI (vna v) = nI (62 + 6 * vna v) from nI_a rfl (nI_m rfl rfl)]
    refine g_istore_n (q := 56) dX7_readsAdvice_55 rfl (by decide) rfl rfl ?_
    refine g_aload_n (q := 57) dX7_readsAdvice_56 rfl rfl ?_
    refine g_iconst (q := 58) (v := nI 1) dX7_readsAdvice_57 rfl (by decide) ?_
    refine g_bipush (q := 60) (v := nI 99) dX7_readsAdvice_58 rfl (by decide) ?_
    refine k_X7_124 (q := 63) rfl (Nat.le_of_ble_eq_true rfl) rfl dX7_readsAdvice_60 rfl (c_X7_figure R1 (by decide) (by decide) (fun J2 y0 f2 R2 e0 => ?_))
    have R2 : RX J2 t (a1S t (vna v) s) f0 := R2
    have e0 : (a1S t (vna v) s).1 = 0 → y0 = nI (tkV t (a0S t (vna v) s).2) := e0
    refine g_istore_n (q := 64) dX7_readsAdvice_63 rfl (by decide) rfl rfl ?_
    refine g_aload_n (q := 65) dX7_readsAdvice_64 rfl rfl ?_
    refine g_iconst (q := 66) (v := nI 0) dX7_readsAdvice_65 rfl (by decide) ?_
    refine g_iconst (q := 67) (v := nI 4) dX7_readsAdvice_66 rfl (by decide) ?_
    refine k_X7_133 (q := 70) rfl (Nat.le_of_ble_eq_true rfl) rfl dX7_readsAdvice_67 rfl (c_X7_behind R2 (by decide) (by decide) (fun J3 y1 f3 R3 e1 => ?_))
    have R3 : RX J3 t (a2S t (vna v) s) f0 := R3
    have e1 : (a2S t (vna v) s).1 = 0 → y1 = nI (tkV t (bhS t (a1S t (vna v) s)).2) := e1
    refine g_istore (q := 72) dX7_readsAdvice_70 rfl (by decide) rfl rfl ?_
    refine g_aload_n (q := 73) dX7_readsAdvice_72 rfl rfl ?_
    refine g_iconst (q := 74) (v := nI 0) dX7_readsAdvice_73 rfl (by decide) ?_
    refine g_bipush (q := 76) (v := nI 6) dX7_readsAdvice_74 rfl (by decide) ?_
    refine k_X7_133 (q := 79) rfl (Nat.le_of_ble_eq_true rfl) rfl dX7_readsAdvice_76 rfl (c_X7_behind R3 (by decide) (by decide) (fun J4 y2 f4 R4 e2 => ?_))
    have R4 : RX J4 t (a3S t (vna v) s) f0 := R4
    have e2 : (a3S t (vna v) s).1 = 0 → y2 = nI (tkV t (bhS t (a2S t (vna v) s)).2) := e2
    refine g_istore (q := 81) dX7_readsAdvice_79 rfl (by decide) rfl rfl ?_
    refine g_aload_n (q := 82) dX7_readsAdvice_81 rfl rfl ?_
    refine g_iconst (q := 83) (v := nI 0) dX7_readsAdvice_82 rfl (by decide) ?_
    refine g_bipush (q := 85) (v := nI 10) dX7_readsAdvice_83 rfl (by decide) ?_
    refine k_X7_133 (q := 88) rfl (Nat.le_of_ble_eq_true rfl) rfl dX7_readsAdvice_85 rfl (c_X7_behind R4 (by decide) (by decide) (fun J5 y3 f5 R5 e3 => ?_))
    have R5 : RX J5 t (a4S t (vna v) s) f0 := R5
    have e3 : (a4S t (vna v) s).1 = 0 → y3 = nI (tkV t (bhS t (a3S t (vna v) s)).2) := e3
    refine g_istore (q := 90) dX7_readsAdvice_88 rfl (by decide) rfl rfl ?_
    refine g_aload_n (q := 91) dX7_readsAdvice_90 rfl rfl ?_
    refine g_iconst (q := 92) (v := nI 0) dX7_readsAdvice_91 rfl (by decide) ?_
    refine g_bipush (q := 94) (v := nI 6) dX7_readsAdvice_92 rfl (by decide) ?_
    refine k_X7_133 (q := 97) rfl (Nat.le_of_ble_eq_true rfl) rfl dX7_readsAdvice_94 rfl (c_X7_behind R5 (by decide) (by decide) (fun J6 y4 f6 R6 e4 => ?_))
    have R6 : RX J6 t (a5S t (vna v) s) f0 := R6
    have e4 : (a5S t (vna v) s).1 = 0 → y4 = nI (tkV t (bhS t (a4S t (vna v) s)).2) := e4
    obtain ⟨b1, b2, b3, b4, b5, b6, b7⟩ := id R6
    refine g_istore (q := 99) dX7_readsAdvice_97 rfl (by decide) rfl rfl ?_
    refine g_aload_n (q := 100) dX7_readsAdvice_99 rfl rfl ?_
    refine g_aload_n (q := 101) dX7_readsAdvice_100 rfl rfl ?_
    refine gf_X7_104 (q := 104) rfl rfl dX7_readsAdvice_101 rfl ?_
    refine g_iconst (q := 105) (v := nI 4) dX7_readsAdvice_104 rfl (by decide) ?_
    refine g_icmp_ne (tgt := 112) (q := 108) dX7_readsAdvice_105 (by decide) rfl (fun c105 => ?_) (fun c105 => ?_)
    · refine g_iconst (q := 113) (v := nI 0) dX7_readsAdvice_112 rfl (by decide) ?_
      refine g_iconst (q := 114) (v := nI 1) dX7_readsAdvice_113 rfl (by decide) ?_
      refine k_X7_120 (q := 117) rfl (Nat.le_of_ble_eq_true rfl) rfl dX7_readsAdvice_114 rfl (c_takes0 R6 (by decide) (by decide) (fun J7 f7 g7 => ?_))
      have gS : RX J7 t (a6S t (vna v) s) f0 := by
        unfold a6S
        by_cases hz : (a5S t (vna v) s).1 = 0
        · have hc : chr t (a5S t (vna v) s).2 59 = false := by
            cases hb : chr t (a5S t (vna v) s).2 59 with
            | false => rfl
            | true => exact absurd (by rw [show J6 52 11 = nI (tkK t (a5S t (vna v) s).2) from (b7 hz).2.2.1, tkK_4.mpr hb]) c105
          rw [hc]; exact g7
        · rw [tkS_n hz] at g7 ⊢; exact g7
      refine g_pop (q := 118) dX7_readsAdvice_117 rfl rfl ?_
      refine g_aload_n (q := 119) dX7_readsAdvice_118 rfl rfl ?_
      refine k_X7_110 (q := 122) rfl (Nat.le_of_ble_eq_true rfl) rfl dX7_readsAdvice_119 rfl (c_X7_isWell gS (fun z119 => ?_) (fun z119 => ?_))
      · have z5 : (a5S t (vna v) s).1 = 0 := (tkS_0 (by decide) z119).1
        have z4 : (a4S t (vna v) s).1 = 0 := (tkS_0 (by decide) (nmS_0 z5).1).1
        have z3 : (a3S t (vna v) s).1 = 0 := (tkS_0 (by decide) (nmS_0 z4).1).1
        have z2 : (a2S t (vna v) s).1 = 0 := (tkS_0 (by decide) (nmS_0 z3).1).1
        have z1 : (a1S t (vna v) s).1 = 0 := (tkS_0 (by decide) (nmS_0 z2).1).1
        have M7 := (((((M1.x f2).x f3).x f4).x f5).x f6).x f7
        have p7 : FrD I J7 := (((((f1.d.tr f2.d).tr f3.d).tr f4.d).tr f5.d).tr f6.d).tr f7.d
        rw [e0 z1, e1 z2, e2 z3, e3 z4, e4 z5]
        refine g_if_eq (tgt := 191) (q := 125) dX7_readsAdvice_122 (by decide) rfl (fun c122 => absurd c122 (by decide)) (fun _ => ?_)
        refine g_aload_n (q := 126) dX7_readsAdvice_125 rfl rfl ?_
        refine gf_X7_28 (q := 129) rfl rfl rfl dX7_readsAdvice_126 rfl ?_
        refine g_iload_n (q := 130) dX7_readsAdvice_129 rfl rfl ?_
        refine g_iload_n (q := 131) dX7_readsAdvice_130 rfl rfl ?_
        refine g_iastn (q := 132) rfl (by repeat' first | apply nI_a | apply nI_m | exact rfl) (by omega) dX7_readsAdvice_131 rfl ?_
        refine g_aload_n (q := 133) dX7_readsAdvice_132 rfl rfl ?_
        refine gf_X7_28 (q := 136) rfl rfl rfl dX7_readsAdvice_133 rfl ?_
        refine g_iload_n (q := 137) dX7_readsAdvice_136 rfl rfl ?_
        refine g_iconst (q := 138) (v := nI 1) dX7_readsAdvice_137 rfl (by decide) ?_
        refine g_iadd (q := 139) dX7_readsAdvice_138 rfl ?_
        refine g_iload_n (q := 140) dX7_readsAdvice_139 rfl rfl ?_
        refine g_iastn (q := 141) rfl (by repeat' first | apply nI_a | apply nI_m | exact rfl) (by omega) dX7_readsAdvice_140 rfl ?_
        refine g_aload_n (q := 142) dX7_readsAdvice_141 rfl rfl ?_
        refine gf_X7_28 (q := 145) rfl rfl rfl dX7_readsAdvice_142 rfl ?_
        refine g_iload_n (q := 146) dX7_readsAdvice_145 rfl rfl ?_
        refine g_iconst (q := 147) (v := nI 2) dX7_readsAdvice_146 rfl (by decide) ?_
        refine g_iadd (q := 148) dX7_readsAdvice_147 rfl ?_
        refine g_iload (q := 150) dX7_readsAdvice_148 rfl rfl ?_
        refine g_iastn (q := 151) rfl (by repeat' first | apply nI_a | apply nI_m | exact rfl) (by omega) dX7_readsAdvice_150 rfl ?_
        refine g_aload_n (q := 152) dX7_readsAdvice_151 rfl rfl ?_
        refine gf_X7_28 (q := 155) rfl rfl rfl dX7_readsAdvice_152 rfl ?_
        refine g_iload_n (q := 156) dX7_readsAdvice_155 rfl rfl ?_
        refine g_iconst (q := 157) (v := nI 3) dX7_readsAdvice_156 rfl (by decide) ?_
        refine g_iadd (q := 158) dX7_readsAdvice_157 rfl ?_
        refine g_iload (q := 160) dX7_readsAdvice_158 rfl rfl ?_
        refine g_iastn (q := 161) rfl (by repeat' first | apply nI_a | apply nI_m | exact rfl) (by omega) dX7_readsAdvice_160 rfl ?_
        refine g_aload_n (q := 162) dX7_readsAdvice_161 rfl rfl ?_
        refine gf_X7_28 (q := 165) rfl rfl rfl dX7_readsAdvice_162 rfl ?_
        refine g_iload_n (q := 166) dX7_readsAdvice_165 rfl rfl ?_
        refine g_iconst (q := 167) (v := nI 4) dX7_readsAdvice_166 rfl (by decide) ?_
        refine g_iadd (q := 168) dX7_readsAdvice_167 rfl ?_
        refine g_iload (q := 170) dX7_readsAdvice_168 rfl rfl ?_
        refine g_iastn (q := 171) rfl (by repeat' first | apply nI_a | apply nI_m | exact rfl) (by omega) dX7_readsAdvice_170 rfl ?_
        refine g_aload_n (q := 172) dX7_readsAdvice_171 rfl rfl ?_
        refine gf_X7_28 (q := 175) rfl rfl rfl dX7_readsAdvice_172 rfl ?_
        refine g_iload_n (q := 176) dX7_readsAdvice_175 rfl rfl ?_
        refine g_iconst (q := 177) (v := nI 5) dX7_readsAdvice_176 rfl (by decide) ?_
        refine g_iadd (q := 178) dX7_readsAdvice_177 rfl ?_
        refine g_iload (q := 180) dX7_readsAdvice_178 rfl rfl ?_
        refine g_iastn (q := 181) rfl (by repeat' first | apply nI_a | apply nI_m | exact rfl) (by omega) dX7_readsAdvice_180 rfl ?_
        refine g_aload_n (q := 182) dX7_readsAdvice_181 rfl rfl ?_
        refine gf_X7_28 (q := 185) rfl rfl rfl dX7_readsAdvice_182 rfl ?_
        refine g_iconst (q := 186) (v := nI 1) dX7_readsAdvice_185 rfl (by decide) ?_
        refine g_dup2 (q := 187) dX7_readsAdvice_186 rfl rfl rfl ?_
        refine g_ialdn (q := 188) rfl (by repeat' first | apply nI_a | apply nI_m | exact rfl) (by omega) dX7_readsAdvice_187 rfl ?_
        rw [uI_n2 (by omega), uI_n2 (by omega), uI_n2 (by omega), uI_n2 (by omega), uI_n2 (by omega), uI_n2 (by omega), M7.na]
        refine g_iconst (q := 189) (v := nI 1) dX7_readsAdvice_188 rfl (by decide) ?_
        refine g_iadd (q := 190) dX7_readsAdvice_189 rfl ?_
        rw [nI_add]
        refine g_iastn (q := 191) rfl (by repeat' first | apply nI_a | apply nI_m | exact rfl) (by omega) dX7_readsAdvice_190 rfl ?_
        refine g_vret rfl dX7_readsAdvice_191 (Nat.le_refl _) (Nat.le_refl _) ?_
        refine h _ (p7.tr (FrD.u.tr (FrD.u.tr (FrD.u.tr (FrD.u.tr (FrD.u.tr (FrD.u.tr FrD.u))))))) gS.u.u.u.u.u.u.u ?_
        unfold avS
        rw [if_pos z119]
        refine MRep_addA M7 hv hn uI_eq ?_ (fun f hf => ?_) (fun i h1 h2 => ?_)
        · rw [uI_n2 (by omega), uI_n2 (by omega), uI_n2 (by omega), uI_n2 (by omega), uI_n2 (by omega), uI_n2 (by omega), uI_eq]; rfl
        · have hf5 : f = 0 ∨ f = 1 ∨ f = 2 ∨ f = 3 ∨ f = 4 := by omega
          rcases hf5 with rfl | rfl | rfl | rfl | rfl
          · rw [uI_n2 (by omega), uI_n2 (by omega), uI_n2 (by omega), uI_n2 (by omega), uI_n2 (by omega)]; exact uI_eq
          · rw [uI_n2 (by omega), uI_n2 (by omega), uI_n2 (by omega), uI_n2 (by omega)]; exact uI_eq
          · rw [uI_n2 (by omega), uI_n2 (by omega), uI_n2 (by omega)]; exact uI_eq
          · rw [uI_n2 (by omega), uI_n2 (by omega)]; exact uI_eq
          · rw [uI_n2 (by omega)]; exact uI_eq
        · rw [uI_n2 (by omega), uI_n2 (by omega), uI_n2 (by omega), uI_n2 (by omega), uI_n2 (by omega), uI_n2 (by omega), uI_n2 (by omega)]
      · have M7 := (((((M1.x f2).x f3).x f4).x f5).x f6).x f7
        have p7 : FrD I J7 := (((((f1.d.tr f2.d).tr f3.d).tr f4.d).tr f5.d).tr f6.d).tr f7.d
        refine g_if_eq (tgt := 191) (q := 125) dX7_readsAdvice_122 (by decide) rfl (fun _ => ?_) (fun c122 => absurd c122 (by decide))
        refine g_vret rfl dX7_readsAdvice_191 (Nat.le_refl _) (Nat.le_refl _) ?_
        refine h J7 p7 gS ?_
        unfold avS
        rw [if_neg z119]
        exact M7
    · refine g_iconst (q := 109) (v := nI 1) dX7_readsAdvice_108 rfl (by decide) ?_
      refine g_goto (q := 113) dX7_readsAdvice_109 (by decide) ?_
      refine g_iconst (q := 114) (v := nI 1) dX7_readsAdvice_113 rfl (by decide) ?_
      refine k_X7_120 (q := 117) rfl (Nat.le_of_ble_eq_true rfl) rfl dX7_readsAdvice_114 rfl (c_takes1 R6 (fun J7 r0 f7 g7 _ => ?_))
      have gS : RX J7 t (a6S t (vna v) s) f0 := by
        unfold a6S
        by_cases hz : (a5S t (vna v) s).1 = 0
        · have hc : chr t (a5S t (vna v) s).2 59 = true := tkK_4.mp ((nI_eq (by have := tkK_lt t (a5S t (vna v) s).2; omega) (by decide)).mp ((b7 hz).2.2.1.symm.trans c105))
          rw [hc]; exact g7
        · rw [tkS_n hz] at g7 ⊢; exact g7
      refine g_pop (q := 118) dX7_readsAdvice_117 rfl rfl ?_
      refine g_aload_n (q := 119) dX7_readsAdvice_118 rfl rfl ?_
      refine k_X7_110 (q := 122) rfl (Nat.le_of_ble_eq_true rfl) rfl dX7_readsAdvice_119 rfl (c_X7_isWell gS (fun z119 => ?_) (fun z119 => ?_))
      · have z5 : (a5S t (vna v) s).1 = 0 := (tkS_0 (by decide) z119).1
        have z4 : (a4S t (vna v) s).1 = 0 := (tkS_0 (by decide) (nmS_0 z5).1).1
        have z3 : (a3S t (vna v) s).1 = 0 := (tkS_0 (by decide) (nmS_0 z4).1).1
        have z2 : (a2S t (vna v) s).1 = 0 := (tkS_0 (by decide) (nmS_0 z3).1).1
        have z1 : (a1S t (vna v) s).1 = 0 := (tkS_0 (by decide) (nmS_0 z2).1).1
        have M7 := (((((M1.x f2).x f3).x f4).x f5).x f6).x f7
        have p7 : FrD I J7 := (((((f1.d.tr f2.d).tr f3.d).tr f4.d).tr f5.d).tr f6.d).tr f7.d
        rw [e0 z1, e1 z2, e2 z3, e3 z4, e4 z5]
        refine g_if_eq (tgt := 191) (q := 125) dX7_readsAdvice_122 (by decide) rfl (fun c122 => absurd c122 (by decide)) (fun _ => ?_)
        refine g_aload_n (q := 126) dX7_readsAdvice_125 rfl rfl ?_
        refine gf_X7_28 (q := 129) rfl rfl rfl dX7_readsAdvice_126 rfl ?_
        refine g_iload_n (q := 130) dX7_readsAdvice_129 rfl rfl ?_
        refine g_iload_n (q := 131) dX7_readsAdvice_130 rfl rfl ?_
        refine g_iastn (q := 132) rfl (by repeat' first | apply nI_a | apply nI_m | exact rfl) (by omega) dX7_readsAdvice_131 rfl ?_
        refine g_aload_n (q := 133) dX7_readsAdvice_132 rfl rfl ?_
        refine gf_X7_28 (q := 136) rfl rfl rfl dX7_readsAdvice_133 rfl ?_
        refine g_iload_n (q := 137) dX7_readsAdvice_136 rfl rfl ?_
        refine g_iconst (q := 138) (v := nI 1) dX7_readsAdvice_137 rfl (by decide) ?_
        refine g_iadd (q := 139) dX7_readsAdvice_138 rfl ?_
        refine g_iload_n (q := 140) dX7_readsAdvice_139 rfl rfl ?_
        refine g_iastn (q := 141) rfl (by repeat' first | apply nI_a | apply nI_m | exact rfl) (by omega) dX7_readsAdvice_140 rfl ?_
        refine g_aload_n (q := 142) dX7_readsAdvice_141 rfl rfl ?_
        refine gf_X7_28 (q := 145) rfl rfl rfl dX7_readsAdvice_142 rfl ?_
        refine g_iload_n (q := 146) dX7_readsAdvice_145 rfl rfl ?_
        refine g_iconst (q := 147) (v := nI 2) dX7_readsAdvice_146 rfl (by decide) ?_
        refine g_iadd (q := 148) dX7_readsAdvice_147 rfl ?_
        refine g_iload (q := 150) dX7_readsAdvice_148 rfl rfl ?_
        refine g_iastn (q := 151) rfl (by repeat' first | apply nI_a | apply nI_m | exact rfl) (by omega) dX7_readsAdvice_150 rfl ?_
        refine g_aload_n (q := 152) dX7_readsAdvice_151 rfl rfl ?_
        refine gf_X7_28 (q := 155) rfl rfl rfl dX7_readsAdvice_152 rfl ?_
        refine g_iload_n (q := 156) dX7_readsAdvice_155 rfl rfl ?_
        refine g_iconst (q := 157) (v := nI 3) dX7_readsAdvice_156 rfl (by decide) ?_
        refine g_iadd (q := 158) dX7_readsAdvice_157 rfl ?_
        refine g_iload (q := 160) dX7_readsAdvice_158 rfl rfl ?_
        refine g_iastn (q := 161) rfl (by repeat' first | apply nI_a | apply nI_m | exact rfl) (by omega) dX7_readsAdvice_160 rfl ?_
        refine g_aload_n (q := 162) dX7_readsAdvice_161 rfl rfl ?_
        refine gf_X7_28 (q := 165) rfl rfl rfl dX7_readsAdvice_162 rfl ?_
        refine g_iload_n (q := 166) dX7_readsAdvice_165 rfl rfl ?_
        refine g_iconst (q := 167) (v := nI 4) dX7_readsAdvice_166 rfl (by decide) ?_
        refine g_iadd (q := 168) dX7_readsAdvice_167 rfl ?_
        refine g_iload (q := 170) dX7_readsAdvice_168 rfl rfl ?_
        refine g_iastn (q := 171) rfl (by repeat' first | apply nI_a | apply nI_m | exact rfl) (by omega) dX7_readsAdvice_170 rfl ?_
        refine g_aload_n (q := 172) dX7_readsAdvice_171 rfl rfl ?_
        refine gf_X7_28 (q := 175) rfl rfl rfl dX7_readsAdvice_172 rfl ?_
        refine g_iload_n (q := 176) dX7_readsAdvice_175 rfl rfl ?_
        refine g_iconst (q := 177) (v := nI 5) dX7_readsAdvice_176 rfl (by decide) ?_
        refine g_iadd (q := 178) dX7_readsAdvice_177 rfl ?_
        refine g_iload (q := 180) dX7_readsAdvice_178 rfl rfl ?_
        refine g_iastn (q := 181) rfl (by repeat' first | apply nI_a | apply nI_m | exact rfl) (by omega) dX7_readsAdvice_180 rfl ?_
        refine g_aload_n (q := 182) dX7_readsAdvice_181 rfl rfl ?_
        refine gf_X7_28 (q := 185) rfl rfl rfl dX7_readsAdvice_182 rfl ?_
        refine g_iconst (q := 186) (v := nI 1) dX7_readsAdvice_185 rfl (by decide) ?_
        refine g_dup2 (q := 187) dX7_readsAdvice_186 rfl rfl rfl ?_
        refine g_ialdn (q := 188) rfl (by repeat' first | apply nI_a | apply nI_m | exact rfl) (by omega) dX7_readsAdvice_187 rfl ?_
        rw [uI_n2 (by omega), uI_n2 (by omega), uI_n2 (by omega), uI_n2 (by omega), uI_n2 (by omega), uI_n2 (by omega), M7.na]
        refine g_iconst (q := 189) (v := nI 1) dX7_readsAdvice_188 rfl (by decide) ?_
        refine g_iadd (q := 190) dX7_readsAdvice_189 rfl ?_
        rw [nI_add]
        refine g_iastn (q := 191) rfl (by repeat' first | apply nI_a | apply nI_m | exact rfl) (by omega) dX7_readsAdvice_190 rfl ?_
        refine g_vret rfl dX7_readsAdvice_191 (Nat.le_refl _) (Nat.le_refl _) ?_
        refine h _ (p7.tr (FrD.u.tr (FrD.u.tr (FrD.u.tr (FrD.u.tr (FrD.u.tr (FrD.u.tr FrD.u))))))) gS.u.u.u.u.u.u.u ?_
        unfold avS
        rw [if_pos z119]
        refine MRep_addA M7 hv hn uI_eq ?_ (fun f hf => ?_) (fun i h1 h2 => ?_)
        · rw [uI_n2 (by omega), uI_n2 (by omega), uI_n2 (by omega), uI_n2 (by omega), uI_n2 (by omega), uI_n2 (by omega), uI_eq]; rfl
        · have hf5 : f = 0 ∨ f = 1 ∨ f = 2 ∨ f = 3 ∨ f = 4 := by omega
          rcases hf5 with rfl | rfl | rfl | rfl | rfl
          · rw [uI_n2 (by omega), uI_n2 (by omega), uI_n2 (by omega), uI_n2 (by omega), uI_n2 (by omega)]; exact uI_eq
          · rw [uI_n2 (by omega), uI_n2 (by omega), uI_n2 (by omega), uI_n2 (by omega)]; exact uI_eq
          · rw [uI_n2 (by omega), uI_n2 (by omega), uI_n2 (by omega)]; exact uI_eq
          · rw [uI_n2 (by omega), uI_n2 (by omega)]; exact uI_eq
          · rw [uI_n2 (by omega)]; exact uI_eq
        · rw [uI_n2 (by omega), uI_n2 (by omega), uI_n2 (by omega), uI_n2 (by omega), uI_n2 (by omega), uI_n2 (by omega), uI_n2 (by omega)]
      · have M7 := (((((M1.x f2).x f3).x f4).x f5).x f6).x f7
        have p7 : FrD I J7 := (((((f1.d.tr f2.d).tr f3.d).tr f4.d).tr f5.d).tr f6.d).tr f7.d
        refine g_if_eq (tgt := 191) (q := 125) dX7_readsAdvice_122 (by decide) rfl (fun _ => ?_) (fun c122 => absurd c122 (by decide))
        refine g_vret rfl dX7_readsAdvice_191 (Nat.le_refl _) (Nat.le_refl _) ?_
        refine h J7 p7 gS ?_
        unfold avS
        rw [if_neg z119]
        exact M7
  · refine g_aload_n (q := 1) dX7_readsAdvice_0 rfl rfl ?_
    refine gf_X7_101 (q := 4) rfl rfl dX7_readsAdvice_1 rfl ?_
    rw [q4 k1]
    refine k_X7_130 (q := 7) rfl (Nat.le_of_ble_eq_true rfl) dX7_readsAdvice_4 rfl (c_X7_kindOf ?_)
    rw [kdI_n _ hb, k2]
    refine g_istore_n (q := 8) dX7_readsAdvice_7 rfl (by decide) rfl rfl ?_
    refine g_aload_n (q := 9) dX7_readsAdvice_8 rfl rfl ?_
    refine g_aload_n (q := 10) dX7_readsAdvice_9 rfl rfl ?_
    refine gf_X7_28 (q := 13) rfl rfl rfl dX7_readsAdvice_10 rfl ?_
    refine g_iconst (q := 14) (v := nI 1) dX7_readsAdvice_13 rfl (by decide) ?_
    refine g_ialdn (q := 15) rfl (by repeat' first | apply nI_a | apply nI_m | exact rfl) (by omega) dX7_readsAdvice_14 rfl ?_
    rw [hM.na]
    refine g_iconst (q := 16) (v := nI 5) dX7_readsAdvice_15 rfl (by decide) ?_
    refine g_icmp_ge (tgt := 23) (q := 19) dX7_readsAdvice_16 (by decide) rfl (fun _ => ?_) (fun c16 => absurd (nI_le (Nat.not_lt.mp hn) (by omega)) c16)
    refine g_iconst (q := 24) (v := nI 0) dX7_readsAdvice_23 rfl (by decide) ?_
    refine g_iconst (q := 25) (v := nI 3) dX7_readsAdvice_24 rfl (by decide) ?_
    refine k_X7_120 (q := 28) rfl (Nat.le_of_ble_eq_true rfl) rfl dX7_readsAdvice_25 rfl (c_takes0 hR (by decide) (by decide) (fun J1 f1 R1 => ?_))
    have M1 := hM.x f1
    have ea : a0S t (vna v) s = tkS t false 3 s := by unfold a0S; rw [decide_eq_false hn]
    rw [← ea] at R1
    refine g_pop (q := 29) dX7_readsAdvice_28 rfl rfl ?_
    refine g_bipush (q := 31) (v := nI 62) dX7_readsAdvice_29 rfl (by decide) ?_
    refine g_bipush (q := 33) (v := nI 6) dX7_readsAdvice_31 rfl (by decide) ?_
    refine g_aload_n (q := 34) dX7_readsAdvice_33 rfl rfl ?_
    refine gf_X7_28 (q := 37) rfl rfl rfl dX7_readsAdvice_34 rfl ?_
    refine g_iconst (q := 38) (v := nI 1) dX7_readsAdvice_37 rfl (by decide) ?_
    refine g_ialdn (q := 39) rfl (by repeat' first | apply nI_a | apply nI_m | exact rfl) (by omega) dX7_readsAdvice_38 rfl ?_
    rw [M1.na]
    refine g_iconst (q := 40) (v := nI 5) dX7_readsAdvice_39 rfl (by decide) ?_
    refine g_icmp_ge (tgt := 52) (q := 43) dX7_readsAdvice_40 (by decide) rfl (fun _ => ?_) (fun c40 => absurd (nI_le (Nat.not_lt.mp hn) (by omega)) c40)
    refine g_iconst (q := 53) (v := nI 0) dX7_readsAdvice_52 rfl (by decide) ?_
    refine g_imul (q := 54) dX7_readsAdvice_53 rfl ?_
    refine g_iadd (q := 55) dX7_readsAdvice_54 rfl ?_
    refine g_istore_n (q := 56) dX7_readsAdvice_55 rfl (by decide) rfl rfl ?_
    refine g_aload_n (q := 57) dX7_readsAdvice_56 rfl rfl ?_
    refine g_iconst (q := 58) (v := nI 1) dX7_readsAdvice_57 rfl (by decide) ?_
    refine g_bipush (q := 60) (v := nI 99) dX7_readsAdvice_58 rfl (by decide) ?_
    refine k_X7_124 (q := 63) rfl (Nat.le_of_ble_eq_true rfl) rfl dX7_readsAdvice_60 rfl (c_X7_figure R1 (by decide) (by decide) (fun J2 y0 f2 R2 e0 => ?_))
    have R2 : RX J2 t (a1S t (vna v) s) f0 := R2
    have e0 : (a1S t (vna v) s).1 = 0 → y0 = nI (tkV t (a0S t (vna v) s).2) := e0
    refine g_istore_n (q := 64) dX7_readsAdvice_63 rfl (by decide) rfl rfl ?_
    refine g_aload_n (q := 65) dX7_readsAdvice_64 rfl rfl ?_
    refine g_iconst (q := 66) (v := nI 0) dX7_readsAdvice_65 rfl (by decide) ?_
    refine g_iconst (q := 67) (v := nI 4) dX7_readsAdvice_66 rfl (by decide) ?_
    refine k_X7_133 (q := 70) rfl (Nat.le_of_ble_eq_true rfl) rfl dX7_readsAdvice_67 rfl (c_X7_behind R2 (by decide) (by decide) (fun J3 y1 f3 R3 e1 => ?_))
    have R3 : RX J3 t (a2S t (vna v) s) f0 := R3
    have e1 : (a2S t (vna v) s).1 = 0 → y1 = nI (tkV t (bhS t (a1S t (vna v) s)).2) := e1
    refine g_istore (q := 72) dX7_readsAdvice_70 rfl (by decide) rfl rfl ?_
    refine g_aload_n (q := 73) dX7_readsAdvice_72 rfl rfl ?_
    refine g_iconst (q := 74) (v := nI 0) dX7_readsAdvice_73 rfl (by decide) ?_
    refine g_bipush (q := 76) (v := nI 6) dX7_readsAdvice_74 rfl (by decide) ?_
    refine k_X7_133 (q := 79) rfl (Nat.le_of_ble_eq_true rfl) rfl dX7_readsAdvice_76 rfl (c_X7_behind R3 (by decide) (by decide) (fun J4 y2 f4 R4 e2 => ?_))
    have R4 : RX J4 t (a3S t (vna v) s) f0 := R4
    have e2 : (a3S t (vna v) s).1 = 0 → y2 = nI (tkV t (bhS t (a2S t (vna v) s)).2) := e2
    refine g_istore (q := 81) dX7_readsAdvice_79 rfl (by decide) rfl rfl ?_
    refine g_aload_n (q := 82) dX7_readsAdvice_81 rfl rfl ?_
    refine g_iconst (q := 83) (v := nI 0) dX7_readsAdvice_82 rfl (by decide) ?_
    refine g_bipush (q := 85) (v := nI 10) dX7_readsAdvice_83 rfl (by decide) ?_
    refine k_X7_133 (q := 88) rfl (Nat.le_of_ble_eq_true rfl) rfl dX7_readsAdvice_85 rfl (c_X7_behind R4 (by decide) (by decide) (fun J5 y3 f5 R5 e3 => ?_))
    have R5 : RX J5 t (a4S t (vna v) s) f0 := R5
    have e3 : (a4S t (vna v) s).1 = 0 → y3 = nI (tkV t (bhS t (a3S t (vna v) s)).2) := e3
    refine g_istore (q := 90) dX7_readsAdvice_88 rfl (by decide) rfl rfl ?_
    refine g_aload_n (q := 91) dX7_readsAdvice_90 rfl rfl ?_
    refine g_iconst (q := 92) (v := nI 0) dX7_readsAdvice_91 rfl (by decide) ?_
    refine g_bipush (q := 94) (v := nI 6) dX7_readsAdvice_92 rfl (by decide) ?_
    refine k_X7_133 (q := 97) rfl (Nat.le_of_ble_eq_true rfl) rfl dX7_readsAdvice_94 rfl (c_X7_behind R5 (by decide) (by decide) (fun J6 y4 f6 R6 e4 => ?_))
    have R6 : RX J6 t (a5S t (vna v) s) f0 := R6
    have e4 : (a5S t (vna v) s).1 = 0 → y4 = nI (tkV t (bhS t (a4S t (vna v) s)).2) := e4
    obtain ⟨b1, b2, b3, b4, b5, b6, b7⟩ := id R6
    refine g_istore (q := 99) dX7_readsAdvice_97 rfl (by decide) rfl rfl ?_
    refine g_aload_n (q := 100) dX7_readsAdvice_99 rfl rfl ?_
    refine g_aload_n (q := 101) dX7_readsAdvice_100 rfl rfl ?_
    refine gf_X7_104 (q := 104) rfl rfl dX7_readsAdvice_101 rfl ?_
    refine g_iconst (q := 105) (v := nI 4) dX7_readsAdvice_104 rfl (by decide) ?_
    refine g_icmp_ne (tgt := 112) (q := 108) dX7_readsAdvice_105 (by decide) rfl (fun c105 => ?_) (fun c105 => ?_)
    · refine g_iconst (q := 113) (v := nI 0) dX7_readsAdvice_112 rfl (by decide) ?_
      refine g_iconst (q := 114) (v := nI 1) dX7_readsAdvice_113 rfl (by decide) ?_
      refine k_X7_120 (q := 117) rfl (Nat.le_of_ble_eq_true rfl) rfl dX7_readsAdvice_114 rfl (c_takes0 R6 (by decide) (by decide) (fun J7 f7 g7 => ?_))
      have gS : RX J7 t (a6S t (vna v) s) f0 := by
        unfold a6S
        by_cases hz : (a5S t (vna v) s).1 = 0
        · have hc : chr t (a5S t (vna v) s).2 59 = false := by
            cases hb : chr t (a5S t (vna v) s).2 59 with
            | false => rfl
            | true => exact absurd (by rw [show J6 52 11 = nI (tkK t (a5S t (vna v) s).2) from (b7 hz).2.2.1, tkK_4.mpr hb]) c105
          rw [hc]; exact g7
        · rw [tkS_n hz] at g7 ⊢; exact g7
      refine g_pop (q := 118) dX7_readsAdvice_117 rfl rfl ?_
      refine g_aload_n (q := 119) dX7_readsAdvice_118 rfl rfl ?_
      refine k_X7_110 (q := 122) rfl (Nat.le_of_ble_eq_true rfl) rfl dX7_readsAdvice_119 rfl (c_X7_isWell gS (fun z119 => ?_) (fun z119 => ?_))
      · have z5 : (a5S t (vna v) s).1 = 0 := (tkS_0 (by decide) z119).1
        have z4 : (a4S t (vna v) s).1 = 0 := (tkS_0 (by decide) (nmS_0 z5).1).1
        have z3 : (a3S t (vna v) s).1 = 0 := (tkS_0 (by decide) (nmS_0 z4).1).1
        have z2 : (a2S t (vna v) s).1 = 0 := (tkS_0 (by decide) (nmS_0 z3).1).1
        have z1 : (a1S t (vna v) s).1 = 0 := (tkS_0 (by decide) (nmS_0 z2).1).1
        exact absurd (of_decide_eq_true (tkS_0 (by decide) (nmS_0 z1).1).2) hn
      · have M7 := (((((M1.x f2).x f3).x f4).x f5).x f6).x f7
        have p7 : FrD I J7 := (((((f1.d.tr f2.d).tr f3.d).tr f4.d).tr f5.d).tr f6.d).tr f7.d
        refine g_if_eq (tgt := 191) (q := 125) dX7_readsAdvice_122 (by decide) rfl (fun _ => ?_) (fun c122 => absurd c122 (by decide))
        refine g_vret rfl dX7_readsAdvice_191 (Nat.le_refl _) (Nat.le_refl _) ?_
        refine h J7 p7 gS ?_
        unfold avS
        rw [if_neg z119]
        exact M7
    · refine g_iconst (q := 109) (v := nI 1) dX7_readsAdvice_108 rfl (by decide) ?_
      refine g_goto (q := 113) dX7_readsAdvice_109 (by decide) ?_
      refine g_iconst (q := 114) (v := nI 1) dX7_readsAdvice_113 rfl (by decide) ?_
      refine k_X7_120 (q := 117) rfl (Nat.le_of_ble_eq_true rfl) rfl dX7_readsAdvice_114 rfl (c_takes1 R6 (fun J7 r0 f7 g7 _ => ?_))
      have gS : RX J7 t (a6S t (vna v) s) f0 := by
        unfold a6S
        by_cases hz : (a5S t (vna v) s).1 = 0
        · have hc : chr t (a5S t (vna v) s).2 59 = true := tkK_4.mp ((nI_eq (by have := tkK_lt t (a5S t (vna v) s).2; omega) (by decide)).mp ((b7 hz).2.2.1.symm.trans c105))
          rw [hc]; exact g7
        · rw [tkS_n hz] at g7 ⊢; exact g7
      refine g_pop (q := 118) dX7_readsAdvice_117 rfl rfl ?_
      refine g_aload_n (q := 119) dX7_readsAdvice_118 rfl rfl ?_
      refine k_X7_110 (q := 122) rfl (Nat.le_of_ble_eq_true rfl) rfl dX7_readsAdvice_119 rfl (c_X7_isWell gS (fun z119 => ?_) (fun z119 => ?_))
      · have z5 : (a5S t (vna v) s).1 = 0 := (tkS_0 (by decide) z119).1
        have z4 : (a4S t (vna v) s).1 = 0 := (tkS_0 (by decide) (nmS_0 z5).1).1
        have z3 : (a3S t (vna v) s).1 = 0 := (tkS_0 (by decide) (nmS_0 z4).1).1
        have z2 : (a2S t (vna v) s).1 = 0 := (tkS_0 (by decide) (nmS_0 z3).1).1
        have z1 : (a1S t (vna v) s).1 = 0 := (tkS_0 (by decide) (nmS_0 z2).1).1
        exact absurd (of_decide_eq_true (tkS_0 (by decide) (nmS_0 z1).1).2) hn
      · have M7 := (((((M1.x f2).x f3).x f4).x f5).x f6).x f7
        have p7 : FrD I J7 := (((((f1.d.tr f2.d).tr f3.d).tr f4.d).tr f5.d).tr f6.d).tr f7.d
        refine g_if_eq (tgt := 191) (q := 125) dX7_readsAdvice_122 (by decide) rfl (fun _ => ?_) (fun c122 => absurd c122 (by decide))
        refine g_vret rfl dX7_readsAdvice_191 (Nat.le_refl _) (Nat.le_refl _) ?_
        refine h J7 p7 gS ?_
        unfold avS
        rw [if_neg z119]
        exact M7
def b2 (b : Bool) : Nat := if b = true then 1 else 0
def okU (v : Vv) (m i : Nat) : Bool := !(vso v m i == 1) || decide (vop v m i < vnm v)
def rowU (v : Vv) (m n : Nat) : Bool := (List.range n).all (okU v m)
def allU (v : Vv) (m : Nat) : Bool := (List.range m).all (fun m => rowU v m (vln v m))
theorem all_s {f : Nat → Bool} {n : Nat} : (List.range (n + 1)).all f = ((List.range n).all f && f n) := by simp [List.range_succ]
theorem thB_all {v : Vv} : thB v = allU v (vnm v) := rfl

set_option maxRecDepth 100000 in
set_option maxHeartbeats 1600000 in
theorem l_at1 {d k : Nat} {I : Nat → Nat → Int32} {Q : Option Int32 → Wd → Prop} {v : Vv} {m : Nat} (hM : MRep I 59 0 v) (hv : VOk0 v) (hm : m < vnm v) (hex : ∀ u, G mX7_areThere (rmd d 0 0) (Zm Q 68 68 0 0) 68 83 [.ref 59, .int (nI (b2 (allU v (m + 1)))), .int (nI m), u] [] 68 (I, RR k) 0 0) : ∀ (n i : Nat), i + n = vln v m → G mX7_areThere (rmd d 0 0) (Zm Q 68 68 0 0) 68 13 [.ref 59, .int (nI (b2 (allU v m && rowU v m i))), .int (nI m), .int (nI i)] [] 68 (I, RR k) 0 0 := by
  have hm6 : m < 6 := Nat.lt_of_lt_of_le hm hv.1
  have hl4 := (hv.2.2.1 m hm).2.1
  have hn6 := hv.1
  intro n
  induction n with
  | zero =>
    intro i hi
    have hi : i = vln v m := by omega
    subst hi
    have e : allU v (m + 1) = (allU v m && rowU v m (vln v m)) := all_s
    rw [← e]
    refine g_iload_n (q := 14) dX7_areThere_13 rfl rfl ?_
    refine g_aload_n (q := 15) dX7_areThere_14 rfl rfl ?_
    refine g_iconst (q := 16) (v := nI 2) dX7_areThere_15 rfl (by decide) ?_
    refine g_bipush (q := 18) (v := nI 10) dX7_areThere_16 rfl (by decide) ?_
    refine g_iload_n (q := 19) dX7_areThere_18 rfl rfl ?_
    refine g_imul (q := 20) dX7_areThere_19 rfl ?_
    refine g_iadd (q := 21) dX7_areThere_20 rfl ?_
    refine g_iconst (q := 22) (v := nI 1) dX7_areThere_21 rfl (by decide) ?_
    refine g_iadd (q := 23) dX7_areThere_22 rfl ?_
    refine g_ialdn (q := 24) (by first | assumption | rfl) (by repeat' first | apply nI_a | apply nI_m | exact rfl) (by omega) dX7_areThere_23 rfl ?_
    rw [hM.ln hm]
    refine g_icmp_ge (tgt := 83) (q := 27) dX7_areThere_24 (by decide) rfl (fun _ => ?_) (fun c24 => absurd (nI_le (Nat.le_refl _) (by omega)) c24)
    exact hex _
  | succ n ih =>
    intro i hi
    have hil : i < vln v m := by omega
    have hok := (hv.2.2.1 m hm).2.2 i hil
    have e : ∀ b, (allU v m && rowU v m (i + 1)) = b ↔ ((allU v m && rowU v m i) && okU v m i) = b := fun b => by rw [show rowU v m (i + 1) = (rowU v m i && okU v m i) from all_s, Bool.and_assoc]
    have hin := ih (i + 1) (by omega)
    cases hA : (allU v m && rowU v m i) with
    | false =>
      rw [(e false).mpr (by rw [hA]; rfl)] at hin
      refine g_iload_n (q := 14) dX7_areThere_13 rfl rfl ?_
      refine g_aload_n (q := 15) dX7_areThere_14 rfl rfl ?_
      refine g_iconst (q := 16) (v := nI 2) dX7_areThere_15 rfl (by decide) ?_
      refine g_bipush (q := 18) (v := nI 10) dX7_areThere_16 rfl (by decide) ?_
      refine g_iload_n (q := 19) dX7_areThere_18 rfl rfl ?_
      refine g_imul (q := 20) dX7_areThere_19 rfl ?_
      refine g_iadd (q := 21) dX7_areThere_20 rfl ?_
      refine g_iconst (q := 22) (v := nI 1) dX7_areThere_21 rfl (by decide) ?_
      refine g_iadd (q := 23) dX7_areThere_22 rfl ?_
      refine g_ialdn (q := 24) (by first | assumption | rfl) (by repeat' first | apply nI_a | apply nI_m | exact rfl) (by omega) dX7_areThere_23 rfl ?_
      rw [hM.ln hm]
      refine g_icmp_ge (tgt := 83) (q := 27) dX7_areThere_24 (by decide) rfl (fun c24 => absurd c24 (nI_ge (by omega) (by omega))) (fun _ => ?_)
      refine g_iload_n (q := 28) dX7_areThere_27 rfl rfl ?_
      refine g_if_eq (tgt := 75) (q := 31) dX7_areThere_28 (by decide) rfl (fun _ => ?_) (fun c28 => absurd c28 (by decide))
      refine g_iconst (q := 76) (v := nI 0) dX7_areThere_75 rfl (by decide) ?_
      refine g_istore_n (q := 77) dX7_areThere_76 rfl (by decide) rfl rfl ?_
      refine g_iincn (q := 80) dX7_areThere_77 rfl rfl (by decide) rfl rfl ?_
      refine g_goto (q := 13) dX7_areThere_80 (by decide) ?_
      exact hin
    | true =>
      refine g_iload_n (q := 14) dX7_areThere_13 rfl rfl ?_
      refine g_aload_n (q := 15) dX7_areThere_14 rfl rfl ?_
      refine g_iconst (q := 16) (v := nI 2) dX7_areThere_15 rfl (by decide) ?_
      refine g_bipush (q := 18) (v := nI 10) dX7_areThere_16 rfl (by decide) ?_
      refine g_iload_n (q := 19) dX7_areThere_18 rfl rfl ?_
      refine g_imul (q := 20) dX7_areThere_19 rfl ?_
      refine g_iadd (q := 21) dX7_areThere_20 rfl ?_
      refine g_iconst (q := 22) (v := nI 1) dX7_areThere_21 rfl (by decide) ?_
      refine g_iadd (q := 23) dX7_areThere_22 rfl ?_
      refine g_ialdn (q := 24) (by first | assumption | rfl) (by repeat' first | apply nI_a | apply nI_m | exact rfl) (by omega) dX7_areThere_23 rfl ?_
      rw [hM.ln hm]
      refine g_icmp_ge (tgt := 83) (q := 27) dX7_areThere_24 (by decide) rfl (fun c24 => absurd c24 (nI_ge (by omega) (by omega))) (fun _ => ?_)
      refine g_iload_n (q := 28) dX7_areThere_27 rfl rfl ?_
      refine g_if_eq (tgt := 75) (q := 31) dX7_areThere_28 (by decide) rfl (fun c28 => absurd c28 (by decide)) (fun _ => ?_)
      refine g_aload_n (q := 32) dX7_areThere_31 rfl rfl ?_
      refine g_iconst (q := 33) (v := nI 2) dX7_areThere_32 rfl (by decide) ?_
      refine g_bipush (q := 35) (v := nI 10) dX7_areThere_33 rfl (by decide) ?_
      refine g_iload_n (q := 36) dX7_areThere_35 rfl rfl ?_
      refine g_imul (q := 37) dX7_areThere_36 rfl ?_
      refine g_iadd (q := 38) dX7_areThere_37 rfl ?_
      refine g_iconst (q := 39) (v := nI 2) dX7_areThere_38 rfl (by decide) ?_
      refine g_iadd (q := 40) dX7_areThere_39 rfl ?_
      refine g_iconst (q := 41) (v := nI 2) dX7_areThere_40 rfl (by decide) ?_
      refine g_iload_n (q := 42) dX7_areThere_41 rfl rfl ?_
      refine g_imul (q := 43) dX7_areThere_42 rfl ?_
      refine g_iadd (q := 44) dX7_areThere_43 rfl ?_
      refine g_ialdn (q := 45) (by first | assumption | rfl) (by repeat' first | apply nI_a | apply nI_m | exact rfl) (by omega) dX7_areThere_44 rfl ?_
      rw [hM.so hm hil]
      refine g_iconst (q := 46) (v := nI 1) dX7_areThere_45 rfl (by decide) ?_
      refine g_icmp_ne (tgt := 71) (q := 49) dX7_areThere_46 (by decide) rfl (fun c46 => ?_) (fun c46 => ?_)
      · refine g_iconst (q := 72) (v := nI 1) dX7_areThere_71 rfl (by decide) ?_
        refine g_goto (q := 76) dX7_areThere_72 (by decide) ?_
        refine g_istore_n (q := 77) dX7_areThere_76 rfl (by decide) rfl rfl ?_
        refine g_iincn (q := 80) dX7_areThere_77 rfl rfl (by decide) rfl rfl ?_
        refine g_goto (q := 13) dX7_areThere_80 (by decide) ?_
        rw [(e true).mpr (by rw [hA]; unfold okU; simp; exact Or.inl (fun z => c46 (by rw [z])))] at hin
        exact hin
      · refine g_aload_n (q := 50) dX7_areThere_49 rfl rfl ?_
        refine g_iconst (q := 51) (v := nI 2) dX7_areThere_50 rfl (by decide) ?_
        refine g_bipush (q := 53) (v := nI 10) dX7_areThere_51 rfl (by decide) ?_
        refine g_iload_n (q := 54) dX7_areThere_53 rfl rfl ?_
        refine g_imul (q := 55) dX7_areThere_54 rfl ?_
        refine g_iadd (q := 56) dX7_areThere_55 rfl ?_
        refine g_iconst (q := 57) (v := nI 2) dX7_areThere_56 rfl (by decide) ?_
        refine g_iadd (q := 58) dX7_areThere_57 rfl ?_
        refine g_iconst (q := 59) (v := nI 2) dX7_areThere_58 rfl (by decide) ?_
        refine g_iload_n (q := 60) dX7_areThere_59 rfl rfl ?_
        refine g_imul (q := 61) dX7_areThere_60 rfl ?_
        refine g_iadd (q := 62) dX7_areThere_61 rfl ?_
        refine g_iconst (q := 63) (v := nI 1) dX7_areThere_62 rfl (by decide) ?_
        refine g_iadd (q := 64) dX7_areThere_63 rfl ?_
        refine g_ialdn (q := 65) (by first | assumption | rfl) (by repeat' first | apply nI_a | apply nI_m | exact rfl) (by omega) dX7_areThere_64 rfl ?_
        rw [hM.op hm hil]
        refine g_aload_n (q := 66) dX7_areThere_65 rfl rfl ?_
        refine g_iconst (q := 67) (v := nI 0) dX7_areThere_66 rfl (by decide) ?_
        refine g_ialdn (q := 68) (by first | assumption | rfl) (by repeat' first | apply nI_a | apply nI_m | exact rfl) (by omega) dX7_areThere_67 rfl ?_
        rw [hM.nm]
        refine g_icmp_ge (tgt := 75) (q := 71) dX7_areThere_68 (by decide) rfl (fun c68 => ?_) (fun c68 => ?_)
        · refine g_iconst (q := 76) (v := nI 0) dX7_areThere_75 rfl (by decide) ?_
          refine g_istore_n (q := 77) dX7_areThere_76 rfl (by decide) rfl rfl ?_
          refine g_iincn (q := 80) dX7_areThere_77 rfl rfl (by decide) rfl rfl ?_
          refine g_goto (q := 13) dX7_areThere_80 (by decide) ?_
          rw [(e false).mpr (by rw [hA]; unfold okU; simp; exact ⟨(nI_eq (by omega) (by omega)).mp c46, (nI_leI (by omega) (by omega)).mp c68⟩)] at hin
          exact hin
        · refine g_iconst (q := 72) (v := nI 1) dX7_areThere_71 rfl (by decide) ?_
          refine g_goto (q := 76) dX7_areThere_72 (by decide) ?_
          refine g_istore_n (q := 77) dX7_areThere_76 rfl (by decide) rfl rfl ?_
          refine g_iincn (q := 80) dX7_areThere_77 rfl rfl (by decide) rfl rfl ?_
          refine g_goto (q := 13) dX7_areThere_80 (by decide) ?_
          rw [(e true).mpr (by rw [hA]; unfold okU; simp; exact Or.inr (by have : ¬ vnm v ≤ vop v m i := fun z => c68 (nI_le z (by omega)); omega))] at hin
          exact hin
set_option maxRecDepth 100000 in
set_option maxHeartbeats 1600000 in
theorem l_at0 {d k : Nat} {I : Nat → Nat → Int32} {Q : Option Int32 → Wd → Prop} {v : Vv} (hM : MRep I 59 0 v) (hv : VOk0 v) (h : Q (some (nI (b2 (thB v)))) (I, RR k)) : ∀ (n m : Nat) (u : Value), m + n = vnm v → G mX7_areThere (rmd d 0 0) (Zm Q 68 68 0 0) 68 4 [.ref 59, .int (nI (b2 (allU v m))), .int (nI m), u] [] 68 (I, RR k) 0 0 := by
  have hn6 := hv.1
  intro n
  induction n with
  | zero =>
    intro m u hm
    have hm : m = vnm v := by omega
    subst hm
    rw [← thB_all]
    refine g_iload_n (q := 5) dX7_areThere_4 rfl rfl ?_
    refine g_aload_n (q := 6) dX7_areThere_5 rfl rfl ?_
    refine g_iconst (q := 7) (v := nI 0) dX7_areThere_6 rfl (by decide) ?_
    refine g_ialdn (q := 8) (by first | assumption | rfl) (by repeat' first | apply nI_a | apply nI_m | exact rfl) (by omega) dX7_areThere_7 rfl ?_
    rw [hM.nm]
    refine g_icmp_ge (tgt := 89) (q := 11) dX7_areThere_8 (by decide) rfl (fun _ => ?_) (fun c8 => absurd (nI_le (Nat.le_refl _) (by omega)) c8)
    refine g_iload_n (q := 90) dX7_areThere_89 rfl rfl ?_
    cases hb : thB v with
    | false => rw [hb] at h; exact g_zret rfl (by decide) dX7_areThere_90 (Nat.le_refl _) (Nat.le_refl _) h
    | true => rw [hb] at h; exact g_zret rfl (by decide) dX7_areThere_90 (Nat.le_refl _) (Nat.le_refl _) h
  | succ n ih =>
    intro m u hm
    have hml : m < vnm v := by omega
    refine g_iload_n (q := 5) dX7_areThere_4 rfl rfl ?_
    refine g_aload_n (q := 6) dX7_areThere_5 rfl rfl ?_
    refine g_iconst (q := 7) (v := nI 0) dX7_areThere_6 rfl (by decide) ?_
    refine g_ialdn (q := 8) (by first | assumption | rfl) (by repeat' first | apply nI_a | apply nI_m | exact rfl) (by omega) dX7_areThere_7 rfl ?_
    rw [hM.nm]
    refine g_icmp_ge (tgt := 89) (q := 11) dX7_areThere_8 (by decide) rfl (fun c8 => absurd c8 (nI_ge hml (by omega))) (fun _ => ?_)
    refine g_iconst (q := 12) (v := nI 0) dX7_areThere_11 rfl (by decide) ?_
    refine g_istore_n (q := 13) dX7_areThere_12 rfl (by decide) rfl rfl ?_
    have hg := l_at1 (Q := Q) (d := d) (k := k) hM hv hml (fun u => ?_) (vln v m) 0 (Nat.zero_add _)
    · rw [show rowU v m 0 = true from rfl, Bool.and_true] at hg
      exact hg
    refine g_iincn (q := 86) dX7_areThere_83 rfl rfl (by decide) rfl rfl ?_
    refine g_goto (q := 4) dX7_areThere_86 (by decide) ?_
    exact ih (m + 1) _ (by omega)
set_option maxRecDepth 100000 in
set_option maxHeartbeats 1600000 in
theorem c_X7_areThere {d k : Nat} {I : Nat → Nat → Int32} {Q : Option Int32 → Wd → Prop} {v : Vv} (hM : MRep I 59 0 v) (hv : VOk0 v) (h1 : thB v = true → Q (some (nI 1)) (I, RR k)) (h0 : thB v = false → Q (some (nI 0)) (I, RR k)) : Ex d 0 0 mX7_areThere [.ref 59] 68 (I, RR k) 68 Q := by
  refine ex_intro (L0 := [.ref 59, .null, .null, .null]) (by decide +kernel) rfl rfl (Nat.le_of_ble_eq_true rfl) rfl ?_
  refine g_iconst (q := 1) (v := nI 1) dX7_areThere_0 rfl (by decide) ?_
  refine g_istore_n (q := 2) dX7_areThere_1 rfl (by decide) rfl rfl ?_
  refine g_iconst (q := 3) (v := nI 0) dX7_areThere_2 rfl (by decide) ?_
  refine g_istore_n (q := 4) dX7_areThere_3 rfl (by decide) rfl rfl ?_
  refine l_at0 hM hv ?_ (vnm v) 0 _ (Nat.zero_add _)
  cases hb : thB v with
  | false => exact h0 hb
  | true => exact h1 hb
