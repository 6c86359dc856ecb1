set_option maxRecDepth 100000 in
set_option maxHeartbeats 400000 in
theorem c_isWellB {d k : Nat} {I : Nat → Nat → Int32} {Q : Option Int32 → Wd → Prop} {s : Ps} (e : I 52 8 = (if s.1 = 0 then -1 else nI s.2)) (hb : s.2 ≤ 130) (h1 : s.1 = 0 → Q (some (nI 1)) (I, RR k)) (h0 : ¬ s.1 = 0 → Q (some (nI 0)) (I, RR k)) : Ex d 0 0 mX7_isWell [.ref 52] 68 (I, RR k) 68 Q := by
  refine ex_intro (L0 := [.ref 52]) (by decide +kernel) rfl rfl (Nat.le_of_ble_eq_true rfl) rfl ?_
  refine g_aload_n (q := 1) dX7_isWell_0 rfl rfl ?_
  refine gf_X7_107 (q := 4) rfl (by first | assumption | rfl) dX7_isWell_1 rfl ?_
  rw [e]
  refine g_if_ge (tgt := 11) (q := 7) dX7_isWell_4 (by decide) rfl (fun c4 => ?_) (fun c4 => ?_)
  · refine g_iconst (q := 12) (v := nI 0) dX7_isWell_11 rfl (by decide) ?_
    refine g_zret rfl (by decide) dX7_isWell_12 (Nat.le_refl _) (Nat.le_refl _) ?_
    exact h0 (fun z => by rw [if_pos z] at c4; exact absurd c4 (by decide))
  · refine g_iconst (q := 8) (v := nI 1) dX7_isWell_7 rfl (by decide) ?_
    refine g_goto (q := 12) dX7_isWell_8 (by decide) ?_
    refine g_zret rfl (by decide) dX7_isWell_12 (Nat.le_refl _) (Nat.le_refl _) ?_
    exact h1 (Decidable.byContradiction (fun z => by rw [if_neg z] at c4; exact c4 (nI_pos' (by omega))))
theorem RepM.wv0 {I J : Nat → Nat → Int32} {S : Sg} {x : Nat} (h : RepM I S) (hF : FrD I J) (e7 : J 52 7 = nI x) (hx : x < 5) : RepM (uI J 52 6 (nI 0)) (S.1, S.2.1, [], x, S.2.2.2.2) := by
  obtain ⟨h1, h2, h3, h4, h5, h6, h7, h8⟩ := h
  have e : ∀ p, p ≠ 52 → p ≠ 59 → uI J 52 6 (nI 0) p = I p := fun p a b => (uI_ne a).trans (hF.1 p a b)
  have f : ∀ j, j ≠ 6 → (j < 7 ∨ 12 < j) → uI J 52 6 (nI 0) 52 j = I 52 j := fun j a b => (uI_n2 a).trans (hF.2 j b)
  exact ⟨h1.eq (e 53 (by decide) (by decide)) (e 54 (by decide) (by decide)) (e 55 (by decide) (by decide)), ⟨(f 4 (by decide) (by decide)).trans h2.1, h2.2⟩, ⟨uI_eq, Nat.zero_le _, fun j hj => absurd hj (Nat.not_lt_zero _)⟩, ⟨(uI_n2 (by decide)).trans e7, hx⟩, ⟨h5.1.eq (e 58 (by decide) (by decide)), h5.2⟩, h6.eq (f 17 (by decide) (by decide)) (e 61 (by decide) (by decide)), h7.eq (e 62 (by decide) (by decide)) (e 63 (by decide) (by decide)), h8.eq (f 31 (by decide) (by decide)) (e 67 (by decide) (by decide))⟩
theorem FrD.m {I J : Nat → Nat → Int32} (h : FrD I J) : FrM I J := fun p hp => h.1 p (by omega) (by omega)

set_option maxRecDepth 100000 in
set_option maxHeartbeats 400000 in
theorem l_w3 {d k : Nat} {I : Nat → Nat → Int32} {Q : Option Int32 → Wd → Prop} {S : Sg} (hr : RepM I S) (h : ∀ I2, RepM I2 (weaveS S).2 → FrM I I2 → Q (some (weaveS S).1) (I2, RR k)) {W : Nat → Nat → Int32} (hF : FrD I W) (hR : RX W S.2.2.1 (w3S S.2.2.1).1 S.2.2.2.1) (hM : MRep W 59 0 (w3S S.2.2.1).2) : G mX7_weave (rmd (d + 6) 0 0) (Zm Q 68 68 0 0) 68 117 [.ref 52, .int (nI 92)] [] 68 (W, RR k) 0 0 := by
  generalize ht : S.2.2.1 = t at hR hM ⊢
  generalize hf0 : S.2.2.2.1 = f0 at hR ⊢
  have hv3 := w3S_ok t
  obtain ⟨r1, r2, r3, r4, r5, r6, r7⟩ := id hR
  refine g_aload_n (q := 118) dX7_weave_117 rfl rfl ?_
  refine g_aload_n (q := 119) dX7_weave_118 rfl rfl ?_
  refine gf_X7_104 (q := 122) rfl rfl dX7_weave_119 rfl ?_
  refine g_if_ne (tgt := 129) (q := 125) dX7_weave_122 (by decide) rfl (fun c122 => ?_) (fun c122 => ?_)
  · refine g_iconst (q := 130) (v := nI 0) dX7_weave_129 rfl (by decide) ?_
    refine g_iconst (q := 131) (v := nI 1) dX7_weave_130 rfl (by decide) ?_
    refine k_X7_139 (q := 134) rfl (Nat.le_of_ble_eq_true rfl) rfl dX7_weave_131 rfl (c_must0 hR (by decide) (by decide) (fun J4 g1 g2 => ?_))
    have R4 : RX J4 t (w4S t) f0 := by
      have e4 : w4S t = muS false 1 (w3S t).1 := by
        by_cases hz : (w3S t).1.1 = 0
        · have hk : ¬ kdT t (w3S t).1.2 = 0 := fun z => c122 (by rw [(r7 hz).2.2.1, tkK_0.mpr z]; rfl)
          unfold w4S
          rw [decide_eq_false hk]
        · unfold w4S
          rw [muS_n hz, muS_n hz]
      rw [e4]
      exact g2
    have M4 := hM.x g1
    have p4 := hF.tr g1.d
    refine g_aload_n (q := 135) dX7_weave_134 rfl rfl ?_
    refine g_aload_n (q := 136) dX7_weave_135 rfl rfl ?_
    refine gf_X7_28 (q := 139) rfl rfl rfl dX7_weave_136 rfl ?_
    refine k_X7_146 (q := 142) rfl (Nat.le_of_ble_eq_true rfl) dX7_weave_139 rfl (c_X7_areThere M4 hv3 (fun z139 => ?_) (fun z139 => ?_))
    · refine g_iconst (q := 143) (v := nI 4) dX7_weave_142 rfl (by decide) ?_
      refine k_X7_139 (q := 146) rfl (Nat.le_of_ble_eq_true rfl) rfl dX7_weave_143 rfl (c_must1 R4 (fun J5 g3 g4 => ?_))
      have R5 : RX J5 t (w5S t) f0 := by unfold w5S; rw [z139]; exact g4
      have M5 := M4.x g3
      have p5 := p4.tr g3.d
      refine g_aload_n (q := 147) dX7_weave_146 rfl rfl ?_
      refine g_iconst (q := 148) (v := nI 0) dX7_weave_147 rfl (by decide) ?_
      refine pf_X7_88 (q := 151) rfl rfl dX7_weave_148 rfl ?_
      refine g_aload_n (q := 152) dX7_weave_151 rfl rfl ?_
      refine k_X7_110 (q := 155) rfl (Nat.le_of_ble_eq_true rfl) rfl dX7_weave_152 rfl (c_isWellB (s := w5S t) ((uI_n2 (by decide)).trans R5.2.1) (Nat.le_trans R5.2.2.2.2.2.1 R5.1.2.1) (fun z152 => ?_) (fun z152 => ?_))
      · refine g_if_ne (tgt := 166) (q := 158) dX7_weave_155 (by decide) rfl (fun _ => ?_) (fun c155 => absurd c155 (by decide))
        refine g_aload_n (q := 167) dX7_weave_166 rfl rfl ?_
        refine gf_X7_28 (q := 170) rfl rfl rfl dX7_weave_167 rfl ?_
        refine g_iconst (q := 171) (v := nI 0) dX7_weave_170 rfl (by decide) ?_
        refine g_aload_n (q := 172) dX7_weave_171 rfl rfl ?_
        refine gf_X7_25 (q := 175) rfl rfl rfl dX7_weave_172 rfl ?_
        refine g_iconst (q := 176) (v := nI 0) dX7_weave_175 rfl (by decide) ?_
        refine k_X7_151 (q := 179) rfl (Nat.le_of_ble_eq_true rfl) dX7_weave_176 rfl (c_copies rfl rfl (by decide) (by decide) (by decide) ?_)
        refine g_aload_n (q := 180) dX7_weave_179 rfl rfl ?_
        refine g_iconst (q := 181) (v := nI 0) dX7_weave_180 rfl (by decide) ?_
        refine pf_X7_155 (q := 184) rfl rfl dX7_weave_181 rfl ?_
        have hV : VOk (w3S t).2 := hv3.ok (muS_0 (by decide) z152).2
        have M8 : MRep (uI (cpI (uI J5 52 6 (nI 0)) 59 0 58 0 92) 52 17 (nI 0)) 58 0 (w3S t).2 := (M5.eq (J := uI J5 52 6 (nI 0)) (uI_ne (by decide))).of hV (fun j hj => by rw [uI_ne (by decide)]; exact cpI_eq hj)
        refine g_aload_n (q := 185) dX7_weave_184 rfl rfl ?_
        refine gf_X7_25 (q := 188) rfl rfl rfl dX7_weave_185 rfl ?_
        refine g_iconst (q := 189) (v := nI 0) dX7_weave_188 rfl (by decide) ?_
        refine g_ialdn (q := 190) rfl (by repeat' first | apply nI_a | apply nI_m | exact rfl) (by omega) dX7_weave_189 rfl ?_
        rw [M8.nm]
        refine g_iret rfl dX7_weave_190 (Nat.le_refl _) (Nat.le_refl _) ?_
        have e7 : J5 52 7 = nI S.2.2.2.1 := by rw [R5.2.2.1, if_pos z152, hf0]
        rw [weaveS, ht, if_pos z152] at h
        have q0 := hr.wv0 p5 e7 (by rw [hf0]; exact r5)
        exact h _ (q0.now ⟨M8, hV⟩ ⟨uI_eq, Nat.zero_le _, rfl⟩ (fun p a b => (uI_ne a).trans (cpI_ne b)) (fun j a => (uI_n2 a).trans (by rw [cpI_ne (by decide)]))) (((p5.m.tr (FrM.ui (by decide))).tr (fun p hp => cpI_ne (by omega))).tr (FrM.ui (by decide)))
      · refine g_if_ne (tgt := 166) (q := 158) dX7_weave_155 (by decide) rfl (fun c155 => absurd c155 (by decide)) (fun _ => ?_)
        refine lc_X7_150 (q := 160) rfl dX7_weave_158 rfl ?_
        refine g_aload_n (q := 161) dX7_weave_160 rfl rfl ?_
        refine gf_X7_107 (q := 164) rfl rfl dX7_weave_161 rfl ?_
        refine g_isub (q := 165) dX7_weave_164 rfl ?_
        refine g_iret rfl dX7_weave_165 (Nat.le_refl _) (Nat.le_refl _) ?_
        have e7 : J5 52 7 = nI (w5S t).1 := by rw [R5.2.2.1, if_neg z152]
        rw [weaveS, ht, if_neg z152] at h
        rw [uI_n2 (by decide), R5.2.1, if_neg z152]
        exact h _ (hr.wv0 p5 e7 R5.2.2.2.1) (p5.m.tr (FrM.ui (by decide)))
    · refine g_iconst (q := 143) (v := nI 4) dX7_weave_142 rfl (by decide) ?_
      refine k_X7_139 (q := 146) rfl (Nat.le_of_ble_eq_true rfl) rfl dX7_weave_143 rfl (c_must0 R4 (by decide) (by decide) (fun J5 g3 g4 => ?_))
      have R5 : RX J5 t (w5S t) f0 := by unfold w5S; rw [z139]; exact g4
      have M5 := M4.x g3
      have p5 := p4.tr g3.d
      refine g_aload_n (q := 147) dX7_weave_146 rfl rfl ?_
      refine g_iconst (q := 148) (v := nI 0) dX7_weave_147 rfl (by decide) ?_
      refine pf_X7_88 (q := 151) rfl rfl dX7_weave_148 rfl ?_
      refine g_aload_n (q := 152) dX7_weave_151 rfl rfl ?_
      refine k_X7_110 (q := 155) rfl (Nat.le_of_ble_eq_true rfl) rfl dX7_weave_152 rfl (c_isWellB (s := w5S t) ((uI_n2 (by decide)).trans R5.2.1) (Nat.le_trans R5.2.2.2.2.2.1 R5.1.2.1) (fun z152 => ?_) (fun z152 => ?_))
      · refine g_if_ne (tgt := 166) (q := 158) dX7_weave_155 (by decide) rfl (fun _ => ?_) (fun c155 => absurd c155 (by decide))
        refine g_aload_n (q := 167) dX7_weave_166 rfl rfl ?_
        refine gf_X7_28 (q := 170) rfl rfl rfl dX7_weave_167 rfl ?_
        refine g_iconst (q := 171) (v := nI 0) dX7_weave_170 rfl (by decide) ?_
        refine g_aload_n (q := 172) dX7_weave_171 rfl rfl ?_
        refine gf_X7_25 (q := 175) rfl rfl rfl dX7_weave_172 rfl ?_
        refine g_iconst (q := 176) (v := nI 0) dX7_weave_175 rfl (by decide) ?_
        refine k_X7_151 (q := 179) rfl (Nat.le_of_ble_eq_true rfl) dX7_weave_176 rfl (c_copies rfl rfl (by decide) (by decide) (by decide) ?_)
        refine g_aload_n (q := 180) dX7_weave_179 rfl rfl ?_
        refine g_iconst (q := 181) (v := nI 0) dX7_weave_180 rfl (by decide) ?_
        refine pf_X7_155 (q := 184) rfl rfl dX7_weave_181 rfl ?_
        have hV : VOk (w3S t).2 := hv3.ok (muS_0 (by decide) z152).2
        have M8 : MRep (uI (cpI (uI J5 52 6 (nI 0)) 59 0 58 0 92) 52 17 (nI 0)) 58 0 (w3S t).2 := (M5.eq (J := uI J5 52 6 (nI 0)) (uI_ne (by decide))).of hV (fun j hj => by rw [uI_ne (by decide)]; exact cpI_eq hj)
        refine g_aload_n (q := 185) dX7_weave_184 rfl rfl ?_
        refine gf_X7_25 (q := 188) rfl rfl rfl dX7_weave_185 rfl ?_
        refine g_iconst (q := 189) (v := nI 0) dX7_weave_188 rfl (by decide) ?_
        refine g_ialdn (q := 190) rfl (by repeat' first | apply nI_a | apply nI_m | exact rfl) (by omega) dX7_weave_189 rfl ?_
        rw [M8.nm]
        refine g_iret rfl dX7_weave_190 (Nat.le_refl _) (Nat.le_refl _) ?_
        exact absurd (muS_0 (by decide) z152).2 (by rw [z139]; decide)
      · refine g_if_ne (tgt := 166) (q := 158) dX7_weave_155 (by decide) rfl (fun c155 => absurd c155 (by decide)) (fun _ => ?_)
        refine lc_X7_150 (q := 160) rfl dX7_weave_158 rfl ?_
        refine g_aload_n (q := 161) dX7_weave_160 rfl rfl ?_
        refine gf_X7_107 (q := 164) rfl rfl dX7_weave_161 rfl ?_
        refine g_isub (q := 165) dX7_weave_164 rfl ?_
        refine g_iret rfl dX7_weave_165 (Nat.le_refl _) (Nat.le_refl _) ?_
        have e7 : J5 52 7 = nI (w5S t).1 := by rw [R5.2.2.1, if_neg z152]
        rw [weaveS, ht, if_neg z152] at h
        rw [uI_n2 (by decide), R5.2.1, if_neg z152]
        exact h _ (hr.wv0 p5 e7 R5.2.2.2.1) (p5.m.tr (FrM.ui (by decide)))
  · refine g_iconst (q := 126) (v := nI 1) dX7_weave_125 rfl (by decide) ?_
    refine g_goto (q := 130) dX7_weave_126 (by decide) ?_
    refine g_iconst (q := 131) (v := nI 1) dX7_weave_130 rfl (by decide) ?_
    refine k_X7_139 (q := 134) rfl (Nat.le_of_ble_eq_true rfl) rfl dX7_weave_131 rfl (c_must1 hR (fun J4 g1 g2 => ?_))
    have R4 : RX J4 t (w4S t) f0 := by
      have e4 : w4S t = muS true 1 (w3S t).1 := by
        by_cases hz : (w3S t).1.1 = 0
        · have hk : kdT t (w3S t).1.2 = 0 := tkK_0.mp ((nI_eq (b := 0) (by have := tkK_lt t (w3S t).1.2; omega) (by decide)).mp ((r7 hz).2.2.1.symm.trans c122))
          unfold w4S
          rw [decide_eq_true hk]
        · unfold w4S
          rw [muS_n hz, muS_n hz]
      rw [e4]
      exact g2
    have M4 := hM.x g1
    have p4 := hF.tr g1.d
    refine g_aload_n (q := 135) dX7_weave_134 rfl rfl ?_
    refine g_aload_n (q := 136) dX7_weave_135 rfl rfl ?_
    refine gf_X7_28 (q := 139) rfl rfl rfl dX7_weave_136 rfl ?_
    refine k_X7_146 (q := 142) rfl (Nat.le_of_ble_eq_true rfl) dX7_weave_139 rfl (c_X7_areThere M4 hv3 (fun z139 => ?_) (fun z139 => ?_))
    · refine g_iconst (q := 143) (v := nI 4) dX7_weave_142 rfl (by decide) ?_
      refine k_X7_139 (q := 146) rfl (Nat.le_of_ble_eq_true rfl) rfl dX7_weave_143 rfl (c_must1 R4 (fun J5 g3 g4 => ?_))
      have R5 : RX J5 t (w5S t) f0 := by unfold w5S; rw [z139]; exact g4
      have M5 := M4.x g3
      have p5 := p4.tr g3.d
      refine g_aload_n (q := 147) dX7_weave_146 rfl rfl ?_
      refine g_iconst (q := 148) (v := nI 0) dX7_weave_147 rfl (by decide) ?_
      refine pf_X7_88 (q := 151) rfl rfl dX7_weave_148 rfl ?_
      refine g_aload_n (q := 152) dX7_weave_151 rfl rfl ?_
      refine k_X7_110 (q := 155) rfl (Nat.le_of_ble_eq_true rfl) rfl dX7_weave_152 rfl (c_isWellB (s := w5S t) ((uI_n2 (by decide)).trans R5.2.1) (Nat.le_trans R5.2.2.2.2.2.1 R5.1.2.1) (fun z152 => ?_) (fun z152 => ?_))
      · refine g_if_ne (tgt := 166) (q := 158) dX7_weave_155 (by decide) rfl (fun _ => ?_) (fun c155 => absurd c155 (by decide))
        refine g_aload_n (q := 167) dX7_weave_166 rfl rfl ?_
        refine gf_X7_28 (q := 170) rfl rfl rfl dX7_weave_167 rfl ?_
        refine g_iconst (q := 171) (v := nI 0) dX7_weave_170 rfl (by decide) ?_
        refine g_aload_n (q := 172) dX7_weave_171 rfl rfl ?_
        refine gf_X7_25 (q := 175) rfl rfl rfl dX7_weave_172 rfl ?_
        refine g_iconst (q := 176) (v := nI 0) dX7_weave_175 rfl (by decide) ?_
        refine k_X7_151 (q := 179) rfl (Nat.le_of_ble_eq_true rfl) dX7_weave_176 rfl (c_copies rfl rfl (by decide) (by decide) (by decide) ?_)
        refine g_aload_n (q := 180) dX7_weave_179 rfl rfl ?_
        refine g_iconst (q := 181) (v := nI 0) dX7_weave_180 rfl (by decide) ?_
        refine pf_X7_155 (q := 184) rfl rfl dX7_weave_181 rfl ?_
        have hV : VOk (w3S t).2 := hv3.ok (muS_0 (by decide) z152).2
        have M8 : MRep (uI (cpI (uI J5 52 6 (nI 0)) 59 0 58 0 92) 52 17 (nI 0)) 58 0 (w3S t).2 := (M5.eq (J := uI J5 52 6 (nI 0)) (uI_ne (by decide))).of hV (fun j hj => by rw [uI_ne (by decide)]; exact cpI_eq hj)
        refine g_aload_n (q := 185) dX7_weave_184 rfl rfl ?_
        refine gf_X7_25 (q := 188) rfl rfl rfl dX7_weave_185 rfl ?_
        refine g_iconst (q := 189) (v := nI 0) dX7_weave_188 rfl (by decide) ?_
        refine g_ialdn (q := 190) rfl (by repeat' first | apply nI_a | apply nI_m | exact rfl) (by omega) dX7_weave_189 rfl ?_
        rw [M8.nm]
        refine g_iret rfl dX7_weave_190 (Nat.le_refl _) (Nat.le_refl _) ?_
        have e7 : J5 52 7 = nI S.2.2.2.1 := by rw [R5.2.2.1, if_pos z152, hf0]
        rw [weaveS, ht, if_pos z152] at h
        have q0 := hr.wv0 p5 e7 (by rw [hf0]; exact r5)
        exact h _ (q0.now ⟨M8, hV⟩ ⟨uI_eq, Nat.zero_le _, rfl⟩ (fun p a b => (uI_ne a).trans (cpI_ne b)) (fun j a => (uI_n2 a).trans (by rw [cpI_ne (by decide)]))) (((p5.m.tr (FrM.ui (by decide))).tr (fun p hp => cpI_ne (by omega))).tr (FrM.ui (by decide)))
      · refine g_if_ne (tgt := 166) (q := 158) dX7_weave_155 (by decide) rfl (fun c155 => absurd c155 (by decide)) (fun _ => ?_)
        refine lc_X7_150 (q := 160) rfl dX7_weave_158 rfl ?_
        refine g_aload_n (q := 161) dX7_weave_160 rfl rfl ?_
        refine gf_X7_107 (q := 164) rfl rfl dX7_weave_161 rfl ?_
        refine g_isub (q := 165) dX7_weave_164 rfl ?_
        refine g_iret rfl dX7_weave_165 (Nat.le_refl _) (Nat.le_refl _) ?_
        have e7 : J5 52 7 = nI (w5S t).1 := by rw [R5.2.2.1, if_neg z152]
        rw [weaveS, ht, if_neg z152] at h
        rw [uI_n2 (by decide), R5.2.1, if_neg z152]
        exact h _ (hr.wv0 p5 e7 R5.2.2.2.1) (p5.m.tr (FrM.ui (by decide)))
    · refine g_iconst (q := 143) (v := nI 4) dX7_weave_142 rfl (by decide) ?_
      refine k_X7_139 (q := 146) rfl (Nat.le_of_ble_eq_true rfl) rfl dX7_weave_143 rfl (c_must0 R4 (by decide) (by decide) (fun J5 g3 g4 => ?_))
      have R5 : RX J5 t (w5S t) f0 := by unfold w5S; rw [z139]; exact g4
      have M5 := M4.x g3
      have p5 := p4.tr g3.d
      refine g_aload_n (q := 147) dX7_weave_146 rfl rfl ?_
      refine g_iconst (q := 148) (v := nI 0) dX7_weave_147 rfl (by decide) ?_
      refine pf_X7_88 (q := 151) rfl rfl dX7_weave_148 rfl ?_
      refine g_aload_n (q := 152) dX7_weave_151 rfl rfl ?_
      refine k_X7_110 (q := 155) rfl (Nat.le_of_ble_eq_true rfl) rfl dX7_weave_152 rfl (c_isWellB (s := w5S t) ((uI_n2 (by decide)).trans R5.2.1) (Nat.le_trans R5.2.2.2.2.2.1 R5.1.2.1) (fun z152 => ?_) (fun z152 => ?_))
      · refine g_if_ne (tgt := 166) (q := 158) dX7_weave_155 (by decide) rfl (fun _ => ?_) (fun c155 => absurd c155 (by decide))
        refine g_aload_n (q := 167) dX7_weave_166 rfl rfl ?_
        refine gf_X7_28 (q := 170) rfl rfl rfl dX7_weave_167 rfl ?_
        refine g_iconst (q := 171) (v := nI 0) dX7_weave_170 rfl (by decide) ?_
        refine g_aload_n (q := 172) dX7_weave_171 rfl rfl ?_
        refine gf_X7_25 (q := 175) rfl rfl rfl dX7_weave_172 rfl ?_
        refine g_iconst (q := 176) (v := nI 0) dX7_weave_175 rfl (by decide) ?_
        refine k_X7_151 (q := 179) rfl (Nat.le_of_ble_eq_true rfl) dX7_weave_176 rfl (c_copies rfl rfl (by decide) (by decide) (by decide) ?_)
        refine g_aload_n (q := 180) dX7_weave_179 rfl rfl ?_
        refine g_iconst (q := 181) (v := nI 0) dX7_weave_180 rfl (by decide) ?_
        refine pf_X7_155 (q := 184) rfl rfl dX7_weave_181 rfl ?_
        have hV : VOk (w3S t).2 := hv3.ok (muS_0 (by decide) z152).2
        have M8 : MRep (uI (cpI (uI J5 52 6 (nI 0)) 59 0 58 0 92) 52 17 (nI 0)) 58 0 (w3S t).2 := (M5.eq (J := uI J5 52 6 (nI 0)) (uI_ne (by decide))).of hV (fun j hj => by rw [uI_ne (by decide)]; exact cpI_eq hj)
        refine g_aload_n (q := 185) dX7_weave_184 rfl rfl ?_
        refine gf_X7_25 (q := 188) rfl rfl rfl dX7_weave_185 rfl ?_
        refine g_iconst (q := 189) (v := nI 0) dX7_weave_188 rfl (by decide) ?_
        refine g_ialdn (q := 190) rfl (by repeat' first | apply nI_a | apply nI_m | exact rfl) (by omega) dX7_weave_189 rfl ?_
        rw [M8.nm]
        refine g_iret rfl dX7_weave_190 (Nat.le_refl _) (Nat.le_refl _) ?_
        exact absurd (muS_0 (by decide) z152).2 (by rw [z139]; decide)
      · refine g_if_ne (tgt := 166) (q := 158) dX7_weave_155 (by decide) rfl (fun c155 => absurd c155 (by decide)) (fun _ => ?_)
        refine lc_X7_150 (q := 160) rfl dX7_weave_158 rfl ?_
        refine g_aload_n (q := 161) dX7_weave_160 rfl rfl ?_
        refine gf_X7_107 (q := 164) rfl rfl dX7_weave_161 rfl ?_
        refine g_isub (q := 165) dX7_weave_164 rfl ?_
        refine g_iret rfl dX7_weave_165 (Nat.le_refl _) (Nat.le_refl _) ?_
        have e7 : J5 52 7 = nI (w5S t).1 := by rw [R5.2.2.1, if_neg z152]
        rw [weaveS, ht, if_neg z152] at h
        rw [uI_n2 (by decide), R5.2.1, if_neg z152]
        exact h _ (hr.wv0 p5 e7 R5.2.2.2.1) (p5.m.tr (FrM.ui (by decide)))
set_option maxRecDepth 100000 in
set_option maxHeartbeats 400000 in
theorem l_w2 {d k : Nat} {I : Nat → Nat → Int32} {Q : Option Int32 → Wd → Prop} {t : List Nat} {f0 : Nat} {fin : Ps × Vv} (hex : ∀ W, FrD I W → RX W t fin.1 f0 → MRep W 59 0 fin.2 → G mX7_weave (rmd (d + 6) 0 0) (Zm Q 68 68 0 0) 68 117 [.ref 52, .int (nI 92)] [] 68 (W, RR k) 0 0) : ∀ (n : Nat) (W : Nat → Nat → Int32) (s : Ps) (v : Vv), (s.1 = 0 → vna v + n = 6) → asS_ t n s v = fin → FrD I W → RX W t s f0 → VOk0 v → MRep W 59 0 v → G mX7_weave (rmd (d + 6) 0 0) (Zm Q 68 68 0 0) 68 85 [.ref 52, .int (nI 92)] [] 68 (W, RR k) 0 0 := by
  intro n
  induction n with
  | zero =>
    intro W s v hn hf hF hR hv hM
    have hv5 := hv.2.1
    have hf : (s, v) = fin := hf
    subst hf
    refine g_aload_n (q := 86) dX7_weave_85 rfl rfl ?_
    refine k_X7_110 (q := 89) rfl (Nat.le_of_ble_eq_true rfl) rfl dX7_weave_86 rfl (c_X7_isWell hR (fun z86 => absurd (hn z86) (by omega)) (fun z86 => ?_))
    refine g_if_eq (tgt := 117) (q := 92) dX7_weave_89 (by decide) rfl (fun _ => ?_) (fun c89 => absurd c89 (by decide))
    exact hex W hF hR hM
  | succ n ih =>
    intro W s v hn hf hF hR hv hM
    obtain ⟨r1, r2, r3, r4, r5, r6, r7⟩ := id hR
    have hb := r1.b s.2
    refine g_aload_n (q := 86) dX7_weave_85 rfl rfl ?_
    refine k_X7_110 (q := 89) rfl (Nat.le_of_ble_eq_true rfl) rfl dX7_weave_86 rfl (c_X7_isWell hR (fun z86 => ?_) (fun z86 => ?_))
    · refine g_if_eq (tgt := 117) (q := 92) dX7_weave_89 (by decide) rfl (fun c89 => absurd c89 (by decide)) (fun _ => ?_)
      obtain ⟨q1, q2, q3, q4, q5⟩ := r7 z86
      refine g_aload_n (q := 93) dX7_weave_92 rfl rfl ?_
      refine gf_X7_104 (q := 96) rfl rfl dX7_weave_93 rfl ?_
      rw [q3]
      refine g_iconst (q := 97) (v := nI 1) dX7_weave_96 rfl (by decide) ?_
      refine g_icmp_ne (tgt := 117) (q := 100) dX7_weave_97 (by decide) rfl (fun c97 => ?_) (fun c97 => ?_)
      · rw [asS_n (fun z => by
          have h5 := kdN_1 z.2
          refine c97 ?_
          rw [tkK_1.mpr ⟨h5.1, fun y => ?_, fun y => ?_⟩]
          · rw [y] at h5; exact z.2 (h5.2.symm.trans rfl)
          · rw [y] at h5; exact z.2 (h5.2.symm.trans rfl))] at hf
        subst hf
        exact hex W hF hR hM
      · have K1 := tkK_1.mp ((nI_eq (by have := tkK_lt t s.2; omega) (by decide)).mp c97)
        have kN1 : kdN t s.2 = kdC (t.getD s.2 0) := if_pos K1.1
        refine g_aload_n (q := 101) dX7_weave_100 rfl rfl ?_
        refine gf_X7_101 (q := 104) rfl rfl dX7_weave_101 rfl ?_
        rw [q4 K1.1]
        refine k_X7_130 (q := 107) rfl (Nat.le_of_ble_eq_true rfl) dX7_weave_104 rfl (c_X7_kindOf ?_)
        rw [kdI_n _ hb]
        refine g_if_le (tgt := 117) (q := 110) dX7_weave_107 (by decide) rfl (fun c107 => ?_) (fun c107 => ?_)
        · rw [asS_n (fun z => by
            have h6 := kdN_lt t s.2
            rw [← kN1] at c107
            exact z.2 (Nat.le_zero.mp ((nI_leI (b := 0) (by omega) (by decide)).mp c107)))] at hf
          subst hf
          exact hex W hF hR hM
        · have kN : ¬ kdN t s.2 = 0 := fun z => c107 (by rw [← kN1, z]; decide)
          refine g_aload_n (q := 111) dX7_weave_110 rfl rfl ?_
          refine k_X7_143 (q := 114) rfl (Nat.le_of_ble_eq_true rfl) rfl dX7_weave_111 rfl (c_X7_readsAdvice hR z86 kN hM hv (fun J y1 y2 y3 => ?_))
          refine g_goto (q := 85) dX7_weave_114 (by decide) ?_
          refine ih J _ (avS t s v) (fun z => ?_) ?_ (hF.tr y1) y2 (avS_ok kN hv) y3
          · unfold avS
            rw [if_pos z]
            have := hn z86
            show vna v + 1 + n = 6
            omega
          · rw [← hf, asS_, if_pos ⟨z86, kN⟩]
    · refine g_if_eq (tgt := 117) (q := 92) dX7_weave_89 (by decide) rfl (fun _ => ?_) (fun c89 => absurd c89 (by decide))
      rw [asS_n (fun z => z86 z.1)] at hf
      subst hf
      exact hex W hF hR hM
set_option maxRecDepth 100000 in
set_option maxHeartbeats 400000 in
theorem l_w1 {d k : Nat} {I : Nat → Nat → Int32} {Q : Option Int32 → Wd → Prop} {t : List Nat} {f0 : Nat} {fin : Ps × Vv} (hex : ∀ W, FrD I W → RX W t fin.1 f0 → MRep W 59 0 fin.2 → G mX7_weave (rmd (d + 6) 0 0) (Zm Q 68 68 0 0) 68 66 [.ref 52, .int (nI 92)] [] 68 (W, RR k) 0 0) : ∀ (n : Nat) (W : Nat → Nat → Int32) (s : Ps) (v : Vv), (s.1 = 0 → vnm v + n = 7) → msS t n s v = fin → FrD I W → RX W t s f0 → VOk0 v → MRep W 59 0 v → G mX7_weave (rmd (d + 6) 0 0) (Zm Q 68 68 0 0) 68 35 [.ref 52, .int (nI 92)] [] 68 (W, RR k) 0 0 := by
  intro n
  induction n with
  | zero =>
    intro W s v hn hf hF hR hv hM
    have hv6 := hv.1
    have hf : (s, v) = fin := hf
    subst hf
    refine g_aload_n (q := 36) dX7_weave_35 rfl rfl ?_
    refine k_X7_110 (q := 39) rfl (Nat.le_of_ble_eq_true rfl) rfl dX7_weave_36 rfl (c_X7_isWell hR (fun z36 => absurd (hn z36) (by omega)) (fun z36 => ?_))
    refine g_if_eq (tgt := 66) (q := 42) dX7_weave_39 (by decide) rfl (fun _ => ?_) (fun c39 => absurd c39 (by decide))
    exact hex W hF hR hM
  | succ n ih =>
    intro W s v hn hf hF hR hv hM
    obtain ⟨r1, r2, r3, r4, r5, r6, r7⟩ := id hR
    have hb := r1.b s.2
    refine g_aload_n (q := 36) dX7_weave_35 rfl rfl ?_
    refine k_X7_110 (q := 39) rfl (Nat.le_of_ble_eq_true rfl) rfl dX7_weave_36 rfl (c_X7_isWell hR (fun z36 => ?_) (fun z36 => ?_))
    · refine g_if_eq (tgt := 66) (q := 42) dX7_weave_39 (by decide) rfl (fun c39 => absurd c39 (by decide)) (fun _ => ?_)
      obtain ⟨q1, q2, q3, q4, q5⟩ := r7 z36
      refine g_aload_n (q := 43) dX7_weave_42 rfl rfl ?_
      refine gf_X7_104 (q := 46) rfl rfl dX7_weave_43 rfl ?_
      rw [q3]
      refine g_iconst (q := 47) (v := nI 1) dX7_weave_46 rfl (by decide) ?_
      refine g_icmp_ne (tgt := 66) (q := 50) dX7_weave_47 (by decide) rfl (fun c47 => ?_) (fun c47 => ?_)
      · rw [msS_n (fun z => by
          have h5 := chr_iff.mp z.2
          refine c47 ?_
          rw [tkK_1.mpr ⟨h5.1, by rw [h5.2]; decide, by rw [h5.2]; decide⟩])] at hf
        subst hf
        exact hex W hF hR hM
      · have K1 := tkK_1.mp ((nI_eq (by have := tkK_lt t s.2; omega) (by decide)).mp c47)
        refine g_aload_n (q := 51) dX7_weave_50 rfl rfl ?_
        refine gf_X7_101 (q := 54) rfl rfl dX7_weave_51 rfl ?_
        rw [q4 K1.1]
        refine g_bipush (q := 56) (v := nI 109) dX7_weave_54 rfl (by decide) ?_
        refine g_icmp_ne (tgt := 66) (q := 59) dX7_weave_56 (by decide) rfl (fun c56 => ?_) (fun c56 => ?_)
        · rw [msS_n (fun z => c56 (by rw [(chr_iff.mp z.2).2]))] at hf
          subst hf
          exact hex W hF hR hM
        · refine g_aload_n (q := 60) dX7_weave_59 rfl rfl ?_
          refine k_X7_136 (q := 63) rfl (Nat.le_of_ble_eq_true rfl) rfl dX7_weave_60 rfl (c_X7_readsMethod hR z36 hM hv (fun J y1 y2 y3 => ?_))
          refine g_goto (q := 35) dX7_weave_63 (by decide) ?_
          refine ih J _ (mvS t s v) (fun z => ?_) ?_ (hF.tr y1) y2 (mvS_ok hv) y3
          · unfold mvS
            rw [if_pos z]
            have := hn z36
            show vnm v + 1 + n = 7
            omega
          · rw [← hf, msS, if_pos ⟨z36, chr_iff.mpr ⟨K1.1, (nI_eq (by omega) (by decide)).mp c56⟩⟩]
    · refine g_if_eq (tgt := 66) (q := 42) dX7_weave_39 (by decide) rfl (fun _ => ?_) (fun c39 => absurd c39 (by decide))
      rw [msS_n (fun z => z36 z.1)] at hf
      subst hf
      exact hex W hF hR hM
theorem msS_na {t : List Nat} : ∀ (k : Nat) (s : Ps) (v : Vv), vna (msS t k s v).2 = vna v := by
  intro k
  induction k with
  | zero => intro s v; rfl
  | succ k ih =>
    intro s v
    rw [msS]
    split
    · rw [ih]
      unfold mvS
      split
      · rfl
      · rfl
    · rfl
set_option maxRecDepth 100000 in
set_option maxHeartbeats 400000 in
theorem l_w0 {d k : Nat} {I : Nat → Nat → Int32} {Q : Option Int32 → Wd → Prop} (hex : ∀ W, (∀ p, p ≠ 59 → W p = I p) → (∀ j, j < 92 → W 59 j = nI 0) → G mX7_weave (rmd (d + 6) 0 0) (Zm Q 68 68 0 0) 68 21 [.ref 52, .int (nI 92)] [] 68 (W, RR k) 0 0) : ∀ (n i : Nat) (W : Nat → Nat → Int32), i + n = 92 → (∀ p, p ≠ 59 → W p = I p) → (∀ j, j < i → W 59 j = nI 0) → G mX7_weave (rmd (d + 6) 0 0) (Zm Q 68 68 0 0) 68 2 [.ref 52, .int (nI i)] [] 68 (W, RR k) 0 0 := by
  intro n
  induction n with
  | zero =>
    intro i W hi hW hz
    have hi : i = 92 := by omega
    subst hi
    refine g_iload_n (q := 3) dX7_weave_2 rfl rfl ?_
    refine g_bipush (q := 5) (v := nI 92) dX7_weave_3 rfl (by decide) ?_
    refine g_icmp_ge (tgt := 21) (q := 8) dX7_weave_5 (by decide) rfl (fun _ => ?_) (fun c5 => absurd c5 (by decide))
    exact hex W hW hz
  | succ n ih =>
    intro i W hi hW hz
    refine g_iload_n (q := 3) dX7_weave_2 rfl rfl ?_
    refine g_bipush (q := 5) (v := nI 92) dX7_weave_3 rfl (by decide) ?_
    refine g_icmp_ge (tgt := 21) (q := 8) dX7_weave_5 (by decide) rfl (fun c5 => absurd c5 (nI_ge (by omega) (by decide))) (fun _ => ?_)
    refine g_aload_n (q := 9) dX7_weave_8 rfl rfl ?_
    refine gf_X7_28 (q := 12) rfl rfl rfl dX7_weave_9 rfl ?_
    refine g_iload_n (q := 13) dX7_weave_12 rfl rfl ?_
    refine g_iconst (q := 14) (v := nI 0) dX7_weave_13 rfl (by decide) ?_
    refine g_iastn (q := 15) rfl (by repeat' first | apply nI_a | apply nI_m | exact rfl) (by omega) dX7_weave_14 rfl ?_
    refine g_iincn (q := 18) dX7_weave_15 rfl rfl (by decide) rfl rfl ?_
    refine g_goto (q := 2) dX7_weave_18 (by decide) ?_
    refine ih (i + 1) _ (by omega) (fun p hp => (uI_ne hp).trans (hW p hp)) (fun j hj => ?_)
    by_cases e : j = i
    · subst e; exact uI_eq
    · exact (uI_n2 e).trans (hz j (by omega))
set_option maxRecDepth 100000 in
set_option maxHeartbeats 400000 in
theorem c_X7_weave {d k : Nat} {I : Nat → Nat → Int32} {Q : Option Int32 → Wd → Prop} {S : Sg} (hr : RepM I S) (h : ∀ I2, RepM I2 (weaveS S).2 → FrM I I2 → Q (some (weaveS S).1) (I2, RR k)) : Ex (d + 6) 0 0 mX7_weave [.ref 52] 68 (I, RR k) 68 Q := by
  have hl3 : ∀ W, FrD I W → RX W S.2.2.1 (w3S S.2.2.1).1 S.2.2.2.1 → MRep W 59 0 (w3S S.2.2.1).2 → G mX7_weave (rmd (d + 6) 0 0) (Zm Q 68 68 0 0) 68 117 [.ref 52, .int (nI 92)] [] 68 (W, RR k) 0 0 := fun W a b c => l_w3 hr h a b c
  have hT := hr.2.2.1
  have hf5 := hr.2.2.2.1
  generalize S.2.2.1 = t at hl3 hT
  generalize S.2.2.2.1 = f0 at hl3 hf5
  refine ex_intro (L0 := [.ref 52, .null]) (by decide +kernel) rfl rfl (Nat.le_of_ble_eq_true rfl) rfl ?_
  refine g_iconst (q := 1) (v := nI 0) dX7_weave_0 rfl (by decide) ?_
  refine g_istore_n (q := 2) dX7_weave_1 rfl (by decide) rfl rfl ?_
  refine l_w0 (I := I) (fun W0 hW hz => ?_) 92 0 I rfl (fun _ _ => rfl) (fun j hj => absurd hj (Nat.not_lt_zero _))
  refine g_aload_n (q := 22) dX7_weave_21 rfl rfl ?_
  refine g_iconst (q := 23) (v := nI 0) dX7_weave_22 rfl (by decide) ?_
  refine pf_X7_92 (q := 26) rfl rfl dX7_weave_23 rfl ?_
  refine g_aload_n (q := 27) dX7_weave_26 rfl rfl ?_
  refine g_iconst (q := 28) (v := (-1)) dX7_weave_27 rfl (by decide) ?_
  refine pf_X7_107 (q := 31) rfl rfl dX7_weave_28 rfl ?_
  refine g_aload_n (q := 32) dX7_weave_31 rfl rfl ?_
  refine k_X7_117 (q := 35) rfl (Nat.le_of_ble_eq_true rfl) rfl dX7_weave_32 rfl (c_X7_advances (t := t) (p := 0) (hT.eq (by rw [uI_n2 (by decide), uI_n2 (by decide), hW 52 (by decide)]) (by rw [uI_ne (by decide), uI_ne (by decide), hW 57 (by decide)])) (Nat.zero_le _) (by rw [uI_n2 (by decide), uI_eq]) (fun J g0 g1 g2 g3 g4 g5 => ?_))
  have q0 : FrD I (uI (uI W0 52 9 (nI 0)) 52 8 (-1)) := ⟨fun p a b => by rw [uI_ne a, uI_ne a, hW p b], fun j hj => by rw [uI_n2 (by omega), uI_n2 (by omega), hW 52 (by decide)]⟩
  have p0 : FrD I J := q0.tr g0.x.d
  have R0 : RX J t (0, 0) f0 := ⟨hT.eq (p0.2 6 (by decide)) (p0.1 57 (by decide) (by decide)), by rw [g0.2 8 (by decide), uI_eq]; rfl, by rw [g0.2 7 (by decide), uI_n2 (by decide), uI_n2 (by decide), hW 52 (by decide)]; exact hf5.1, by decide, hf5.2, Nat.zero_le _, fun _ => ⟨g1, g2, g3, g4, g5⟩⟩
  have M0 : MRep J 59 0 v0 := ⟨by rw [g0.1 59 (by decide), uI_ne (by decide), uI_ne (by decide)]; exact hz 0 (by decide), by rw [g0.1 59 (by decide), uI_ne (by decide), uI_ne (by decide)]; exact hz 1 (by decide), fun m hm => absurd hm (Nat.not_lt_zero _), fun a ha => absurd ha (Nat.not_lt_zero _)⟩
  refine l_w1 (I := I) (t := t) (f0 := f0) (fin := w1S t) (fun W1 p1 R1 M1 => ?_) 7 J (0, 0) v0 (fun _ => rfl) rfl p0 R0 v0_ok M0
  have hv1 := msS_ok (t := t) 7 (0, 0) v0 v0_ok
  have hv6 : vnm (w1S t).2 ≤ 6 := hv1.1
  refine g_aload_n (q := 67) dX7_weave_66 rfl rfl ?_
  refine g_aload_n (q := 68) dX7_weave_67 rfl rfl ?_
  refine gf_X7_28 (q := 71) rfl rfl rfl dX7_weave_68 rfl ?_
  refine g_iconst (q := 72) (v := nI 0) dX7_weave_71 rfl (by decide) ?_
  refine g_ialdn (q := 73) rfl (by repeat' first | apply nI_a | apply nI_m | exact rfl) (by omega) dX7_weave_72 rfl ?_
  rw [M1.nm]
  refine g_if_le (tgt := 80) (q := 76) dX7_weave_73 (by decide) rfl (fun c73 => ?_) (fun c73 => ?_)
  · refine g_iconst (q := 81) (v := nI 0) dX7_weave_80 rfl (by decide) ?_
    refine g_iconst (q := 82) (v := nI 1) dX7_weave_81 rfl (by decide) ?_
    refine k_X7_139 (q := 85) rfl (Nat.le_of_ble_eq_true rfl) rfl dX7_weave_82 rfl (c_must0 R1 (by decide) (by decide) (fun J2 g1 g2 => ?_))
    have hn : ¬ 0 < vnm (w1S t).2 := fun z => nI_nle z (by omega) c73
    have R2 : RX J2 t (w2S t) f0 := by unfold w2S; rw [decide_eq_false hn]; exact g2
    have hf2 : (w2S t).1 = 0 → vna (w1S t).2 + 6 = 6 := fun _ => by
      have e : vna (w1S t).2 = 0 := msS_na 7 _ _
      omega
    exact l_w2 (I := I) (t := t) (f0 := f0) (fin := w3S t) (fun W2 p2 R2 M2 => hl3 W2 p2 R2 M2) 6 J2 (w2S t) (w1S t).2 hf2 rfl (p1.tr g1.d) R2 hv1 (M1.x g1)
  · refine g_iconst (q := 77) (v := nI 1) dX7_weave_76 rfl (by decide) ?_
    refine g_goto (q := 81) dX7_weave_77 (by decide) ?_
    refine g_iconst (q := 82) (v := nI 1) dX7_weave_81 rfl (by decide) ?_
    refine k_X7_139 (q := 85) rfl (Nat.le_of_ble_eq_true rfl) rfl dX7_weave_82 rfl (c_must1 R1 (fun J2 g1 g2 => ?_))
    have hn : 0 < vnm (w1S t).2 := Nat.pos_of_ne_zero (fun z => c73 (by rw [z]; decide))
    have R2 : RX J2 t (w2S t) f0 := by unfold w2S; rw [decide_eq_true hn]; exact g2
    have hf2 : (w2S t).1 = 0 → vna (w1S t).2 + 6 = 6 := fun _ => by
      have e : vna (w1S t).2 = 0 := msS_na 7 _ _
      omega
    exact l_w2 (I := I) (t := t) (f0 := f0) (fin := w3S t) (fun W2 p2 R2 M2 => hl3 W2 p2 R2 M2) 6 J2 (w2S t) (w1S t).2 hf2 rfl (p1.tr g1.d) R2 hv1 (M1.x g1)
