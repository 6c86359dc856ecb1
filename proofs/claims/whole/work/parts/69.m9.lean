/-- the body went on; it called -/
def BGo (v : Vv) (I J : Nat → Nat → Int32) (s : Rs) (U : Nat) (go : Nat → Nat) (m x mt i : Nat) (acc : Int32) : Prop := RS v J s (U + 1) go ∧ Ent J U (nI 2) (nI m) (nI x) (nI mt) (nI i) ∧ J 64 (7 * U + 6) = acc ∧ (∀ i, i < 7 * U → J 64 i = I 64 i) ∧ FrR I J ∧ J 52 25 = I 52 25
def BCl (v : Vv) (I J : Nat → Nat → Int32) (s : Rs) (U : Nat) (go : Nat → Nat) (m x mt i : Nat) (acc : Int32) (m2 x2 mt2 : Nat) : Prop := RS v J s (U + 3) go ∧ Ent J U (nI 2) (nI m) (nI x) (nI mt) (nI i) ∧ J 64 (7 * U + 6) = acc ∧ Ent J (U + 1) (nI 0) (nI m2) (nI x2) (nI mt2) (nI 0) ∧ Ent J (U + 2) (nI (wxF mt2 5 0).1) (nI m2) (nI x2) (nI mt2) (nI (wxF mt2 5 0).2) ∧ J 64 (7 * (U + 2) + 5) = -1 ∧ J 64 (7 * (U + 2) + 6) = nI x2 ∧ (∀ i, i < 7 * U → J 64 i = I 64 i) ∧ FrR I J ∧ J 52 25 = I 52 25

set_option maxRecDepth 100000 in
set_option maxHeartbeats 400000 in
theorem c_bo0 {d k : Nat} {I : Nat → Nat → Int32} {Q : Option Int32 → Wd → Prop} {p U m x mt i g : Nat} {v : Vv} {s : Rs} {go : Nat → Nat} {a0 : Int32} (hp52 : p = 58 ∨ p = 60) (hsp : shn 68 p = (1, 92)) (hM : MRep I p 0 v) (hV : VOk v) (hm : m < vnm v) (hx : x < 10) (hi : i ≤ vln v m) (hU : U < 90) (hg : Gof g go) (hgo : ∀ z, z < 6 → go z < 1000) (hS : RS v I s (U + 1) go) (hE : Ent I U (nI 2) (nI m) (nI x) (nI mt) (nI i)) (hsum : I 64 (7 * U + 6) = a0) (hfull : (i < vln v m ∧ ((vso v m i = 0 ∧ emF (vop v m i) s = none) ∨ (vso v m i = 1 ∧ 0 < x ∧ 300 ≤ s.2.1))) → ∀ J, FrR I J → J 52 29 = nI 1 → Q none (J, RR k)) (hdone : i = vln v m → ∀ J, AEnd v I J s U go 0 (a0) → Q none (J, RR k)) (hemit : i < vln v m → vso v m i = 0 → ∀ J s1, emF (vop v m i) s = some s1 → BGo v I J s1 U go m x mt (i + 1) (a0) → Q none (J, RR k)) (hfail : i < vln v m → vso v m i = 2 → ∀ J, AEnd v I J s U go (vop v m i) (nI 0) → Q none (J, RR k)) (hnone : i < vln v m → vso v m i = 1 → x = 0 → ∀ J, BGo v I J s U go m x mt (i + 1) (a0) → Q none (J, RR k)) (hcall : i < vln v m → vso v m i = 1 → 0 < x → ¬ 300 ≤ s.2.1 → ∀ J, BCl v I J (s.1, s.2.1 + 1, upC s.2.2 (vop v m i)) U (upC go (vop v m i)) m x mt (i + 1) (a0) (vop v m i) (x - 1) (meantF v (vop v m i) (x - 1) (g ||| 1 <<< vop v m i)) → Q none (J, RR k)) : Ex (d + 4) 0 0 mX7_bodies [.ref 52, .ref p, .int (nI (7 * U)), .int (nI 0)] 68 (I, RR k) 68 Q := by
  obtain ⟨v1, v2, v3, v4⟩ := id hV
  have k4 := (v3 m hm).2.1

  refine ex_intro (L0 := [.ref 52, .ref p, .int (nI (7 * U)), .int (nI 0), .null, .null]) (by decide +kernel) rfl rfl (Nat.le_of_ble_eq_true rfl) rfl ?_
  refine g_iload_n (q := 1) dX7_bodies_0 rfl rfl ?_
  refine g_if_eq (tgt := 21) (q := 4) dX7_bodies_1 (by decide) rfl (fun _ => ?_) (fun c1 => absurd c1 (by decide))
  refine g_aload_n (q := 22) dX7_bodies_21 rfl rfl ?_
  refine gf_X7_44 (q := 25) rfl (by first | assumption | rfl) (by first | assumption | rfl) dX7_bodies_22 rfl ?_
  refine g_iload_n (q := 26) dX7_bodies_25 rfl rfl ?_
  refine g_bipush (q := 28) (v := nI 6) dX7_bodies_26 rfl (by decide) ?_
  refine g_iadd (q := 29) dX7_bodies_28 rfl ?_
  refine g_dup2 (q := 30) dX7_bodies_29 rfl rfl rfl ?_
  refine g_ialdn (q := 31) (by first | assumption | rfl) (by repeat' first | apply nI_a | apply nI_m | exact rfl) (by omega) dX7_bodies_30 rfl ?_
  rw [hsum]
  refine g_iload_n (q := 32) dX7_bodies_31 rfl rfl ?_
  refine g_if_eq (tgt := 42) (q := 35) dX7_bodies_32 (by decide) rfl (fun _ => ?_) (fun c32 => absurd c32 (by decide))
  refine g_iconst (q := 43) (v := nI 0) dX7_bodies_42 rfl (by decide) ?_
  refine g_iadd (q := 44) dX7_bodies_43 rfl ?_
  rw [show a0 + nI 0 = a0 from Int32.add_zero _]
  refine g_iastn (q := 45) (by first | assumption | rfl) (by repeat' first | apply nI_a | apply nI_m | exact rfl) (by omega) dX7_bodies_44 rfl ?_
  refine g_aload_n (q := 46) dX7_bodies_45 rfl rfl ?_
  refine gf_X7_44 (q := 49) rfl (by first | assumption | rfl) (by first | assumption | rfl) dX7_bodies_46 rfl ?_
  refine g_iload_n (q := 50) dX7_bodies_49 rfl rfl ?_
  refine g_iconst (q := 51) (v := nI 4) dX7_bodies_50 rfl (by decide) ?_
  refine g_iadd (q := 52) dX7_bodies_51 rfl ?_
  refine g_ialdn (q := 53) (by first | assumption | rfl) (by repeat' first | apply nI_a | apply nI_m | exact rfl) (by omega) dX7_bodies_52 rfl ?_
  rw [uI_n2 (by omega), hE.2.2.2.2]
  refine g_istore (q := 55) dX7_bodies_53 rfl (by decide) rfl rfl ?_
  refine g_iconst (q := 56) (v := nI 2) dX7_bodies_55 rfl (by decide) ?_
  refine g_bipush (q := 58) (v := nI 10) dX7_bodies_56 rfl (by decide) ?_
  refine g_aload_n (q := 59) dX7_bodies_58 rfl rfl ?_
  refine gf_X7_44 (q := 62) rfl (by first | assumption | rfl) (by first | assumption | rfl) dX7_bodies_59 rfl ?_
  refine g_iload_n (q := 63) dX7_bodies_62 rfl rfl ?_
  refine g_iconst (q := 64) (v := nI 1) dX7_bodies_63 rfl (by decide) ?_
  refine g_iadd (q := 65) dX7_bodies_64 rfl ?_
  refine g_ialdn (q := 66) (by first | assumption | rfl) (by repeat' first | apply nI_a | apply nI_m | exact rfl) (by omega) dX7_bodies_65 rfl ?_
  rw [uI_n2 (by omega), hE.2.1]
  refine g_imul (q := 67) dX7_bodies_66 rfl ?_
  refine g_iadd (q := 68) dX7_bodies_67 rfl ?_
  rw [show nI 2 + nI 10 * nI m = nI (2 + 10 * m) from nI_a rfl (nI_m rfl rfl)]
  refine g_istore (q := 70) dX7_bodies_68 rfl (by decide) rfl rfl ?_
  refine g_aload_n (q := 71) dX7_bodies_70 rfl rfl ?_
  refine gf_X7_44 (q := 74) rfl (by first | assumption | rfl) (by first | assumption | rfl) dX7_bodies_71 rfl ?_
  refine g_iload_n (q := 75) dX7_bodies_74 rfl rfl ?_
  refine g_iconst (q := 76) (v := nI 4) dX7_bodies_75 rfl (by decide) ?_
  refine g_iadd (q := 77) dX7_bodies_76 rfl ?_
  refine g_dup2 (q := 78) dX7_bodies_77 rfl rfl rfl ?_
  refine g_ialdn (q := 79) (by first | assumption | rfl) (by repeat' first | apply nI_a | apply nI_m | exact rfl) (by omega) dX7_bodies_78 rfl ?_
  rw [uI_n2 (by omega), hE.2.2.2.2]
  refine g_iconst (q := 80) (v := nI 1) dX7_bodies_79 rfl (by decide) ?_
  refine g_iadd (q := 81) dX7_bodies_80 rfl ?_
  rw [nI_add]
  refine g_iastn (q := 82) (by first | assumption | rfl) (by repeat' first | apply nI_a | apply nI_m | exact rfl) (by omega) dX7_bodies_81 rfl ?_
  obtain ⟨W, hW⟩ : ∃ W, W = uI (uI I 64 (7 * U + 6) (a0)) 64 (7 * U + 4) (nI (i + 1)) := ⟨_, rfl⟩
  rw [← hW]
  have w64 : ∀ i, i ≠ 7 * U + 4 → i ≠ 7 * U + 6 → W 64 i = I 64 i := fun i h1 h2 => by rw [hW, uI_n2 h1, uI_n2 h2]
  have wE : Ent W U (nI 2) (nI m) (nI x) (nI mt) (nI (i + 1)) := ⟨(w64 _ (by omega) (by omega)).trans hE.1, (w64 _ (by omega) (by omega)).trans hE.2.1, (w64 _ (by omega) (by omega)).trans hE.2.2.1, (w64 _ (by omega) (by omega)).trans hE.2.2.2.1, by rw [hW, uI_eq]⟩
  have wa : W 64 (7 * U + 6) = a0 := by rw [hW, uI_n2 (by omega), uI_eq]
  have wh : ∀ i, i < 7 * U → W 64 i = I 64 i := fun i hi => w64 i (by omega) (by omega)
  have wF : FrR I W := by rw [hW]; exact FrR.tr (FrR.u (Or.inl rfl)) (FrR.u (Or.inl rfl))
  have wM : MRep W p 0 v := hM.eq (wF.1 p (by omega) (by omega) (by omega) (by omega))
  have b52 : W 52 = I 52 := by rw [hW, uI_ne (by decide), uI_ne (by decide)]
  have w25 : W 52 25 = I 52 25 := by rw [b52]
  have wR : RS v W s (U + 1) go := hS.eq (by rw [b52]; exact hS.1) (fun j hj => by rw [b52]) (by rw [hW, uI_ne (by decide), uI_ne (by decide)]) (by rw [hW, uI_ne (by decide), uI_ne (by decide)])
  refine g_iload (q := 84) dX7_bodies_82 rfl rfl ?_
  refine g_aload_n (q := 85) dX7_bodies_84 rfl rfl ?_
  refine g_iload (q := 87) dX7_bodies_85 rfl rfl ?_
  refine g_iconst (q := 88) (v := nI 1) dX7_bodies_87 rfl (by decide) ?_
  refine g_iadd (q := 89) dX7_bodies_88 rfl ?_
  refine g_ialdn (q := 90) (by first | assumption | rfl) (by repeat' first | apply nI_a | apply nI_m | exact rfl) (by omega) dX7_bodies_89 rfl ?_
  rw [wM.ln hm]
  refine g_icmp_lt (tgt := 110) (q := 93) dX7_bodies_90 (by decide) rfl (fun c90 => ?_) (fun c90 => ?_)
  · have hlt : i < vln v m := (nI_ltI (by omega) (by omega)).mp c90
    have hok := (v3 m hm).2.2 i hlt
    have e0 : nI (vso v m i) = 0 ↔ vso v m i = 0 := nI_eq (b := 0) (by omega) (by omega)
    have e2 : nI (vso v m i) = nI 2 ↔ vso v m i = 2 := nI_eq (by omega) (by omega)
    refine g_aload_n (q := 111) dX7_bodies_110 rfl rfl ?_
    refine g_iload (q := 113) dX7_bodies_111 rfl rfl ?_
    refine g_iconst (q := 114) (v := nI 2) dX7_bodies_113 rfl (by decide) ?_
    refine g_iadd (q := 115) dX7_bodies_114 rfl ?_
    refine g_iconst (q := 116) (v := nI 2) dX7_bodies_115 rfl (by decide) ?_
    refine g_iload (q := 118) dX7_bodies_116 rfl rfl ?_
    refine g_imul (q := 119) dX7_bodies_118 rfl ?_
    refine g_iadd (q := 120) dX7_bodies_119 rfl ?_
    refine g_ialdn (q := 121) (by first | assumption | rfl) (by repeat' first | apply nI_a | apply nI_m | exact rfl) (by omega) dX7_bodies_120 rfl ?_
    rw [wM.so hm hlt]
    refine g_if_ne (tgt := 144) (q := 124) dX7_bodies_121 (by decide) rfl (fun c121 => ?_) (fun c121 => ?_)
    · refine g_aload_n (q := 145) dX7_bodies_144 rfl rfl ?_
      refine g_iload (q := 147) dX7_bodies_145 rfl rfl ?_
      refine g_iconst (q := 148) (v := nI 2) dX7_bodies_147 rfl (by decide) ?_
      refine g_iadd (q := 149) dX7_bodies_148 rfl ?_
      refine g_iconst (q := 150) (v := nI 2) dX7_bodies_149 rfl (by decide) ?_
      refine g_iload (q := 152) dX7_bodies_150 rfl rfl ?_
      refine g_imul (q := 153) dX7_bodies_152 rfl ?_
      refine g_iadd (q := 154) dX7_bodies_153 rfl ?_
      refine g_ialdn (q := 155) (by first | assumption | rfl) (by repeat' first | apply nI_a | apply nI_m | exact rfl) (by omega) dX7_bodies_154 rfl ?_
      rw [wM.so hm hlt]
      refine g_iconst (q := 156) (v := nI 2) dX7_bodies_155 rfl (by decide) ?_
      refine g_icmp_ne (tgt := 180) (q := 159) dX7_bodies_156 (by decide) rfl (fun c156 => ?_) (fun c156 => ?_)
      · have e1 : vso v m i = 1 := by have h0 : ¬ vso v m i = 0 := fun z => c121 (e0.mpr z); have h2 : ¬ vso v m i = 2 := fun z => c156 (e2.mpr z); omega
        have hm2 := hok.2.2.1 e1
        refine g_aload_n (q := 181) dX7_bodies_180 rfl rfl ?_
        refine gf_X7_44 (q := 184) rfl (by first | assumption | rfl) (by first | assumption | rfl) dX7_bodies_181 rfl ?_
        refine g_iload_n (q := 185) dX7_bodies_184 rfl rfl ?_
        refine g_iconst (q := 186) (v := nI 2) dX7_bodies_185 rfl (by decide) ?_
        refine g_iadd (q := 187) dX7_bodies_186 rfl ?_
        refine g_ialdn (q := 188) (by first | assumption | rfl) (by repeat' first | apply nI_a | apply nI_m | exact rfl) (by omega) dX7_bodies_187 rfl ?_
        rw [wE.2.2.1]
        refine g_if_le (tgt := 219) (q := 191) dX7_bodies_188 (by decide) rfl (fun c188 => ?_) (fun c188 => ?_)
        · refine g_vret rfl dX7_bodies_219 (Nat.le_refl _) (Nat.le_refl _) ?_
          exact hnone hlt e1 (by have : nI x ≤ nI 0 := c188; have := (nI_leI (by omega) (by omega)).mp this; omega) _ ⟨wR, wE, wa, wh, wF, w25⟩
        · have hx0 : 0 < x := by apply Nat.pos_of_ne_zero; intro z; rw [z] at c188; exact c188 (by decide)
          refine g_aload_n (q := 192) dX7_bodies_191 rfl rfl ?_
          refine g_aload_n (q := 193) dX7_bodies_192 rfl rfl ?_
          refine g_aload_n (q := 194) dX7_bodies_193 rfl rfl ?_
          refine g_iload (q := 196) dX7_bodies_194 rfl rfl ?_
          refine g_iconst (q := 197) (v := nI 2) dX7_bodies_196 rfl (by decide) ?_
          refine g_iadd (q := 198) dX7_bodies_197 rfl ?_
          refine g_iconst (q := 199) (v := nI 2) dX7_bodies_198 rfl (by decide) ?_
          refine g_iload (q := 201) dX7_bodies_199 rfl rfl ?_
          refine g_imul (q := 202) dX7_bodies_201 rfl ?_
          refine g_iadd (q := 203) dX7_bodies_202 rfl ?_
          refine g_iconst (q := 204) (v := nI 1) dX7_bodies_203 rfl (by decide) ?_
          refine g_iadd (q := 205) dX7_bodies_204 rfl ?_
          refine g_ialdn (q := 206) (by first | assumption | rfl) (by repeat' first | apply nI_a | apply nI_m | exact rfl) (by omega) dX7_bodies_205 rfl ?_
          rw [wM.op hm hlt]
          refine g_aload_n (q := 207) dX7_bodies_206 rfl rfl ?_
          refine gf_X7_44 (q := 210) rfl (by first | assumption | rfl) (by first | assumption | rfl) dX7_bodies_207 rfl ?_
          refine g_iload_n (q := 211) dX7_bodies_210 rfl rfl ?_
          refine g_iconst (q := 212) (v := nI 2) dX7_bodies_211 rfl (by decide) ?_
          refine g_iadd (q := 213) dX7_bodies_212 rfl ?_
          refine g_ialdn (q := 214) (by first | assumption | rfl) (by repeat' first | apply nI_a | apply nI_m | exact rfl) (by omega) dX7_bodies_213 rfl ?_
          rw [wE.2.2.1]
          refine g_iconst (q := 215) (v := nI 1) dX7_bodies_214 rfl (by decide) ?_
          refine g_isub (q := 216) dX7_bodies_215 rfl ?_
          rw [nI_pr (by omega)]
          refine k_X7_218 (q := 219) rfl (Nat.le_of_ble_eq_true rfl) (by first | assumption | rfl) dX7_bodies_216 rfl (c_X7_callsBy (g := g) hp52 hsp wM hV hm2 (by omega) wR (by omega) hg hgo (fun h3 => ?_) (fun h3 J h4 h5 h6 h7 h8 q5 q6 q7 => ?_))
          · refine g_vret rfl dX7_bodies_219 (Nat.le_refl _) (Nat.le_refl _) ?_
            exact hfull ⟨hlt, Or.inr ⟨e1, hx0, h3⟩⟩ _ (FrR.tr wF (FrR.u (by omega))) uI_eq
          · refine g_vret rfl dX7_bodies_219 (Nat.le_refl _) (Nat.le_refl _) ?_
            refine hcall hlt e1 hx0 h3 J ⟨h4, wE.to (fun i hi => q5 _ (by omega)), (q5 _ (by omega)).trans wa, h5, h6, h7, h8, fun i hi => (q5 i (by omega)).trans (wh i hi), FrR.tr wF q6, q7.trans w25⟩
      · refine g_aload_n (q := 160) dX7_bodies_159 rfl rfl ?_
        refine g_aload_n (q := 161) dX7_bodies_160 rfl rfl ?_
        refine g_iload (q := 163) dX7_bodies_161 rfl rfl ?_
        refine g_iconst (q := 164) (v := nI 2) dX7_bodies_163 rfl (by decide) ?_
        refine g_iadd (q := 165) dX7_bodies_164 rfl ?_
        refine g_iconst (q := 166) (v := nI 2) dX7_bodies_165 rfl (by decide) ?_
        refine g_iload (q := 168) dX7_bodies_166 rfl rfl ?_
        refine g_imul (q := 169) dX7_bodies_168 rfl ?_
        refine g_iadd (q := 170) dX7_bodies_169 rfl ?_
        refine g_iconst (q := 171) (v := nI 1) dX7_bodies_170 rfl (by decide) ?_
        refine g_iadd (q := 172) dX7_bodies_171 rfl ?_
        refine g_ialdn (q := 173) (by first | assumption | rfl) (by repeat' first | apply nI_a | apply nI_m | exact rfl) (by omega) dX7_bodies_172 rfl ?_
        rw [wM.op hm hlt]
        refine g_iconst (q := 174) (v := nI 0) dX7_bodies_173 rfl (by decide) ?_
        refine k_X7_214 (q := 177) rfl (Nat.le_of_ble_eq_true rfl) (by first | assumption | rfl) dX7_bodies_174 rfl (c_ends (U := U) ?_ ?_)
        · exact wR.1
        refine g_goto (q := 219) dX7_bodies_177 (by decide) ?_
        refine g_vret rfl dX7_bodies_219 (Nat.le_refl _) (Nat.le_refl _) ?_
        exact hfail hlt (e2.mp c156) _ (AEnd.mk wR wh wF)
    · refine g_aload_n (q := 125) dX7_bodies_124 rfl rfl ?_
      refine g_aload_n (q := 126) dX7_bodies_125 rfl rfl ?_
      refine g_iload (q := 128) dX7_bodies_126 rfl rfl ?_
      refine g_iconst (q := 129) (v := nI 2) dX7_bodies_128 rfl (by decide) ?_
      refine g_iadd (q := 130) dX7_bodies_129 rfl ?_
      refine g_iconst (q := 131) (v := nI 2) dX7_bodies_130 rfl (by decide) ?_
      refine g_iload (q := 133) dX7_bodies_131 rfl rfl ?_
      refine g_imul (q := 134) dX7_bodies_133 rfl ?_
      refine g_iadd (q := 135) dX7_bodies_134 rfl ?_
      refine g_iconst (q := 136) (v := nI 1) dX7_bodies_135 rfl (by decide) ?_
      refine g_iadd (q := 137) dX7_bodies_136 rfl ?_
      refine g_ialdn (q := 138) (by first | assumption | rfl) (by repeat' first | apply nI_a | apply nI_m | exact rfl) (by omega) dX7_bodies_137 rfl ?_
      rw [wM.op hm hlt]
      refine k_X7_210 (q := 141) rfl (Nat.le_of_ble_eq_true rfl) (by first | assumption | rfl) dX7_bodies_138 rfl (c_emS wR (fun s1 he1 hR1 => ?_) (fun he1 => ?_))
      · refine g_goto (q := 219) dX7_bodies_141 (by decide) ?_
        refine g_vret rfl dX7_bodies_219 (Nat.le_refl _) (Nat.le_refl _) ?_
        exact hemit hlt (e0.mp c121) _ s1 he1 ⟨hR1, wE.to (fun i hi => by rw [emW_64]), by rw [emW_64]; exact wa, fun i hi => by rw [emW_64]; exact wh i hi, FrR.tr wF emW_fr, (emW_f (by decide)).trans w25⟩
      · refine g_goto (q := 219) dX7_bodies_141 (by decide) ?_
        refine g_vret rfl dX7_bodies_219 (Nat.le_refl _) (Nat.le_refl _) ?_
        exact hfull ⟨hlt, Or.inl ⟨e0.mp c121, he1⟩⟩ _ (FrR.tr wF (FrR.u (by omega))) uI_eq
  · refine g_aload_n (q := 94) dX7_bodies_93 rfl rfl ?_
    refine g_iconst (q := 95) (v := nI 0) dX7_bodies_94 rfl (by decide) ?_
    refine g_aload_n (q := 96) dX7_bodies_95 rfl rfl ?_
    refine gf_X7_44 (q := 99) rfl (by first | assumption | rfl) (by first | assumption | rfl) dX7_bodies_96 rfl ?_
    refine g_iload_n (q := 100) dX7_bodies_99 rfl rfl ?_
    refine g_bipush (q := 102) (v := nI 6) dX7_bodies_100 rfl (by decide) ?_
    refine g_iadd (q := 103) dX7_bodies_102 rfl ?_
    refine g_ialdn (q := 104) (by first | assumption | rfl) (by repeat' first | apply nI_a | apply nI_m | exact rfl) (by omega) dX7_bodies_103 rfl ?_
    rw [wa]
    refine k_X7_214 (q := 107) rfl (Nat.le_of_ble_eq_true rfl) (by first | assumption | rfl) dX7_bodies_104 rfl (c_ends (U := U) ?_ ?_)
    · exact wR.1
    refine g_goto (q := 219) dX7_bodies_107 (by decide) ?_
    refine g_vret rfl dX7_bodies_219 (Nat.le_refl _) (Nat.le_refl _) ?_
    exact hdone (by have : ¬ i < vln v m := fun z => c90 (nI_lt z (by omega)); omega) _ (AEnd.mk wR wh wF)
set_option maxRecDepth 100000 in
set_option maxHeartbeats 400000 in
theorem c_bo1 {d k : Nat} {I : Nat → Nat → Int32} {Q : Option Int32 → Wd → Prop} {p U m x mt i g : Nat} {v : Vv} {s : Rs} {go : Nat → Nat} {a0 : Int32} {r : Int32} (hp52 : p = 58 ∨ p = 60) (hsp : shn 68 p = (1, 92)) (hM : MRep I p 0 v) (hV : VOk v) (hm : m < vnm v) (hx : x < 10) (hi : i ≤ vln v m) (hU : U < 90) (hg : Gof g go) (hgo : ∀ z, z < 6 → go z < 1000) (hS : RS v I s (U + 1) go) (hE : Ent I U (nI 2) (nI m) (nI x) (nI mt) (nI i)) (hsum : I 64 (7 * U + 6) = a0) (hf : I 52 25 = nI 0) (hr : I 52 26 = r) (hfull : (i < vln v m ∧ ((vso v m i = 0 ∧ emF (vop v m i) s = none) ∨ (vso v m i = 1 ∧ 0 < x ∧ 300 ≤ s.2.1))) → ∀ J, FrR I J → J 52 29 = nI 1 → Q none (J, RR k)) (hdone : i = vln v m → ∀ J, AEnd v I J s U go 0 (a0 + r) → Q none (J, RR k)) (hemit : i < vln v m → vso v m i = 0 → ∀ J s1, emF (vop v m i) s = some s1 → BGo v I J s1 U go m x mt (i + 1) (a0 + r) → Q none (J, RR k)) (hfail : i < vln v m → vso v m i = 2 → ∀ J, AEnd v I J s U go (vop v m i) (nI 0) → Q none (J, RR k)) (hnone : i < vln v m → vso v m i = 1 → x = 0 → ∀ J, BGo v I J s U go m x mt (i + 1) (a0 + r) → Q none (J, RR k)) (hcall : i < vln v m → vso v m i = 1 → 0 < x → ¬ 300 ≤ s.2.1 → ∀ J, BCl v I J (s.1, s.2.1 + 1, upC s.2.2 (vop v m i)) U (upC go (vop v m i)) m x mt (i + 1) (a0 + r) (vop v m i) (x - 1) (meantF v (vop v m i) (x - 1) (g ||| 1 <<< vop v m i)) → Q none (J, RR k)) : Ex (d + 4) 0 0 mX7_bodies [.ref 52, .ref p, .int (nI (7 * U)), .int (nI 1)] 68 (I, RR k) 68 Q := by
  obtain ⟨v1, v2, v3, v4⟩ := id hV
  have k4 := (v3 m hm).2.1

  refine ex_intro (L0 := [.ref 52, .ref p, .int (nI (7 * U)), .int (nI 1), .null, .null]) (by decide +kernel) rfl rfl (Nat.le_of_ble_eq_true rfl) rfl ?_
  refine g_iload_n (q := 1) dX7_bodies_0 rfl rfl ?_
  refine g_if_eq (tgt := 21) (q := 4) dX7_bodies_1 (by decide) rfl (fun c1 => absurd c1 (by decide)) (fun _ => ?_)
  refine g_aload_n (q := 5) dX7_bodies_4 rfl rfl ?_
  refine gf_X7_204 (q := 8) rfl (by first | assumption | rfl) dX7_bodies_5 rfl ?_
  rw [hf]
  refine g_if_le (tgt := 21) (q := 11) dX7_bodies_8 (by decide) rfl (fun _ => ?_) (fun c8 => absurd c8 (by decide))
  refine g_aload_n (q := 22) dX7_bodies_21 rfl rfl ?_
  refine gf_X7_44 (q := 25) rfl (by first | assumption | rfl) (by first | assumption | rfl) dX7_bodies_22 rfl ?_
  refine g_iload_n (q := 26) dX7_bodies_25 rfl rfl ?_
  refine g_bipush (q := 28) (v := nI 6) dX7_bodies_26 rfl (by decide) ?_
  refine g_iadd (q := 29) dX7_bodies_28 rfl ?_
  refine g_dup2 (q := 30) dX7_bodies_29 rfl rfl rfl ?_
  refine g_ialdn (q := 31) (by first | assumption | rfl) (by repeat' first | apply nI_a | apply nI_m | exact rfl) (by omega) dX7_bodies_30 rfl ?_
  rw [hsum]
  refine g_iload_n (q := 32) dX7_bodies_31 rfl rfl ?_
  refine g_if_eq (tgt := 42) (q := 35) dX7_bodies_32 (by decide) rfl (fun c32 => absurd c32 (by decide)) (fun _ => ?_)
  refine g_aload_n (q := 36) dX7_bodies_35 rfl rfl ?_
  refine gf_X7_207 (q := 39) rfl (by first | assumption | rfl) dX7_bodies_36 rfl ?_
  rw [hr]
  refine g_goto (q := 43) dX7_bodies_39 (by decide) ?_
  refine g_iadd (q := 44) dX7_bodies_43 rfl ?_
  skip
  refine g_iastn (q := 45) (by first | assumption | rfl) (by repeat' first | apply nI_a | apply nI_m | exact rfl) (by omega) dX7_bodies_44 rfl ?_
  refine g_aload_n (q := 46) dX7_bodies_45 rfl rfl ?_
  refine gf_X7_44 (q := 49) rfl (by first | assumption | rfl) (by first | assumption | rfl) dX7_bodies_46 rfl ?_
  refine g_iload_n (q := 50) dX7_bodies_49 rfl rfl ?_
  refine g_iconst (q := 51) (v := nI 4) dX7_bodies_50 rfl (by decide) ?_
  refine g_iadd (q := 52) dX7_bodies_51 rfl ?_
  refine g_ialdn (q := 53) (by first | assumption | rfl) (by repeat' first | apply nI_a | apply nI_m | exact rfl) (by omega) dX7_bodies_52 rfl ?_
  rw [uI_n2 (by omega), hE.2.2.2.2]
  refine g_istore (q := 55) dX7_bodies_53 rfl (by decide) rfl rfl ?_
  refine g_iconst (q := 56) (v := nI 2) dX7_bodies_55 rfl (by decide) ?_
  refine g_bipush (q := 58) (v := nI 10) dX7_bodies_56 rfl (by decide) ?_
  refine g_aload_n (q := 59) dX7_bodies_58 rfl rfl ?_
  refine gf_X7_44 (q := 62) rfl (by first | assumption | rfl) (by first | assumption | rfl) dX7_bodies_59 rfl ?_
  refine g_iload_n (q := 63) dX7_bodies_62 rfl rfl ?_
  refine g_iconst (q := 64) (v := nI 1) dX7_bodies_63 rfl (by decide) ?_
  refine g_iadd (q := 65) dX7_bodies_64 rfl ?_
  refine g_ialdn (q := 66) (by first | assumption | rfl) (by repeat' first | apply nI_a | apply nI_m | exact rfl) (by omega) dX7_bodies_65 rfl ?_
  rw [uI_n2 (by omega), hE.2.1]
  refine g_imul (q := 67) dX7_bodies_66 rfl ?_
  refine g_iadd (q := 68) dX7_bodies_67 rfl ?_
  rw [show nI 2 + nI 10 * nI m = nI (2 + 10 * m) from nI_a rfl (nI_m rfl rfl)]
  refine g_istore (q := 70) dX7_bodies_68 rfl (by decide) rfl rfl ?_
  refine g_aload_n (q := 71) dX7_bodies_70 rfl rfl ?_
  refine gf_X7_44 (q := 74) rfl (by first | assumption | rfl) (by first | assumption | rfl) dX7_bodies_71 rfl ?_
  refine g_iload_n (q := 75) dX7_bodies_74 rfl rfl ?_
  refine g_iconst (q := 76) (v := nI 4) dX7_bodies_75 rfl (by decide) ?_
  refine g_iadd (q := 77) dX7_bodies_76 rfl ?_
  refine g_dup2 (q := 78) dX7_bodies_77 rfl rfl rfl ?_
  refine g_ialdn (q := 79) (by first | assumption | rfl) (by repeat' first | apply nI_a | apply nI_m | exact rfl) (by omega) dX7_bodies_78 rfl ?_
  rw [uI_n2 (by omega), hE.2.2.2.2]
  refine g_iconst (q := 80) (v := nI 1) dX7_bodies_79 rfl (by decide) ?_
  refine g_iadd (q := 81) dX7_bodies_80 rfl ?_
  rw [nI_add]
  refine g_iastn (q := 82) (by first | assumption | rfl) (by repeat' first | apply nI_a | apply nI_m | exact rfl) (by omega) dX7_bodies_81 rfl ?_
  obtain ⟨W, hW⟩ : ∃ W, W = uI (uI I 64 (7 * U + 6) (a0 + r)) 64 (7 * U + 4) (nI (i + 1)) := ⟨_, rfl⟩
  rw [← hW]
  have w64 : ∀ i, i ≠ 7 * U + 4 → i ≠ 7 * U + 6 → W 64 i = I 64 i := fun i h1 h2 => by rw [hW, uI_n2 h1, uI_n2 h2]
  have wE : Ent W U (nI 2) (nI m) (nI x) (nI mt) (nI (i + 1)) := ⟨(w64 _ (by omega) (by omega)).trans hE.1, (w64 _ (by omega) (by omega)).trans hE.2.1, (w64 _ (by omega) (by omega)).trans hE.2.2.1, (w64 _ (by omega) (by omega)).trans hE.2.2.2.1, by rw [hW, uI_eq]⟩
  have wa : W 64 (7 * U + 6) = a0 + r := by rw [hW, uI_n2 (by omega), uI_eq]
  have wh : ∀ i, i < 7 * U → W 64 i = I 64 i := fun i hi => w64 i (by omega) (by omega)
  have wF : FrR I W := by rw [hW]; exact FrR.tr (FrR.u (Or.inl rfl)) (FrR.u (Or.inl rfl))
  have wM : MRep W p 0 v := hM.eq (wF.1 p (by omega) (by omega) (by omega) (by omega))
  have b52 : W 52 = I 52 := by rw [hW, uI_ne (by decide), uI_ne (by decide)]
  have w25 : W 52 25 = I 52 25 := by rw [b52]
  have wR : RS v W s (U + 1) go := hS.eq (by rw [b52]; exact hS.1) (fun j hj => by rw [b52]) (by rw [hW, uI_ne (by decide), uI_ne (by decide)]) (by rw [hW, uI_ne (by decide), uI_ne (by decide)])
  refine g_iload (q := 84) dX7_bodies_82 rfl rfl ?_
  refine g_aload_n (q := 85) dX7_bodies_84 rfl rfl ?_
  refine g_iload (q := 87) dX7_bodies_85 rfl rfl ?_
  refine g_iconst (q := 88) (v := nI 1) dX7_bodies_87 rfl (by decide) ?_
  refine g_iadd (q := 89) dX7_bodies_88 rfl ?_
  refine g_ialdn (q := 90) (by first | assumption | rfl) (by repeat' first | apply nI_a | apply nI_m | exact rfl) (by omega) dX7_bodies_89 rfl ?_
  rw [wM.ln hm]
  refine g_icmp_lt (tgt := 110) (q := 93) dX7_bodies_90 (by decide) rfl (fun c90 => ?_) (fun c90 => ?_)
  · have hlt : i < vln v m := (nI_ltI (by omega) (by omega)).mp c90
    have hok := (v3 m hm).2.2 i hlt
    have e0 : nI (vso v m i) = 0 ↔ vso v m i = 0 := nI_eq (b := 0) (by omega) (by omega)
    have e2 : nI (vso v m i) = nI 2 ↔ vso v m i = 2 := nI_eq (by omega) (by omega)
    refine g_aload_n (q := 111) dX7_bodies_110 rfl rfl ?_
    refine g_iload (q := 113) dX7_bodies_111 rfl rfl ?_
    refine g_iconst (q := 114) (v := nI 2) dX7_bodies_113 rfl (by decide) ?_
    refine g_iadd (q := 115) dX7_bodies_114 rfl ?_
    refine g_iconst (q := 116) (v := nI 2) dX7_bodies_115 rfl (by decide) ?_
    refine g_iload (q := 118) dX7_bodies_116 rfl rfl ?_
    refine g_imul (q := 119) dX7_bodies_118 rfl ?_
    refine g_iadd (q := 120) dX7_bodies_119 rfl ?_
    refine g_ialdn (q := 121) (by first | assumption | rfl) (by repeat' first | apply nI_a | apply nI_m | exact rfl) (by omega) dX7_bodies_120 rfl ?_
    rw [wM.so hm hlt]
    refine g_if_ne (tgt := 144) (q := 124) dX7_bodies_121 (by decide) rfl (fun c121 => ?_) (fun c121 => ?_)
    · refine g_aload_n (q := 145) dX7_bodies_144 rfl rfl ?_
      refine g_iload (q := 147) dX7_bodies_145 rfl rfl ?_
      refine g_iconst (q := 148) (v := nI 2) dX7_bodies_147 rfl (by decide) ?_
      refine g_iadd (q := 149) dX7_bodies_148 rfl ?_
      refine g_iconst (q := 150) (v := nI 2) dX7_bodies_149 rfl (by decide) ?_
      refine g_iload (q := 152) dX7_bodies_150 rfl rfl ?_
      refine g_imul (q := 153) dX7_bodies_152 rfl ?_
      refine g_iadd (q := 154) dX7_bodies_153 rfl ?_
      refine g_ialdn (q := 155) (by first | assumption | rfl) (by repeat' first | apply nI_a | apply nI_m | exact rfl) (by omega) dX7_bodies_154 rfl ?_
      rw [wM.so hm hlt]
      refine g_iconst (q := 156) (v := nI 2) dX7_bodies_155 rfl (by decide) ?_
      refine g_icmp_ne (tgt := 180) (q := 159) dX7_bodies_156 (by decide) rfl (fun c156 => ?_) (fun c156 => ?_)
      · have e1 : vso v m i = 1 := by have h0 : ¬ vso v m i = 0 := fun z => c121 (e0.mpr z); have h2 : ¬ vso v m i = 2 := fun z => c156 (e2.mpr z); omega
        have hm2 := hok.2.2.1 e1
        refine g_aload_n (q := 181) dX7_bodies_180 rfl rfl ?_
        refine gf_X7_44 (q := 184) rfl (by first | assumption | rfl) (by first | assumption | rfl) dX7_bodies_181 rfl ?_
        refine g_iload_n (q := 185) dX7_bodies_184 rfl rfl ?_
        refine g_iconst (q := 186) (v := nI 2) dX7_bodies_185 rfl (by decide) ?_
        refine g_iadd (q := 187) dX7_bodies_186 rfl ?_
        refine g_ialdn (q := 188) (by first | assumption | rfl) (by repeat' first | apply nI_a | apply nI_m | exact rfl) (by omega) dX7_bodies_187 rfl ?_
        rw [wE.2.2.1]
        refine g_if_le (tgt := 219) (q := 191) dX7_bodies_188 (by decide) rfl (fun c188 => ?_) (fun c188 => ?_)
        · refine g_vret rfl dX7_bodies_219 (Nat.le_refl _) (Nat.le_refl _) ?_
          exact hnone hlt e1 (by have : nI x ≤ nI 0 := c188; have := (nI_leI (by omega) (by omega)).mp this; omega) _ ⟨wR, wE, wa, wh, wF, w25⟩
        · have hx0 : 0 < x := by apply Nat.pos_of_ne_zero; intro z; rw [z] at c188; exact c188 (by decide)
          refine g_aload_n (q := 192) dX7_bodies_191 rfl rfl ?_
          refine g_aload_n (q := 193) dX7_bodies_192 rfl rfl ?_
          refine g_aload_n (q := 194) dX7_bodies_193 rfl rfl ?_
          refine g_iload (q := 196) dX7_bodies_194 rfl rfl ?_
          refine g_iconst (q := 197) (v := nI 2) dX7_bodies_196 rfl (by decide) ?_
          refine g_iadd (q := 198) dX7_bodies_197 rfl ?_
          refine g_iconst (q := 199) (v := nI 2) dX7_bodies_198 rfl (by decide) ?_
          refine g_iload (q := 201) dX7_bodies_199 rfl rfl ?_
          refine g_imul (q := 202) dX7_bodies_201 rfl ?_
          refine g_iadd (q := 203) dX7_bodies_202 rfl ?_
          refine g_iconst (q := 204) (v := nI 1) dX7_bodies_203 rfl (by decide) ?_
          refine g_iadd (q := 205) dX7_bodies_204 rfl ?_
          refine g_ialdn (q := 206) (by first | assumption | rfl) (by repeat' first | apply nI_a | apply nI_m | exact rfl) (by omega) dX7_bodies_205 rfl ?_
          rw [wM.op hm hlt]
          refine g_aload_n (q := 207) dX7_bodies_206 rfl rfl ?_
          refine gf_X7_44 (q := 210) rfl (by first | assumption | rfl) (by first | assumption | rfl) dX7_bodies_207 rfl ?_
          refine g_iload_n (q := 211) dX7_bodies_210 rfl rfl ?_
          refine g_iconst (q := 212) (v := nI 2) dX7_bodies_211 rfl (by decide) ?_
          refine g_iadd (q := 213) dX7_bodies_212 rfl ?_
          refine g_ialdn (q := 214) (by first | assumption | rfl) (by repeat' first | apply nI_a | apply nI_m | exact rfl) (by omega) dX7_bodies_213 rfl ?_
          rw [wE.2.2.1]
          refine g_iconst (q := 215) (v := nI 1) dX7_bodies_214 rfl (by decide) ?_
          refine g_isub (q := 216) dX7_bodies_215 rfl ?_
          rw [nI_pr (by omega)]
          refine k_X7_218 (q := 219) rfl (Nat.le_of_ble_eq_true rfl) (by first | assumption | rfl) dX7_bodies_216 rfl (c_X7_callsBy (g := g) hp52 hsp wM hV hm2 (by omega) wR (by omega) hg hgo (fun h3 => ?_) (fun h3 J h4 h5 h6 h7 h8 q5 q6 q7 => ?_))
          · refine g_vret rfl dX7_bodies_219 (Nat.le_refl _) (Nat.le_refl _) ?_
            exact hfull ⟨hlt, Or.inr ⟨e1, hx0, h3⟩⟩ _ (FrR.tr wF (FrR.u (by omega))) uI_eq
          · refine g_vret rfl dX7_bodies_219 (Nat.le_refl _) (Nat.le_refl _) ?_
            refine hcall hlt e1 hx0 h3 J ⟨h4, wE.to (fun i hi => q5 _ (by omega)), (q5 _ (by omega)).trans wa, h5, h6, h7, h8, fun i hi => (q5 i (by omega)).trans (wh i hi), FrR.tr wF q6, q7.trans w25⟩
      · refine g_aload_n (q := 160) dX7_bodies_159 rfl rfl ?_
        refine g_aload_n (q := 161) dX7_bodies_160 rfl rfl ?_
        refine g_iload (q := 163) dX7_bodies_161 rfl rfl ?_
        refine g_iconst (q := 164) (v := nI 2) dX7_bodies_163 rfl (by decide) ?_
        refine g_iadd (q := 165) dX7_bodies_164 rfl ?_
        refine g_iconst (q := 166) (v := nI 2) dX7_bodies_165 rfl (by decide) ?_
        refine g_iload (q := 168) dX7_bodies_166 rfl rfl ?_
        refine g_imul (q := 169) dX7_bodies_168 rfl ?_
        refine g_iadd (q := 170) dX7_bodies_169 rfl ?_
        refine g_iconst (q := 171) (v := nI 1) dX7_bodies_170 rfl (by decide) ?_
        refine g_iadd (q := 172) dX7_bodies_171 rfl ?_
        refine g_ialdn (q := 173) (by first | assumption | rfl) (by repeat' first | apply nI_a | apply nI_m | exact rfl) (by omega) dX7_bodies_172 rfl ?_
        rw [wM.op hm hlt]
        refine g_iconst (q := 174) (v := nI 0) dX7_bodies_173 rfl (by decide) ?_
        refine k_X7_214 (q := 177) rfl (Nat.le_of_ble_eq_true rfl) (by first | assumption | rfl) dX7_bodies_174 rfl (c_ends (U := U) ?_ ?_)
        · exact wR.1
        refine g_goto (q := 219) dX7_bodies_177 (by decide) ?_
        refine g_vret rfl dX7_bodies_219 (Nat.le_refl _) (Nat.le_refl _) ?_
        exact hfail hlt (e2.mp c156) _ (AEnd.mk wR wh wF)
    · refine g_aload_n (q := 125) dX7_bodies_124 rfl rfl ?_
      refine g_aload_n (q := 126) dX7_bodies_125 rfl rfl ?_
      refine g_iload (q := 128) dX7_bodies_126 rfl rfl ?_
      refine g_iconst (q := 129) (v := nI 2) dX7_bodies_128 rfl (by decide) ?_
      refine g_iadd (q := 130) dX7_bodies_129 rfl ?_
      refine g_iconst (q := 131) (v := nI 2) dX7_bodies_130 rfl (by decide) ?_
      refine g_iload (q := 133) dX7_bodies_131 rfl rfl ?_
      refine g_imul (q := 134) dX7_bodies_133 rfl ?_
      refine g_iadd (q := 135) dX7_bodies_134 rfl ?_
      refine g_iconst (q := 136) (v := nI 1) dX7_bodies_135 rfl (by decide) ?_
      refine g_iadd (q := 137) dX7_bodies_136 rfl ?_
      refine g_ialdn (q := 138) (by first | assumption | rfl) (by repeat' first | apply nI_a | apply nI_m | exact rfl) (by omega) dX7_bodies_137 rfl ?_
      rw [wM.op hm hlt]
      refine k_X7_210 (q := 141) rfl (Nat.le_of_ble_eq_true rfl) (by first | assumption | rfl) dX7_bodies_138 rfl (c_emS wR (fun s1 he1 hR1 => ?_) (fun he1 => ?_))
      · refine g_goto (q := 219) dX7_bodies_141 (by decide) ?_
        refine g_vret rfl dX7_bodies_219 (Nat.le_refl _) (Nat.le_refl _) ?_
        exact hemit hlt (e0.mp c121) _ s1 he1 ⟨hR1, wE.to (fun i hi => by rw [emW_64]), by rw [emW_64]; exact wa, fun i hi => by rw [emW_64]; exact wh i hi, FrR.tr wF emW_fr, (emW_f (by decide)).trans w25⟩
      · refine g_goto (q := 219) dX7_bodies_141 (by decide) ?_
        refine g_vret rfl dX7_bodies_219 (Nat.le_refl _) (Nat.le_refl _) ?_
        exact hfull ⟨hlt, Or.inl ⟨e0.mp c121, he1⟩⟩ _ (FrR.tr wF (FrR.u (by omega))) uI_eq
  · refine g_aload_n (q := 94) dX7_bodies_93 rfl rfl ?_
    refine g_iconst (q := 95) (v := nI 0) dX7_bodies_94 rfl (by decide) ?_
    refine g_aload_n (q := 96) dX7_bodies_95 rfl rfl ?_
    refine gf_X7_44 (q := 99) rfl (by first | assumption | rfl) (by first | assumption | rfl) dX7_bodies_96 rfl ?_
    refine g_iload_n (q := 100) dX7_bodies_99 rfl rfl ?_
    refine g_bipush (q := 102) (v := nI 6) dX7_bodies_100 rfl (by decide) ?_
    refine g_iadd (q := 103) dX7_bodies_102 rfl ?_
    refine g_ialdn (q := 104) (by first | assumption | rfl) (by repeat' first | apply nI_a | apply nI_m | exact rfl) (by omega) dX7_bodies_103 rfl ?_
    rw [wa]
    refine k_X7_214 (q := 107) rfl (Nat.le_of_ble_eq_true rfl) (by first | assumption | rfl) dX7_bodies_104 rfl (c_ends (U := U) ?_ ?_)
    · exact wR.1
    refine g_goto (q := 219) dX7_bodies_107 (by decide) ?_
    refine g_vret rfl dX7_bodies_219 (Nat.le_refl _) (Nat.le_refl _) ?_
    exact hdone (by have : ¬ i < vln v m := fun z => c90 (nI_lt z (by omega)); omega) _ (AEnd.mk wR wh wF)
set_option maxRecDepth 100000 in
set_option maxHeartbeats 400000 in
theorem c_bo_bf {d k : Nat} {I : Nat → Nat → Int32} {Q : Option Int32 → Wd → Prop} {p U f : Nat} {v : Vv} {s : Rs} {go : Nat → Nat} (hS : RS v I s (U + 1) go) (hf : I 52 25 = nI f) (hf0 : 0 < f) (hf9 : f < 10) (h : ∀ J, AEnd v I J s U go f (nI 0) → Q none (J, RR k)) : Ex (d + 4) 0 0 mX7_bodies [.ref 52, .ref p, .int (nI (7 * U)), .int (nI 1)] 68 (I, RR k) 68 Q := by
  refine ex_intro (L0 := [.ref 52, .ref p, .int (nI (7 * U)), .int (nI 1), .null, .null]) (by decide +kernel) rfl rfl (Nat.le_of_ble_eq_true rfl) rfl ?_
  refine g_iload_n (q := 1) dX7_bodies_0 rfl rfl ?_
  refine g_if_eq (tgt := 21) (q := 4) dX7_bodies_1 (by decide) rfl (fun c1 => absurd c1 (by decide)) (fun _ => ?_)
  refine g_aload_n (q := 5) dX7_bodies_4 rfl rfl ?_
  refine gf_X7_204 (q := 8) rfl (by first | assumption | rfl) dX7_bodies_5 rfl ?_
  rw [hf]
  refine g_if_le (tgt := 21) (q := 11) dX7_bodies_8 (by decide) rfl (fun c8 => absurd c8 (nI_nle (by omega) (by omega))) (fun _ => ?_)
  refine g_aload_n (q := 12) dX7_bodies_11 rfl rfl ?_
  refine g_aload_n (q := 13) dX7_bodies_12 rfl rfl ?_
  refine gf_X7_204 (q := 16) rfl (by first | assumption | rfl) dX7_bodies_13 rfl ?_
  rw [hf]
  refine g_iconst (q := 17) (v := nI 0) dX7_bodies_16 rfl (by decide) ?_
  refine k_X7_214 (q := 20) rfl (Nat.le_of_ble_eq_true rfl) (by first | assumption | rfl) dX7_bodies_17 rfl (c_ends (U := U) ?_ ?_)
  · exact hS.1
  refine g_vret rfl dX7_bodies_20 (Nat.le_refl _) (Nat.le_refl _) ?_
  exact h _ (AEnd.mk hS (fun _ _ => rfl) FrR.rf)
/-- at the head of the loop -/
def LH (D k p : Nat) (Z : Zt) (l2 l3 : Int32) (I : Nat → Nat → Int32) (had : Nat) (u5 u6 : Value) : Prop := G mX7_runs (rmd D 0 0) Z 68 72 [.ref 52, .ref p, .int l2, .int l3, .int (nI had), u5, u6] [] 68 (I, RR k) 0 0

set_option maxRecDepth 100000 in
set_option maxHeartbeats 400000 in
theorem l_ab0 {d k p U had : Nat} {Z : Zt} {l2 l3 : Int32} {u5 u6 : Value} {I : Nat → Nat → Int32} (htop : I 52 21 = nI (U + 1)) (hfu : I 52 29 = nI 0) (hw : I 64 (7 * U) = nI 1) (hU : U < 100) (hb : had ≤ U + 1) (h : ∀ Q : Option Int32 → Wd → Prop, (∀ J, LH (d + 5) k p Z l2 l3 J (U + 1) (.int (nI 0)) (.int (nI (7 * U))) → Q none (J, RR k)) → Ex (d + 4) 0 0 mX7_abouts [.ref 52, .ref p, .int (nI (7 * U)), .int (nI 0)] 68 (I, RR k) 68 Q) : LH (d + 5) k p Z l2 l3 I had u5 u6 := by
  unfold LH at *
  refine g_aload_n (q := 73) dX7_runs_72 rfl rfl ?_
  refine gf_X7_183 (q := 76) rfl (by first | assumption | rfl) dX7_runs_73 rfl ?_
  rw [htop]
  refine g_if_le (tgt := 201) (q := 79) dX7_runs_76 (by decide) rfl (fun c76 => absurd c76 (nI_nle (by omega) (by omega))) (fun _ => ?_)
  refine g_aload_n (q := 80) dX7_runs_79 rfl rfl ?_
  refine gf_X7_179 (q := 83) rfl (by first | assumption | rfl) dX7_runs_80 rfl ?_
  rw [hfu]
  refine g_if_ne (tgt := 201) (q := 86) dX7_runs_83 (by decide) rfl (fun c83 => absurd c83 (by decide)) (fun _ => ?_)
  refine g_aload_n (q := 87) dX7_runs_86 rfl rfl ?_
  refine gf_X7_183 (q := 90) rfl (by first | assumption | rfl) dX7_runs_87 rfl ?_
  rw [htop]
  refine g_iload (q := 92) dX7_runs_90 rfl rfl ?_
  refine g_icmp_ge (tgt := 99) (q := 95) dX7_runs_92 (by decide) rfl (fun _ => ?_) (fun c92 => absurd (nI_le (by omega) (by omega)) c92)
  refine g_iconst (q := 100) (v := nI 0) dX7_runs_99 rfl (by decide) ?_
  refine g_istore (q := 102) dX7_runs_100 rfl (by decide) rfl rfl ?_
  refine g_aload_n (q := 103) dX7_runs_102 rfl rfl ?_
  refine gf_X7_183 (q := 106) rfl (by first | assumption | rfl) dX7_runs_103 rfl ?_
  rw [htop]
  refine g_istore (q := 108) dX7_runs_106 rfl (by decide) rfl rfl ?_
  refine g_bipush (q := 110) (v := nI 7) dX7_runs_108 rfl (by decide) ?_
  refine g_aload_n (q := 111) dX7_runs_110 rfl rfl ?_
  refine gf_X7_183 (q := 114) rfl (by first | assumption | rfl) dX7_runs_111 rfl ?_
  rw [htop]
  refine g_iconst (q := 115) (v := nI 1) dX7_runs_114 rfl (by decide) ?_
  refine g_isub (q := 116) dX7_runs_115 rfl ?_
  rw [show nI (U + 1) - nI 1 = nI U from nI_pred U]
  refine g_imul (q := 117) dX7_runs_116 rfl ?_
  rw [show nI 7 * nI U = nI (7 * U) from nI_m rfl rfl]
  refine g_istore (q := 119) dX7_runs_117 rfl (by decide) rfl rfl ?_
  refine g_aload_n (q := 120) dX7_runs_119 rfl rfl ?_
  refine gf_X7_44 (q := 123) rfl (by first | assumption | rfl) (by first | assumption | rfl) dX7_runs_120 rfl ?_
  refine g_iload (q := 125) dX7_runs_123 rfl rfl ?_
  refine g_iconst (q := 126) (v := nI 0) dX7_runs_125 rfl (by decide) ?_
  refine g_iadd (q := 127) dX7_runs_126 rfl ?_
  refine g_ialdn (q := 128) (by first | assumption | rfl) (by repeat' first | apply nI_a | apply nI_m | exact rfl) (by omega) dX7_runs_127 rfl ?_
  rw [show 7 * U + 0 = 7 * U from rfl, hw]
  refine g_if_ne (tgt := 164) (q := 131) dX7_runs_128 (by decide) rfl (fun _ => ?_) (fun c128 => absurd c128 (by decide))
  refine g_aload_n (q := 165) dX7_runs_164 rfl rfl ?_
  refine gf_X7_44 (q := 168) rfl (by first | assumption | rfl) (by first | assumption | rfl) dX7_runs_165 rfl ?_
  refine g_iload (q := 170) dX7_runs_168 rfl rfl ?_
  refine g_iconst (q := 171) (v := nI 0) dX7_runs_170 rfl (by decide) ?_
  refine g_iadd (q := 172) dX7_runs_171 rfl ?_
  refine g_ialdn (q := 173) (by first | assumption | rfl) (by repeat' first | apply nI_a | apply nI_m | exact rfl) (by omega) dX7_runs_172 rfl ?_
  rw [show 7 * U + 0 = 7 * U from rfl, hw]
  refine g_iconst (q := 174) (v := nI 1) dX7_runs_173 rfl (by decide) ?_
  refine g_icmp_ne (tgt := 189) (q := 177) dX7_runs_174 (by decide) rfl (fun c174 => absurd c174 (by decide)) (fun _ => ?_)
  refine g_aload_n (q := 178) dX7_runs_177 rfl rfl ?_
  refine g_aload_n (q := 179) dX7_runs_178 rfl rfl ?_
  refine g_iload (q := 181) dX7_runs_179 rfl rfl ?_
  refine g_iload (q := 183) dX7_runs_181 rfl rfl ?_
  refine k_X7_222 (q := 186) rfl (Nat.le_of_ble_eq_true rfl) (by first | assumption | rfl) dX7_runs_183 rfl (?_)
  refine h _ (fun J hJ => ?_)
  refine g_goto (q := 198) dX7_runs_186 (by decide) ?_
  refine g_goto (q := 72) dX7_runs_198 (by decide) ?_
  exact hJ
set_option maxRecDepth 100000 in
set_option maxHeartbeats 400000 in
theorem l_ab1 {d k p U had : Nat} {Z : Zt} {l2 l3 : Int32} {u5 u6 : Value} {I : Nat → Nat → Int32} (htop : I 52 21 = nI (U + 1)) (hfu : I 52 29 = nI 0) (hw : I 64 (7 * U) = nI 1) (hU : U < 100) (hb : had = U + 2) (h : ∀ Q : Option Int32 → Wd → Prop, (∀ J, LH (d + 5) k p Z l2 l3 J (U + 1) (.int (nI 1)) (.int (nI (7 * U))) → Q none (J, RR k)) → Ex (d + 4) 0 0 mX7_abouts [.ref 52, .ref p, .int (nI (7 * U)), .int (nI 1)] 68 (I, RR k) 68 Q) : LH (d + 5) k p Z l2 l3 I had u5 u6 := by
  subst hb
  unfold LH at *
  refine g_aload_n (q := 73) dX7_runs_72 rfl rfl ?_
  refine gf_X7_183 (q := 76) rfl (by first | assumption | rfl) dX7_runs_73 rfl ?_
  rw [htop]
  refine g_if_le (tgt := 201) (q := 79) dX7_runs_76 (by decide) rfl (fun c76 => absurd c76 (nI_nle (by omega) (by omega))) (fun _ => ?_)
  refine g_aload_n (q := 80) dX7_runs_79 rfl rfl ?_
  refine gf_X7_179 (q := 83) rfl (by first | assumption | rfl) dX7_runs_80 rfl ?_
  rw [hfu]
  refine g_if_ne (tgt := 201) (q := 86) dX7_runs_83 (by decide) rfl (fun c83 => absurd c83 (by decide)) (fun _ => ?_)
  refine g_aload_n (q := 87) dX7_runs_86 rfl rfl ?_
  refine gf_X7_183 (q := 90) rfl (by first | assumption | rfl) dX7_runs_87 rfl ?_
  rw [htop]
  refine g_iload (q := 92) dX7_runs_90 rfl rfl ?_
  refine g_icmp_ge (tgt := 99) (q := 95) dX7_runs_92 (by decide) rfl (fun c92 => absurd c92 (nI_ge (by omega) (by omega))) (fun _ => ?_)
  refine g_iconst (q := 96) (v := nI 1) dX7_runs_95 rfl (by decide) ?_
  refine g_goto (q := 100) dX7_runs_96 (by decide) ?_
  refine g_istore (q := 102) dX7_runs_100 rfl (by decide) rfl rfl ?_
  refine g_aload_n (q := 103) dX7_runs_102 rfl rfl ?_
  refine gf_X7_183 (q := 106) rfl (by first | assumption | rfl) dX7_runs_103 rfl ?_
  rw [htop]
  refine g_istore (q := 108) dX7_runs_106 rfl (by decide) rfl rfl ?_
  refine g_bipush (q := 110) (v := nI 7) dX7_runs_108 rfl (by decide) ?_
  refine g_aload_n (q := 111) dX7_runs_110 rfl rfl ?_
  refine gf_X7_183 (q := 114) rfl (by first | assumption | rfl) dX7_runs_111 rfl ?_
  rw [htop]
  refine g_iconst (q := 115) (v := nI 1) dX7_runs_114 rfl (by decide) ?_
  refine g_isub (q := 116) dX7_runs_115 rfl ?_
  rw [show nI (U + 1) - nI 1 = nI U from nI_pred U]
  refine g_imul (q := 117) dX7_runs_116 rfl ?_
  rw [show nI 7 * nI U = nI (7 * U) from nI_m rfl rfl]
  refine g_istore (q := 119) dX7_runs_117 rfl (by decide) rfl rfl ?_
  refine g_aload_n (q := 120) dX7_runs_119 rfl rfl ?_
  refine gf_X7_44 (q := 123) rfl (by first | assumption | rfl) (by first | assumption | rfl) dX7_runs_120 rfl ?_
  refine g_iload (q := 125) dX7_runs_123 rfl rfl ?_
  refine g_iconst (q := 126) (v := nI 0) dX7_runs_125 rfl (by decide) ?_
  refine g_iadd (q := 127) dX7_runs_126 rfl ?_
  refine g_ialdn (q := 128) (by first | assumption | rfl) (by repeat' first | apply nI_a | apply nI_m | exact rfl) (by omega) dX7_runs_127 rfl ?_
  rw [show 7 * U + 0 = 7 * U from rfl, hw]
  refine g_if_ne (tgt := 164) (q := 131) dX7_runs_128 (by decide) rfl (fun _ => ?_) (fun c128 => absurd c128 (by decide))
  refine g_aload_n (q := 165) dX7_runs_164 rfl rfl ?_
  refine gf_X7_44 (q := 168) rfl (by first | assumption | rfl) (by first | assumption | rfl) dX7_runs_165 rfl ?_
  refine g_iload (q := 170) dX7_runs_168 rfl rfl ?_
  refine g_iconst (q := 171) (v := nI 0) dX7_runs_170 rfl (by decide) ?_
  refine g_iadd (q := 172) dX7_runs_171 rfl ?_
  refine g_ialdn (q := 173) (by first | assumption | rfl) (by repeat' first | apply nI_a | apply nI_m | exact rfl) (by omega) dX7_runs_172 rfl ?_
  rw [show 7 * U + 0 = 7 * U from rfl, hw]
  refine g_iconst (q := 174) (v := nI 1) dX7_runs_173 rfl (by decide) ?_
  refine g_icmp_ne (tgt := 189) (q := 177) dX7_runs_174 (by decide) rfl (fun c174 => absurd c174 (by decide)) (fun _ => ?_)
  refine g_aload_n (q := 178) dX7_runs_177 rfl rfl ?_
  refine g_aload_n (q := 179) dX7_runs_178 rfl rfl ?_
  refine g_iload (q := 181) dX7_runs_179 rfl rfl ?_
  refine g_iload (q := 183) dX7_runs_181 rfl rfl ?_
  refine k_X7_222 (q := 186) rfl (Nat.le_of_ble_eq_true rfl) (by first | assumption | rfl) dX7_runs_183 rfl (?_)
  refine h _ (fun J hJ => ?_)
  refine g_goto (q := 198) dX7_runs_186 (by decide) ?_
  refine g_goto (q := 72) dX7_runs_198 (by decide) ?_
  exact hJ
set_option maxRecDepth 100000 in
set_option maxHeartbeats 400000 in
theorem l_bo0 {d k p U had : Nat} {Z : Zt} {l2 l3 : Int32} {u5 u6 : Value} {I : Nat → Nat → Int32} (htop : I 52 21 = nI (U + 1)) (hfu : I 52 29 = nI 0) (hw : I 64 (7 * U) = nI 2) (hU : U < 100) (hb : had ≤ U + 1) (h : ∀ Q : Option Int32 → Wd → Prop, (∀ J, LH (d + 5) k p Z l2 l3 J (U + 1) (.int (nI 0)) (.int (nI (7 * U))) → Q none (J, RR k)) → Ex (d + 4) 0 0 mX7_bodies [.ref 52, .ref p, .int (nI (7 * U)), .int (nI 0)] 68 (I, RR k) 68 Q) : LH (d + 5) k p Z l2 l3 I had u5 u6 := by
  unfold LH at *
  refine g_aload_n (q := 73) dX7_runs_72 rfl rfl ?_
  refine gf_X7_183 (q := 76) rfl (by first | assumption | rfl) dX7_runs_73 rfl ?_
  rw [htop]
  refine g_if_le (tgt := 201) (q := 79) dX7_runs_76 (by decide) rfl (fun c76 => absurd c76 (nI_nle (by omega) (by omega))) (fun _ => ?_)
  refine g_aload_n (q := 80) dX7_runs_79 rfl rfl ?_
  refine gf_X7_179 (q := 83) rfl (by first | assumption | rfl) dX7_runs_80 rfl ?_
  rw [hfu]
  refine g_if_ne (tgt := 201) (q := 86) dX7_runs_83 (by decide) rfl (fun c83 => absurd c83 (by decide)) (fun _ => ?_)
  refine g_aload_n (q := 87) dX7_runs_86 rfl rfl ?_
  refine gf_X7_183 (q := 90) rfl (by first | assumption | rfl) dX7_runs_87 rfl ?_
  rw [htop]
  refine g_iload (q := 92) dX7_runs_90 rfl rfl ?_
  refine g_icmp_ge (tgt := 99) (q := 95) dX7_runs_92 (by decide) rfl (fun _ => ?_) (fun c92 => absurd (nI_le (by omega) (by omega)) c92)
  refine g_iconst (q := 100) (v := nI 0) dX7_runs_99 rfl (by decide) ?_
  refine g_istore (q := 102) dX7_runs_100 rfl (by decide) rfl rfl ?_
  refine g_aload_n (q := 103) dX7_runs_102 rfl rfl ?_
  refine gf_X7_183 (q := 106) rfl (by first | assumption | rfl) dX7_runs_103 rfl ?_
  rw [htop]
  refine g_istore (q := 108) dX7_runs_106 rfl (by decide) rfl rfl ?_
  refine g_bipush (q := 110) (v := nI 7) dX7_runs_108 rfl (by decide) ?_
  refine g_aload_n (q := 111) dX7_runs_110 rfl rfl ?_
  refine gf_X7_183 (q := 114) rfl (by first | assumption | rfl) dX7_runs_111 rfl ?_
  rw [htop]
  refine g_iconst (q := 115) (v := nI 1) dX7_runs_114 rfl (by decide) ?_
  refine g_isub (q := 116) dX7_runs_115 rfl ?_
  rw [show nI (U + 1) - nI 1 = nI U from nI_pred U]
  refine g_imul (q := 117) dX7_runs_116 rfl ?_
  rw [show nI 7 * nI U = nI (7 * U) from nI_m rfl rfl]
  refine g_istore (q := 119) dX7_runs_117 rfl (by decide) rfl rfl ?_
  refine g_aload_n (q := 120) dX7_runs_119 rfl rfl ?_
  refine gf_X7_44 (q := 123) rfl (by first | assumption | rfl) (by first | assumption | rfl) dX7_runs_120 rfl ?_
  refine g_iload (q := 125) dX7_runs_123 rfl rfl ?_
  refine g_iconst (q := 126) (v := nI 0) dX7_runs_125 rfl (by decide) ?_
  refine g_iadd (q := 127) dX7_runs_126 rfl ?_
  refine g_ialdn (q := 128) (by first | assumption | rfl) (by repeat' first | apply nI_a | apply nI_m | exact rfl) (by omega) dX7_runs_127 rfl ?_
  rw [show 7 * U + 0 = 7 * U from rfl, hw]
  refine g_if_ne (tgt := 164) (q := 131) dX7_runs_128 (by decide) rfl (fun _ => ?_) (fun c128 => absurd c128 (by decide))
  refine g_aload_n (q := 165) dX7_runs_164 rfl rfl ?_
  refine gf_X7_44 (q := 168) rfl (by first | assumption | rfl) (by first | assumption | rfl) dX7_runs_165 rfl ?_
  refine g_iload (q := 170) dX7_runs_168 rfl rfl ?_
  refine g_iconst (q := 171) (v := nI 0) dX7_runs_170 rfl (by decide) ?_
  refine g_iadd (q := 172) dX7_runs_171 rfl ?_
  refine g_ialdn (q := 173) (by first | assumption | rfl) (by repeat' first | apply nI_a | apply nI_m | exact rfl) (by omega) dX7_runs_172 rfl ?_
  rw [show 7 * U + 0 = 7 * U from rfl, hw]
  refine g_iconst (q := 174) (v := nI 1) dX7_runs_173 rfl (by decide) ?_
  refine g_icmp_ne (tgt := 189) (q := 177) dX7_runs_174 (by decide) rfl (fun _ => ?_) (fun c174 => absurd c174 (by decide))
  refine g_aload_n (q := 190) dX7_runs_189 rfl rfl ?_
  refine g_aload_n (q := 191) dX7_runs_190 rfl rfl ?_
  refine g_iload (q := 193) dX7_runs_191 rfl rfl ?_
  refine g_iload (q := 195) dX7_runs_193 rfl rfl ?_
  refine k_X7_226 (q := 198) rfl (Nat.le_of_ble_eq_true rfl) (by first | assumption | rfl) dX7_runs_195 rfl (?_)
  refine h _ (fun J hJ => ?_)
  refine g_goto (q := 72) dX7_runs_198 (by decide) ?_
  exact hJ
set_option maxRecDepth 100000 in
set_option maxHeartbeats 400000 in
theorem l_bo1 {d k p U had : Nat} {Z : Zt} {l2 l3 : Int32} {u5 u6 : Value} {I : Nat → Nat → Int32} (htop : I 52 21 = nI (U + 1)) (hfu : I 52 29 = nI 0) (hw : I 64 (7 * U) = nI 2) (hU : U < 100) (hb : had = U + 2) (h : ∀ Q : Option Int32 → Wd → Prop, (∀ J, LH (d + 5) k p Z l2 l3 J (U + 1) (.int (nI 1)) (.int (nI (7 * U))) → Q none (J, RR k)) → Ex (d + 4) 0 0 mX7_bodies [.ref 52, .ref p, .int (nI (7 * U)), .int (nI 1)] 68 (I, RR k) 68 Q) : LH (d + 5) k p Z l2 l3 I had u5 u6 := by
  subst hb
  unfold LH at *
  refine g_aload_n (q := 73) dX7_runs_72 rfl rfl ?_
  refine gf_X7_183 (q := 76) rfl (by first | assumption | rfl) dX7_runs_73 rfl ?_
  rw [htop]
  refine g_if_le (tgt := 201) (q := 79) dX7_runs_76 (by decide) rfl (fun c76 => absurd c76 (nI_nle (by omega) (by omega))) (fun _ => ?_)
  refine g_aload_n (q := 80) dX7_runs_79 rfl rfl ?_
  refine gf_X7_179 (q := 83) rfl (by first | assumption | rfl) dX7_runs_80 rfl ?_
  rw [hfu]
  refine g_if_ne (tgt := 201) (q := 86) dX7_runs_83 (by decide) rfl (fun c83 => absurd c83 (by decide)) (fun _ => ?_)
  refine g_aload_n (q := 87) dX7_runs_86 rfl rfl ?_
  refine gf_X7_183 (q := 90) rfl (by first | assumption | rfl) dX7_runs_87 rfl ?_
  rw [htop]
  refine g_iload (q := 92) dX7_runs_90 rfl rfl ?_
  refine g_icmp_ge (tgt := 99) (q := 95) dX7_runs_92 (by decide) rfl (fun c92 => absurd c92 (nI_ge (by omega) (by omega))) (fun _ => ?_)
  refine g_iconst (q := 96) (v := nI 1) dX7_runs_95 rfl (by decide) ?_
  refine g_goto (q := 100) dX7_runs_96 (by decide) ?_
  refine g_istore (q := 102) dX7_runs_100 rfl (by decide) rfl rfl ?_
  refine g_aload_n (q := 103) dX7_runs_102 rfl rfl ?_
  refine gf_X7_183 (q := 106) rfl (by first | assumption | rfl) dX7_runs_103 rfl ?_
  rw [htop]
  refine g_istore (q := 108) dX7_runs_106 rfl (by decide) rfl rfl ?_
  refine g_bipush (q := 110) (v := nI 7) dX7_runs_108 rfl (by decide) ?_
  refine g_aload_n (q := 111) dX7_runs_110 rfl rfl ?_
  refine gf_X7_183 (q := 114) rfl (by first | assumption | rfl) dX7_runs_111 rfl ?_
  rw [htop]
  refine g_iconst (q := 115) (v := nI 1) dX7_runs_114 rfl (by decide) ?_
  refine g_isub (q := 116) dX7_runs_115 rfl ?_
  rw [show nI (U + 1) - nI 1 = nI U from nI_pred U]
  refine g_imul (q := 117) dX7_runs_116 rfl ?_
  rw [show nI 7 * nI U = nI (7 * U) from nI_m rfl rfl]
  refine g_istore (q := 119) dX7_runs_117 rfl (by decide) rfl rfl ?_
  refine g_aload_n (q := 120) dX7_runs_119 rfl rfl ?_
  refine gf_X7_44 (q := 123) rfl (by first | assumption | rfl) (by first | assumption | rfl) dX7_runs_120 rfl ?_
  refine g_iload (q := 125) dX7_runs_123 rfl rfl ?_
  refine g_iconst (q := 126) (v := nI 0) dX7_runs_125 rfl (by decide) ?_
  refine g_iadd (q := 127) dX7_runs_126 rfl ?_
  refine g_ialdn (q := 128) (by first | assumption | rfl) (by repeat' first | apply nI_a | apply nI_m | exact rfl) (by omega) dX7_runs_127 rfl ?_
  rw [show 7 * U + 0 = 7 * U from rfl, hw]
  refine g_if_ne (tgt := 164) (q := 131) dX7_runs_128 (by decide) rfl (fun _ => ?_) (fun c128 => absurd c128 (by decide))
  refine g_aload_n (q := 165) dX7_runs_164 rfl rfl ?_
  refine gf_X7_44 (q := 168) rfl (by first | assumption | rfl) (by first | assumption | rfl) dX7_runs_165 rfl ?_
  refine g_iload (q := 170) dX7_runs_168 rfl rfl ?_
  refine g_iconst (q := 171) (v := nI 0) dX7_runs_170 rfl (by decide) ?_
  refine g_iadd (q := 172) dX7_runs_171 rfl ?_
  refine g_ialdn (q := 173) (by first | assumption | rfl) (by repeat' first | apply nI_a | apply nI_m | exact rfl) (by omega) dX7_runs_172 rfl ?_
  rw [show 7 * U + 0 = 7 * U from rfl, hw]
  refine g_iconst (q := 174) (v := nI 1) dX7_runs_173 rfl (by decide) ?_
  refine g_icmp_ne (tgt := 189) (q := 177) dX7_runs_174 (by decide) rfl (fun _ => ?_) (fun c174 => absurd c174 (by decide))
  refine g_aload_n (q := 190) dX7_runs_189 rfl rfl ?_
  refine g_aload_n (q := 191) dX7_runs_190 rfl rfl ?_
  refine g_iload (q := 193) dX7_runs_191 rfl rfl ?_
  refine g_iload (q := 195) dX7_runs_193 rfl rfl ?_
  refine k_X7_226 (q := 198) rfl (Nat.le_of_ble_eq_true rfl) (by first | assumption | rfl) dX7_runs_195 rfl (?_)
  refine h _ (fun J hJ => ?_)
  refine g_goto (q := 72) dX7_runs_198 (by decide) ?_
  exact hJ
set_option maxRecDepth 100000 in
set_option maxHeartbeats 400000 in
theorem l_call {d k p U had : Nat} {Z : Zt} {l2 l3 : Int32} {u5 u6 : Value} {I : Nat → Nat → Int32} {m : Nat} (htop : I 52 21 = nI (U + 1)) (hfu : I 52 29 = nI 0) (hw : I 64 (7 * U) = nI 0) (hof : I 64 (7 * U + 1) = nI m) (hm : m < 6) (hU : U < 100) (h : ∀ u5 u6, LH (d + 5) k p Z l2 l3 (enW (uI I 65 m (I 65 m - nI 1)) U (I 52 25) (I 52 26)) (U + 1) u5 u6) : LH (d + 5) k p Z l2 l3 I had u5 u6 := by
  unfold LH at *
  refine g_aload_n (q := 73) dX7_runs_72 rfl rfl ?_
  refine gf_X7_183 (q := 76) rfl (by first | assumption | rfl) dX7_runs_73 rfl ?_
  rw [htop]
  refine g_if_le (tgt := 201) (q := 79) dX7_runs_76 (by decide) rfl (fun c76 => absurd c76 (nI_nle (by omega) (by omega))) (fun _ => ?_)
  refine g_aload_n (q := 80) dX7_runs_79 rfl rfl ?_
  refine gf_X7_179 (q := 83) rfl (by first | assumption | rfl) dX7_runs_80 rfl ?_
  rw [hfu]
  refine g_if_ne (tgt := 201) (q := 86) dX7_runs_83 (by decide) rfl (fun c83 => absurd c83 (by decide)) (fun _ => ?_)
  refine g_aload_n (q := 87) dX7_runs_86 rfl rfl ?_
  refine gf_X7_183 (q := 90) rfl (by first | assumption | rfl) dX7_runs_87 rfl ?_
  rw [htop]
  refine g_iload (q := 92) dX7_runs_90 rfl rfl ?_
  refine g_icmp_ge (tgt := 99) (q := 95) dX7_runs_92 (by decide) rfl (fun c92 => ?_) (fun c92 => ?_)
  · refine g_iconst (q := 100) (v := nI 0) dX7_runs_99 rfl (by decide) ?_
    refine g_istore (q := 102) dX7_runs_100 rfl (by decide) rfl rfl ?_
    refine g_aload_n (q := 103) dX7_runs_102 rfl rfl ?_
    refine gf_X7_183 (q := 106) rfl (by first | assumption | rfl) dX7_runs_103 rfl ?_
    rw [htop]
    refine g_istore (q := 108) dX7_runs_106 rfl (by decide) rfl rfl ?_
    refine g_bipush (q := 110) (v := nI 7) dX7_runs_108 rfl (by decide) ?_
    refine g_aload_n (q := 111) dX7_runs_110 rfl rfl ?_
    refine gf_X7_183 (q := 114) rfl (by first | assumption | rfl) dX7_runs_111 rfl ?_
    rw [htop]
    refine g_iconst (q := 115) (v := nI 1) dX7_runs_114 rfl (by decide) ?_
    refine g_isub (q := 116) dX7_runs_115 rfl ?_
    rw [show nI (U + 1) - nI 1 = nI U from nI_pred U]
    refine g_imul (q := 117) dX7_runs_116 rfl ?_
    rw [show nI 7 * nI U = nI (7 * U) from nI_m rfl rfl]
    refine g_istore (q := 119) dX7_runs_117 rfl (by decide) rfl rfl ?_
    refine g_aload_n (q := 120) dX7_runs_119 rfl rfl ?_
    refine gf_X7_44 (q := 123) rfl (by first | assumption | rfl) (by first | assumption | rfl) dX7_runs_120 rfl ?_
    refine g_iload (q := 125) dX7_runs_123 rfl rfl ?_
    refine g_iconst (q := 126) (v := nI 0) dX7_runs_125 rfl (by decide) ?_
    refine g_iadd (q := 127) dX7_runs_126 rfl ?_
    refine g_ialdn (q := 128) (by first | assumption | rfl) (by repeat' first | apply nI_a | apply nI_m | exact rfl) (by omega) dX7_runs_127 rfl ?_
    rw [show 7 * U + 0 = 7 * U from rfl, hw]
    refine g_if_ne (tgt := 164) (q := 131) dX7_runs_128 (by decide) rfl (fun c128 => absurd c128 (by decide)) (fun _ => ?_)
    refine g_aload_n (q := 132) dX7_runs_131 rfl rfl ?_
    refine gf_X7_47 (q := 135) rfl (by first | assumption | rfl) (by first | assumption | rfl) dX7_runs_132 rfl ?_
    refine g_aload_n (q := 136) dX7_runs_135 rfl rfl ?_
    refine gf_X7_44 (q := 139) rfl (by first | assumption | rfl) (by first | assumption | rfl) dX7_runs_136 rfl ?_
    refine g_iload (q := 141) dX7_runs_139 rfl rfl ?_
    refine g_iconst (q := 142) (v := nI 1) dX7_runs_141 rfl (by decide) ?_
    refine g_iadd (q := 143) dX7_runs_142 rfl ?_
    refine g_ialdn (q := 144) (by first | assumption | rfl) (by repeat' first | apply nI_a | apply nI_m | exact rfl) (by omega) dX7_runs_143 rfl ?_
    rw [hof]
    refine g_dup2 (q := 145) dX7_runs_144 rfl rfl rfl ?_
    refine g_ialdn (q := 146) (by first | assumption | rfl) (by repeat' first | apply nI_a | apply nI_m | exact rfl) (by omega) dX7_runs_145 rfl ?_
    refine g_iconst (q := 147) (v := nI 1) dX7_runs_146 rfl (by decide) ?_
    refine g_isub (q := 148) dX7_runs_147 rfl ?_
    refine g_iastn (q := 149) (by first | assumption | rfl) (by repeat' first | apply nI_a | apply nI_m | exact rfl) (by omega) dX7_runs_148 rfl ?_
    refine g_aload_n (q := 150) dX7_runs_149 rfl rfl ?_
    refine g_aload_n (q := 151) dX7_runs_150 rfl rfl ?_
    refine gf_X7_204 (q := 154) rfl (by first | assumption | rfl) dX7_runs_151 rfl ?_
    rw [uI_ne (by decide)]
    refine g_aload_n (q := 155) dX7_runs_154 rfl rfl ?_
    refine gf_X7_207 (q := 158) rfl (by first | assumption | rfl) dX7_runs_155 rfl ?_
    rw [uI_ne (by decide)]
    refine k_X7_214 (q := 161) rfl (Nat.le_of_ble_eq_true rfl) (by first | assumption | rfl) dX7_runs_158 rfl (c_ends (U := U) (by rw [uI_ne (by decide)]; exact htop) ?_)
    refine g_goto (q := 198) dX7_runs_161 (by decide) ?_
    refine g_goto (q := 72) dX7_runs_198 (by decide) ?_
    exact h _ _
  · refine g_iconst (q := 96) (v := nI 1) dX7_runs_95 rfl (by decide) ?_
    refine g_goto (q := 100) dX7_runs_96 (by decide) ?_
    refine g_istore (q := 102) dX7_runs_100 rfl (by decide) rfl rfl ?_
    refine g_aload_n (q := 103) dX7_runs_102 rfl rfl ?_
    refine gf_X7_183 (q := 106) rfl (by first | assumption | rfl) dX7_runs_103 rfl ?_
    rw [htop]
    refine g_istore (q := 108) dX7_runs_106 rfl (by decide) rfl rfl ?_
    refine g_bipush (q := 110) (v := nI 7) dX7_runs_108 rfl (by decide) ?_
    refine g_aload_n (q := 111) dX7_runs_110 rfl rfl ?_
    refine gf_X7_183 (q := 114) rfl (by first | assumption | rfl) dX7_runs_111 rfl ?_
    rw [htop]
    refine g_iconst (q := 115) (v := nI 1) dX7_runs_114 rfl (by decide) ?_
    refine g_isub (q := 116) dX7_runs_115 rfl ?_
    rw [show nI (U + 1) - nI 1 = nI U from nI_pred U]
    refine g_imul (q := 117) dX7_runs_116 rfl ?_
    rw [show nI 7 * nI U = nI (7 * U) from nI_m rfl rfl]
    refine g_istore (q := 119) dX7_runs_117 rfl (by decide) rfl rfl ?_
    refine g_aload_n (q := 120) dX7_runs_119 rfl rfl ?_
    refine gf_X7_44 (q := 123) rfl (by first | assumption | rfl) (by first | assumption | rfl) dX7_runs_120 rfl ?_
    refine g_iload (q := 125) dX7_runs_123 rfl rfl ?_
    refine g_iconst (q := 126) (v := nI 0) dX7_runs_125 rfl (by decide) ?_
    refine g_iadd (q := 127) dX7_runs_126 rfl ?_
    refine g_ialdn (q := 128) (by first | assumption | rfl) (by repeat' first | apply nI_a | apply nI_m | exact rfl) (by omega) dX7_runs_127 rfl ?_
    rw [show 7 * U + 0 = 7 * U from rfl, hw]
    refine g_if_ne (tgt := 164) (q := 131) dX7_runs_128 (by decide) rfl (fun c128 => absurd c128 (by decide)) (fun _ => ?_)
    refine g_aload_n (q := 132) dX7_runs_131 rfl rfl ?_
    refine gf_X7_47 (q := 135) rfl (by first | assumption | rfl) (by first | assumption | rfl) dX7_runs_132 rfl ?_
    refine g_aload_n (q := 136) dX7_runs_135 rfl rfl ?_
    refine gf_X7_44 (q := 139) rfl (by first | assumption | rfl) (by first | assumption | rfl) dX7_runs_136 rfl ?_
    refine g_iload (q := 141) dX7_runs_139 rfl rfl ?_
    refine g_iconst (q := 142) (v := nI 1) dX7_runs_141 rfl (by decide) ?_
    refine g_iadd (q := 143) dX7_runs_142 rfl ?_
    refine g_ialdn (q := 144) (by first | assumption | rfl) (by repeat' first | apply nI_a | apply nI_m | exact rfl) (by omega) dX7_runs_143 rfl ?_
    rw [hof]
    refine g_dup2 (q := 145) dX7_runs_144 rfl rfl rfl ?_
    refine g_ialdn (q := 146) (by first | assumption | rfl) (by repeat' first | apply nI_a | apply nI_m | exact rfl) (by omega) dX7_runs_145 rfl ?_
    refine g_iconst (q := 147) (v := nI 1) dX7_runs_146 rfl (by decide) ?_
    refine g_isub (q := 148) dX7_runs_147 rfl ?_
    refine g_iastn (q := 149) (by first | assumption | rfl) (by repeat' first | apply nI_a | apply nI_m | exact rfl) (by omega) dX7_runs_148 rfl ?_
    refine g_aload_n (q := 150) dX7_runs_149 rfl rfl ?_
    refine g_aload_n (q := 151) dX7_runs_150 rfl rfl ?_
    refine gf_X7_204 (q := 154) rfl (by first | assumption | rfl) dX7_runs_151 rfl ?_
    rw [uI_ne (by decide)]
    refine g_aload_n (q := 155) dX7_runs_154 rfl rfl ?_
    refine gf_X7_207 (q := 158) rfl (by first | assumption | rfl) dX7_runs_155 rfl ?_
    rw [uI_ne (by decide)]
    refine k_X7_214 (q := 161) rfl (Nat.le_of_ble_eq_true rfl) (by first | assumption | rfl) dX7_runs_158 rfl (c_ends (U := U) (by rw [uI_ne (by decide)]; exact htop) ?_)
    refine g_goto (q := 198) dX7_runs_161 (by decide) ?_
    refine g_goto (q := 72) dX7_runs_198 (by decide) ?_
    exact h _ _
set_option maxRecDepth 100000 in
set_option maxHeartbeats 400000 in
theorem l_full {d k p had : Nat} {Z : Zt} {l2 l3 : Int32} {u5 u6 : Value} {I : Nat → Nat → Int32} (hfu : I 52 29 = nI 1) (h : ∀ u5 u6, G mX7_runs (rmd (d + 5) 0 0) Z 68 201 [.ref 52, .ref p, .int l2, .int l3, .int (nI had), u5, u6] [] 68 (I, RR k) 0 0) : LH (d + 5) k p Z l2 l3 I had u5 u6 := by
  unfold LH at *
  refine g_aload_n (q := 73) dX7_runs_72 rfl rfl ?_
  refine gf_X7_183 (q := 76) rfl (by first | assumption | rfl) dX7_runs_73 rfl ?_
  refine g_if_le (tgt := 201) (q := 79) dX7_runs_76 (by decide) rfl (fun c76 => ?_) (fun c76 => ?_)
  · exact h _ _
  · refine g_aload_n (q := 80) dX7_runs_79 rfl rfl ?_
    refine gf_X7_179 (q := 83) rfl (by first | assumption | rfl) dX7_runs_80 rfl ?_
    rw [hfu]
    refine g_if_ne (tgt := 201) (q := 86) dX7_runs_83 (by decide) rfl (fun _ => ?_) (fun c83 => absurd c83 (by decide))
    exact h _ _
set_option maxRecDepth 100000 in
set_option maxHeartbeats 400000 in
theorem l_done {d k p had : Nat} {Z : Zt} {l2 l3 : Int32} {u5 u6 : Value} {I : Nat → Nat → Int32} (htop : I 52 21 = nI 0) (h : ∀ u5 u6, G mX7_runs (rmd (d + 5) 0 0) Z 68 201 [.ref 52, .ref p, .int l2, .int l3, .int (nI had), u5, u6] [] 68 (I, RR k) 0 0) : LH (d + 5) k p Z l2 l3 I had u5 u6 := by
  unfold LH at *
  refine g_aload_n (q := 73) dX7_runs_72 rfl rfl ?_
  refine gf_X7_183 (q := 76) rfl (by first | assumption | rfl) dX7_runs_73 rfl ?_
  rw [htop]
  refine g_if_le (tgt := 201) (q := 79) dX7_runs_76 (by decide) rfl (fun _ => ?_) (fun c76 => absurd c76 (by decide))
  exact h _ _
