def enW (I : Nat → Nat → Int32) (U : Nat) (f r : Int32) : Nat → Nat → Int32 := uI (uI (uI I 52 21 (nI U)) 52 25 f) 52 26 r
theorem enW_ne {I : Nat → Nat → Int32} {U p : Nat} {f r : Int32} (h : p ≠ 52) : enW I U f r p = I p := ((uI_ne h).trans (uI_ne h)).trans (uI_ne h)
theorem enW_f {I : Nat → Nat → Int32} {U j : Nat} {f r : Int32} (h1 : j ≠ 21) (h2 : j ≠ 25) (h3 : j ≠ 26) : enW I U f r 52 j = I 52 j := ((uI_n2 h3).trans (uI_n2 h2)).trans (uI_n2 h1)
theorem enW_fr {I : Nat → Nat → Int32} {U : Nat} {f r : Int32} : FrR I (enW I U f r) := FrR.tr (FrR.tr (FrR.u (by omega)) (FrR.u (by omega))) (FrR.u (by omega))
theorem c_ends {d k U : Nat} {I : Nat → Nat → Int32} {Q : Option Int32 → Wd → Prop} {f r : Int32} (htop : I 52 21 = nI (U + 1)) (h : Q none (enW I U f r, RR k)) : Ex d 0 0 mX7_ends [.ref 52, .int f, .int r] 68 (I, RR k) 68 Q := c_X7_ends htop h
theorem emF_ok {x : Nat} {s : Rs} (h : s.1.length < 99) : emF x s = some (s.1 ++ [x], s.2) := if_neg (by omega)
theorem emF_no {x : Nat} {s : Rs} (h : s.1.length = 99) : emF x s = none := if_pos (by omega)
theorem c_emS {d k x T : Nat} {v : Vv} {s : Rs} {go : Nat → Nat} {I : Nat → Nat → Int32} {Q : Option Int32 → Wd → Prop} (hS : RS v I s T go) (h1 : ∀ s2, emF x s = some s2 → RS v (emW I s.1.length x) s2 T go → Q none (emW I s.1.length x, RR k)) (h0 : emF x s = none → Q none (uI I 52 29 (nI 1), RR k)) : Ex d 0 0 mX7_emits [.ref 52, .int (nI x)] 68 (I, RR k) 68 Q :=
  c_X7_emits hS.2.1 hS.2.2.2.2.2.2.1 (fun hl => h1 _ (emF_ok hl) (RS_emit hS hl)) (fun hl => h0 (emF_no hl))
/-- what is about something went on; it ended -/
def AGo (v : Vv) (I J : Nat → Nat → Int32) (s : Rs) (U : Nat) (go : Nat → Nat) (m x mt a t j : Nat) : Prop := RS v J s (U + 2) go ∧ Ent J U (nI 1) (nI m) (nI x) (nI mt) (nI a) ∧ J 64 (7 * U + 5) = nI t ∧ Ent J (U + 1) (nI (wxF mt j (a + 1)).1) (nI m) (nI x) (nI mt) (nI (wxF mt j (a + 1)).2) ∧ J 64 (7 * (U + 1) + 5) = -1 ∧ J 64 (7 * (U + 1) + 6) = nI x ∧ (∀ i, i < 7 * U → J 64 i = I 64 i) ∧ FrR I J ∧ J 52 25 = I 52 25
def AEnd (v : Vv) (I J : Nat → Nat → Int32) (s : Rs) (U : Nat) (go : Nat → Nat) (f : Nat) (r : Int32) : Prop := RS v J s U go ∧ J 52 25 = nI f ∧ J 52 26 = r ∧ (∀ i, i < 7 * U → J 64 i = I 64 i) ∧ FrR I J
theorem AEnd.mk {v : Vv} {I X : Nat → Nat → Int32} {s : Rs} {U : Nat} {go : Nat → Nat} {f : Nat} {r : Int32} (hR : RS v X s (U + 1) go) (hh : ∀ i, i < 7 * U → X 64 i = I 64 i) (hF : FrR I X) : AEnd v I (enW X U (nI f) r) s U go f r :=
  ⟨hR.eq (by unfold enW; rw [uI_n2 (by decide), uI_n2 (by decide), uI_eq]) (fun j hj => enW_f (by omega) (by omega) (by omega)) (enW_ne (by decide)) (enW_ne (by decide)), by unfold enW; rw [uI_n2 (by decide), uI_eq], uI_eq, fun i hi => by rw [enW_ne (by decide)]; exact hh i hi, FrR.tr hF enW_fr⟩
theorem Ent.to {I J : Nat → Nat → Int32} {U : Nat} {w m x mt a : Int32} (h : Ent I U w m x mt a) (e : ∀ i, i < 5 → J 64 (7 * U + i) = I 64 (7 * U + i)) : Ent J U w m x mt a :=
  ⟨(e 0 (by omega)).trans h.1, (e 1 (by omega)).trans h.2.1, (e 2 (by omega)).trans h.2.2.1, (e 3 (by omega)).trans h.2.2.2.1, (e 4 (by omega)).trans h.2.2.2.2⟩
theorem AGo.mk {v : Vv} {I W J : Nat → Nat → Int32} {s : Rs} {U : Nat} {go : Nat → Nat} {m x mt a t j : Nat} (wR : RS v W s (U + 1) go) (wE : Ent W U (nI 1) (nI m) (nI x) (nI mt) (nI a)) (wt : W 64 (7 * U + 5) = nI t) (wh : ∀ i, i < 7 * U → W 64 i = I 64 i) (wF : FrR I W) (w25 : W 52 25 = I 52 25) (hP : Psh W J (U + 1) (nI (wxF mt j (a + 1)).1) (nI m) (nI x) (nI mt) (nI (wxF mt j (a + 1)).2)) : AGo v I J s U go m x mt a t j :=
  ⟨wR.psh hP, wE.to (fun i hi => hP.1 _ (by omega)), (hP.1 _ (by omega)).trans wt, hP.2.1, hP.2.2.1, hP.2.2.2.1, fun i hi => (hP.1 i (by omega)).trans (wh i hi), FrR.tr wF hP.fr, (hP.2.2.2.2.2.2 25 (by decide)).trans w25⟩

set_option maxRecDepth 100000 in
set_option maxHeartbeats 400000 in
theorem c_ab_nb1 {d k : Nat} {I : Nat → Nat → Int32} {Q : Option Int32 → Wd → Prop} {p U m x mt a j : Nat} {v : Vv} {s : Rs} {go : Nat → Nat} (hp52 : p = 58 ∨ p = 60) (hsp : shn 68 p = (1, 92)) (hM : MRep I p 0 v) (hV : VOk v) (ha : a < vna v) (haj : a + 1 + j = 5) (hmt : mt < 2 ^ vna v) (hmt6 : mt < 64) (hU : U < 98) (hS : RS v I s (U + 1) go) (hE : Ent I U (nI 1) (nI m) (nI x) (nI mt) (nI a)) (hkd : vfa v a 5 = 1) (ht : I 64 (7 * U + 5) = -1) (hfull : False → ∀ J, FrR I J → J 52 29 = nI 1 → Q none (J, RR k)) (hgo : ∀ J, AGo v I J s U go m x mt a 0 j → Q none (J, RR k)) : Ex (d + 2) 0 0 mX7_abouts [.ref 52, .ref p, .int (nI (7 * U)), .int (nI 0)] 68 (I, RR k) 68 Q := by
  obtain ⟨v1, v2, v3, v4⟩ := id hV
  have k4 := v4 a ha

  refine ex_intro (L0 := [.ref 52, .ref p, .int (nI (7 * U)), .int (nI 0), .null, .null, .null, .null]) (by decide +kernel) rfl rfl (Nat.le_of_ble_eq_true rfl) rfl ?_
  refine g_aload_n (q := 1) dX7_abouts_0 rfl rfl ?_
  refine gf_X7_44 (q := 4) rfl (by first | assumption | rfl) (by first | assumption | rfl) dX7_abouts_1 rfl ?_
  refine g_iload_n (q := 5) dX7_abouts_4 rfl rfl ?_
  refine g_iconst (q := 6) (v := nI 4) dX7_abouts_5 rfl (by decide) ?_
  refine g_iadd (q := 7) dX7_abouts_6 rfl ?_
  refine g_ialdn (q := 8) (by first | assumption | rfl) (by repeat' first | apply nI_a | apply nI_m | exact rfl) (by omega) dX7_abouts_7 rfl ?_
  rw [hE.2.2.2.2]
  refine g_istore (q := 10) dX7_abouts_8 rfl (by decide) rfl rfl ?_
  refine g_aload_n (q := 11) dX7_abouts_10 rfl rfl ?_
  refine g_bipush (q := 13) (v := nI 62) dX7_abouts_11 rfl (by decide) ?_
  refine g_bipush (q := 15) (v := nI 6) dX7_abouts_13 rfl (by decide) ?_
  refine g_iload (q := 17) dX7_abouts_15 rfl rfl ?_
  refine g_imul (q := 18) dX7_abouts_17 rfl ?_
  refine g_iadd (q := 19) dX7_abouts_18 rfl ?_
  refine g_ialdn (q := 20) (by first | assumption | rfl) (by repeat' first | apply nI_a | apply nI_m | exact rfl) (by omega) dX7_abouts_19 rfl ?_
  rw [hM.kd ha, hkd]
  refine g_istore (q := 22) dX7_abouts_20 rfl (by decide) rfl rfl ?_
  refine g_aload_n (q := 23) dX7_abouts_22 rfl rfl ?_
  refine g_bipush (q := 25) (v := nI 62) dX7_abouts_23 rfl (by decide) ?_
  refine g_bipush (q := 27) (v := nI 6) dX7_abouts_25 rfl (by decide) ?_
  refine g_iload (q := 29) dX7_abouts_27 rfl rfl ?_
  refine g_imul (q := 30) dX7_abouts_29 rfl ?_
  refine g_iadd (q := 31) dX7_abouts_30 rfl ?_
  refine g_iconst (q := 32) (v := nI 1) dX7_abouts_31 rfl (by decide) ?_
  refine g_iadd (q := 33) dX7_abouts_32 rfl ?_
  refine g_ialdn (q := 34) (by first | assumption | rfl) (by repeat' first | apply nI_a | apply nI_m | exact rfl) (by omega) dX7_abouts_33 rfl ?_
  rw [hM.f0 ha]
  refine g_istore (q := 36) dX7_abouts_34 rfl (by decide) rfl rfl ?_
  refine g_iload (q := 38) dX7_abouts_36 rfl rfl ?_
  refine g_iconst (q := 39) (v := nI 4) dX7_abouts_38 rfl (by decide) ?_
  refine g_icmp_ne (tgt := 49) (q := 42) dX7_abouts_39 (by decide) rfl (fun _ => ?_) (fun c39 => absurd c39 (by decide))
  refine g_iconst (q := 50) (v := nI 1) dX7_abouts_49 rfl (by decide) ?_
  refine g_istore (q := 52) dX7_abouts_50 rfl (by decide) rfl rfl ?_
  refine g_iload_n (q := 53) dX7_abouts_52 rfl rfl ?_
  refine g_if_ne (tgt := 68) (q := 56) dX7_abouts_53 (by decide) rfl (fun c53 => absurd c53 (by decide)) (fun _ => ?_)
  refine g_iload (q := 58) dX7_abouts_56 rfl rfl ?_
  refine g_iconst (q := 59) (v := nI 4) dX7_abouts_58 rfl (by decide) ?_
  refine g_icmp_lt (tgt := 68) (q := 62) dX7_abouts_59 (by decide) rfl (fun _ => ?_) (fun c59 => absurd c59 (by decide))
  refine g_aload_n (q := 69) dX7_abouts_68 rfl rfl ?_
  refine gf_X7_44 (q := 72) rfl (by first | assumption | rfl) (by first | assumption | rfl) dX7_abouts_69 rfl ?_
  refine g_iload_n (q := 73) dX7_abouts_72 rfl rfl ?_
  refine g_iconst (q := 74) (v := nI 5) dX7_abouts_73 rfl (by decide) ?_
  refine g_iadd (q := 75) dX7_abouts_74 rfl ?_
  refine g_dup2 (q := 76) dX7_abouts_75 rfl rfl rfl ?_
  refine g_ialdn (q := 77) (by first | assumption | rfl) (by repeat' first | apply nI_a | apply nI_m | exact rfl) (by omega) dX7_abouts_76 rfl ?_
  first | rw [ht] | rw [emW_64, ht] | rw [uI_ne (by decide), ht]
  refine g_iconst (q := 78) (v := nI 1) dX7_abouts_77 rfl (by decide) ?_
  refine g_iadd (q := 79) dX7_abouts_78 rfl ?_
  rw [show (-1 : Int32) + nI 1 = nI 0 by decide]
  refine g_iastn (q := 80) (by first | assumption | rfl) (by repeat' first | apply nI_a | apply nI_m | exact rfl) (by omega) dX7_abouts_79 rfl ?_
  obtain ⟨W, hW⟩ : ∃ W, W = uI (I) 64 (7 * U + 5) (nI 0) := ⟨_, rfl⟩
  rw [← hW]
  have b64 : (I) 64 = I 64 := rfl
  have w64 : ∀ i, i ≠ 7 * U + 5 → W 64 i = I 64 i := fun i hi => by rw [hW, uI_n2 hi, b64]
  have wE : Ent W U (nI 1) (nI m) (nI x) (nI mt) (nI a) := hE.to (fun i hi => w64 _ (by omega))
  have wt : W 64 (7 * U + 5) = nI 0 := by rw [hW, uI_eq]
  have wh : ∀ i, i < 7 * U → W 64 i = I 64 i := fun i hi => w64 i (by omega)
  have wF : FrR I W := by rw [hW]; exact FrR.tr FrR.rf (FrR.u (Or.inl rfl))
  have wM : MRep W p 0 v := hM.eq (wF.1 p (by omega) (by omega) (by omega) (by omega))
  have b52 : W 52 = (I) 52 := by rw [hW, uI_ne (by decide)]
  have w25 : W 52 25 = I 52 25 := by rw [b52]
  have w26 : W 52 26 = I 52 26 := by rw [b52]
  have wR : RS v W s (U + 1) go := hS.eq (by rw [b52]; exact hS.1) (fun j hj => by rw [b52]) (by rw [hW, uI_ne (by decide)]) (by rw [hW, uI_ne (by decide)])
  have w21 := wR.1
  refine g_iload_n (q := 81) dX7_abouts_80 rfl rfl ?_
  refine g_if_eq (tgt := 121) (q := 84) dX7_abouts_81 (by decide) rfl (fun _ => ?_) (fun c81 => absurd c81 (by decide))
  refine g_aload_n (q := 122) dX7_abouts_121 rfl rfl ?_
  refine gf_X7_44 (q := 125) rfl (by first | assumption | rfl) (by first | assumption | rfl) dX7_abouts_122 rfl ?_
  refine g_iload_n (q := 126) dX7_abouts_125 rfl rfl ?_
  refine g_iconst (q := 127) (v := nI 5) dX7_abouts_126 rfl (by decide) ?_
  refine g_iadd (q := 128) dX7_abouts_127 rfl ?_
  refine g_ialdn (q := 129) (by first | assumption | rfl) (by repeat' first | apply nI_a | apply nI_m | exact rfl) (by omega) dX7_abouts_128 rfl ?_
  rw [wt]
  refine g_iload (q := 131) dX7_abouts_129 rfl rfl ?_
  refine g_icmp_ge (tgt := 170) (q := 134) dX7_abouts_131 (by decide) rfl (fun c131 => absurd c131 (by decide)) (fun _ => ?_)
  refine g_aload_n (q := 135) dX7_abouts_134 rfl rfl ?_
  refine g_aload_n (q := 136) dX7_abouts_135 rfl rfl ?_
  refine g_aload_n (q := 137) dX7_abouts_136 rfl rfl ?_
  refine gf_X7_44 (q := 140) rfl (by first | assumption | rfl) (by first | assumption | rfl) dX7_abouts_137 rfl ?_
  refine g_iload_n (q := 141) dX7_abouts_140 rfl rfl ?_
  refine g_iconst (q := 142) (v := nI 1) dX7_abouts_141 rfl (by decide) ?_
  refine g_iadd (q := 143) dX7_abouts_142 rfl ?_
  refine g_ialdn (q := 144) (by first | assumption | rfl) (by repeat' first | apply nI_a | apply nI_m | exact rfl) (by omega) dX7_abouts_143 rfl ?_
  rw [wE.2.1]
  refine g_aload_n (q := 145) dX7_abouts_144 rfl rfl ?_
  refine gf_X7_44 (q := 148) rfl (by first | assumption | rfl) (by first | assumption | rfl) dX7_abouts_145 rfl ?_
  refine g_iload_n (q := 149) dX7_abouts_148 rfl rfl ?_
  refine g_iconst (q := 150) (v := nI 2) dX7_abouts_149 rfl (by decide) ?_
  refine g_iadd (q := 151) dX7_abouts_150 rfl ?_
  refine g_ialdn (q := 152) (by first | assumption | rfl) (by repeat' first | apply nI_a | apply nI_m | exact rfl) (by omega) dX7_abouts_151 rfl ?_
  rw [wE.2.2.1]
  refine g_aload_n (q := 153) dX7_abouts_152 rfl rfl ?_
  refine gf_X7_44 (q := 156) rfl (by first | assumption | rfl) (by first | assumption | rfl) dX7_abouts_153 rfl ?_
  refine g_iload_n (q := 157) dX7_abouts_156 rfl rfl ?_
  refine g_iconst (q := 158) (v := nI 3) dX7_abouts_157 rfl (by decide) ?_
  refine g_iadd (q := 159) dX7_abouts_158 rfl ?_
  refine g_ialdn (q := 160) (by first | assumption | rfl) (by repeat' first | apply nI_a | apply nI_m | exact rfl) (by omega) dX7_abouts_159 rfl ?_
  rw [wE.2.2.2.1]
  refine g_iload (q := 162) dX7_abouts_160 rfl rfl ?_
  refine g_iconst (q := 163) (v := nI 1) dX7_abouts_162 rfl (by decide) ?_
  refine g_iadd (q := 164) dX7_abouts_163 rfl ?_
  rw [nI_add]
  refine k_X7_200 (q := 167) rfl (Nat.le_of_ble_eq_true rfl) (by first | assumption | rfl) dX7_abouts_164 rfl (c_X7_goesOn hsp wM hV hmt hmt6 w21 (by omega) haj (fun J hP => ?_))
  refine g_goto (q := 235) dX7_abouts_167 (by decide) ?_
  refine g_vret rfl dX7_abouts_235 (Nat.le_refl _) (Nat.le_refl _) ?_
  exact hgo J (AGo.mk wR wE wt wh wF w25 hP)
set_option maxRecDepth 100000 in
set_option maxHeartbeats 400000 in
theorem c_ab_nb2 {d k : Nat} {I : Nat → Nat → Int32} {Q : Option Int32 → Wd → Prop} {p U m x mt a j : Nat} {v : Vv} {s : Rs} {go : Nat → Nat} (hp52 : p = 58 ∨ p = 60) (hsp : shn 68 p = (1, 92)) (hM : MRep I p 0 v) (hV : VOk v) (ha : a < vna v) (haj : a + 1 + j = 5) (hmt : mt < 2 ^ vna v) (hmt6 : mt < 64) (hU : U < 98) (hS : RS v I s (U + 1) go) (hE : Ent I U (nI 1) (nI m) (nI x) (nI mt) (nI a)) (hkd : vfa v a 5 = 2) (ht : I 64 (7 * U + 5) = -1) (hfull : False → ∀ J, FrR I J → J 52 29 = nI 1 → Q none (J, RR k)) (hgo : ∀ J, AGo v I J s U go m x mt a 0 j → Q none (J, RR k)) : Ex (d + 2) 0 0 mX7_abouts [.ref 52, .ref p, .int (nI (7 * U)), .int (nI 0)] 68 (I, RR k) 68 Q := by
  obtain ⟨v1, v2, v3, v4⟩ := id hV
  have k4 := v4 a ha

  refine ex_intro (L0 := [.ref 52, .ref p, .int (nI (7 * U)), .int (nI 0), .null, .null, .null, .null]) (by decide +kernel) rfl rfl (Nat.le_of_ble_eq_true rfl) rfl ?_
  refine g_aload_n (q := 1) dX7_abouts_0 rfl rfl ?_
  refine gf_X7_44 (q := 4) rfl (by first | assumption | rfl) (by first | assumption | rfl) dX7_abouts_1 rfl ?_
  refine g_iload_n (q := 5) dX7_abouts_4 rfl rfl ?_
  refine g_iconst (q := 6) (v := nI 4) dX7_abouts_5 rfl (by decide) ?_
  refine g_iadd (q := 7) dX7_abouts_6 rfl ?_
  refine g_ialdn (q := 8) (by first | assumption | rfl) (by repeat' first | apply nI_a | apply nI_m | exact rfl) (by omega) dX7_abouts_7 rfl ?_
  rw [hE.2.2.2.2]
  refine g_istore (q := 10) dX7_abouts_8 rfl (by decide) rfl rfl ?_
  refine g_aload_n (q := 11) dX7_abouts_10 rfl rfl ?_
  refine g_bipush (q := 13) (v := nI 62) dX7_abouts_11 rfl (by decide) ?_
  refine g_bipush (q := 15) (v := nI 6) dX7_abouts_13 rfl (by decide) ?_
  refine g_iload (q := 17) dX7_abouts_15 rfl rfl ?_
  refine g_imul (q := 18) dX7_abouts_17 rfl ?_
  refine g_iadd (q := 19) dX7_abouts_18 rfl ?_
  refine g_ialdn (q := 20) (by first | assumption | rfl) (by repeat' first | apply nI_a | apply nI_m | exact rfl) (by omega) dX7_abouts_19 rfl ?_
  rw [hM.kd ha, hkd]
  refine g_istore (q := 22) dX7_abouts_20 rfl (by decide) rfl rfl ?_
  refine g_aload_n (q := 23) dX7_abouts_22 rfl rfl ?_
  refine g_bipush (q := 25) (v := nI 62) dX7_abouts_23 rfl (by decide) ?_
  refine g_bipush (q := 27) (v := nI 6) dX7_abouts_25 rfl (by decide) ?_
  refine g_iload (q := 29) dX7_abouts_27 rfl rfl ?_
  refine g_imul (q := 30) dX7_abouts_29 rfl ?_
  refine g_iadd (q := 31) dX7_abouts_30 rfl ?_
  refine g_iconst (q := 32) (v := nI 1) dX7_abouts_31 rfl (by decide) ?_
  refine g_iadd (q := 33) dX7_abouts_32 rfl ?_
  refine g_ialdn (q := 34) (by first | assumption | rfl) (by repeat' first | apply nI_a | apply nI_m | exact rfl) (by omega) dX7_abouts_33 rfl ?_
  rw [hM.f0 ha]
  refine g_istore (q := 36) dX7_abouts_34 rfl (by decide) rfl rfl ?_
  refine g_iload (q := 38) dX7_abouts_36 rfl rfl ?_
  refine g_iconst (q := 39) (v := nI 4) dX7_abouts_38 rfl (by decide) ?_
  refine g_icmp_ne (tgt := 49) (q := 42) dX7_abouts_39 (by decide) rfl (fun _ => ?_) (fun c39 => absurd c39 (by decide))
  refine g_iconst (q := 50) (v := nI 1) dX7_abouts_49 rfl (by decide) ?_
  refine g_istore (q := 52) dX7_abouts_50 rfl (by decide) rfl rfl ?_
  refine g_iload_n (q := 53) dX7_abouts_52 rfl rfl ?_
  refine g_if_ne (tgt := 68) (q := 56) dX7_abouts_53 (by decide) rfl (fun c53 => absurd c53 (by decide)) (fun _ => ?_)
  refine g_iload (q := 58) dX7_abouts_56 rfl rfl ?_
  refine g_iconst (q := 59) (v := nI 4) dX7_abouts_58 rfl (by decide) ?_
  refine g_icmp_lt (tgt := 68) (q := 62) dX7_abouts_59 (by decide) rfl (fun _ => ?_) (fun c59 => absurd c59 (by decide))
  refine g_aload_n (q := 69) dX7_abouts_68 rfl rfl ?_
  refine gf_X7_44 (q := 72) rfl (by first | assumption | rfl) (by first | assumption | rfl) dX7_abouts_69 rfl ?_
  refine g_iload_n (q := 73) dX7_abouts_72 rfl rfl ?_
  refine g_iconst (q := 74) (v := nI 5) dX7_abouts_73 rfl (by decide) ?_
  refine g_iadd (q := 75) dX7_abouts_74 rfl ?_
  refine g_dup2 (q := 76) dX7_abouts_75 rfl rfl rfl ?_
  refine g_ialdn (q := 77) (by first | assumption | rfl) (by repeat' first | apply nI_a | apply nI_m | exact rfl) (by omega) dX7_abouts_76 rfl ?_
  first | rw [ht] | rw [emW_64, ht] | rw [uI_ne (by decide), ht]
  refine g_iconst (q := 78) (v := nI 1) dX7_abouts_77 rfl (by decide) ?_
  refine g_iadd (q := 79) dX7_abouts_78 rfl ?_
  rw [show (-1 : Int32) + nI 1 = nI 0 by decide]
  refine g_iastn (q := 80) (by first | assumption | rfl) (by repeat' first | apply nI_a | apply nI_m | exact rfl) (by omega) dX7_abouts_79 rfl ?_
  obtain ⟨W, hW⟩ : ∃ W, W = uI (I) 64 (7 * U + 5) (nI 0) := ⟨_, rfl⟩
  rw [← hW]
  have b64 : (I) 64 = I 64 := rfl
  have w64 : ∀ i, i ≠ 7 * U + 5 → W 64 i = I 64 i := fun i hi => by rw [hW, uI_n2 hi, b64]
  have wE : Ent W U (nI 1) (nI m) (nI x) (nI mt) (nI a) := hE.to (fun i hi => w64 _ (by omega))
  have wt : W 64 (7 * U + 5) = nI 0 := by rw [hW, uI_eq]
  have wh : ∀ i, i < 7 * U → W 64 i = I 64 i := fun i hi => w64 i (by omega)
  have wF : FrR I W := by rw [hW]; exact FrR.tr FrR.rf (FrR.u (Or.inl rfl))
  have wM : MRep W p 0 v := hM.eq (wF.1 p (by omega) (by omega) (by omega) (by omega))
  have b52 : W 52 = (I) 52 := by rw [hW, uI_ne (by decide)]
  have w25 : W 52 25 = I 52 25 := by rw [b52]
  have w26 : W 52 26 = I 52 26 := by rw [b52]
  have wR : RS v W s (U + 1) go := hS.eq (by rw [b52]; exact hS.1) (fun j hj => by rw [b52]) (by rw [hW, uI_ne (by decide)]) (by rw [hW, uI_ne (by decide)])
  have w21 := wR.1
  refine g_iload_n (q := 81) dX7_abouts_80 rfl rfl ?_
  refine g_if_eq (tgt := 121) (q := 84) dX7_abouts_81 (by decide) rfl (fun _ => ?_) (fun c81 => absurd c81 (by decide))
  refine g_aload_n (q := 122) dX7_abouts_121 rfl rfl ?_
  refine gf_X7_44 (q := 125) rfl (by first | assumption | rfl) (by first | assumption | rfl) dX7_abouts_122 rfl ?_
  refine g_iload_n (q := 126) dX7_abouts_125 rfl rfl ?_
  refine g_iconst (q := 127) (v := nI 5) dX7_abouts_126 rfl (by decide) ?_
  refine g_iadd (q := 128) dX7_abouts_127 rfl ?_
  refine g_ialdn (q := 129) (by first | assumption | rfl) (by repeat' first | apply nI_a | apply nI_m | exact rfl) (by omega) dX7_abouts_128 rfl ?_
  rw [wt]
  refine g_iload (q := 131) dX7_abouts_129 rfl rfl ?_
  refine g_icmp_ge (tgt := 170) (q := 134) dX7_abouts_131 (by decide) rfl (fun c131 => absurd c131 (by decide)) (fun _ => ?_)
  refine g_aload_n (q := 135) dX7_abouts_134 rfl rfl ?_
  refine g_aload_n (q := 136) dX7_abouts_135 rfl rfl ?_
  refine g_aload_n (q := 137) dX7_abouts_136 rfl rfl ?_
  refine gf_X7_44 (q := 140) rfl (by first | assumption | rfl) (by first | assumption | rfl) dX7_abouts_137 rfl ?_
  refine g_iload_n (q := 141) dX7_abouts_140 rfl rfl ?_
  refine g_iconst (q := 142) (v := nI 1) dX7_abouts_141 rfl (by decide) ?_
  refine g_iadd (q := 143) dX7_abouts_142 rfl ?_
  refine g_ialdn (q := 144) (by first | assumption | rfl) (by repeat' first | apply nI_a | apply nI_m | exact rfl) (by omega) dX7_abouts_143 rfl ?_
  rw [wE.2.1]
  refine g_aload_n (q := 145) dX7_abouts_144 rfl rfl ?_
  refine gf_X7_44 (q := 148) rfl (by first | assumption | rfl) (by first | assumption | rfl) dX7_abouts_145 rfl ?_
  refine g_iload_n (q := 149) dX7_abouts_148 rfl rfl ?_
  refine g_iconst (q := 150) (v := nI 2) dX7_abouts_149 rfl (by decide) ?_
  refine g_iadd (q := 151) dX7_abouts_150 rfl ?_
  refine g_ialdn (q := 152) (by first | assumption | rfl) (by repeat' first | apply nI_a | apply nI_m | exact rfl) (by omega) dX7_abouts_151 rfl ?_
  rw [wE.2.2.1]
  refine g_aload_n (q := 153) dX7_abouts_152 rfl rfl ?_
  refine gf_X7_44 (q := 156) rfl (by first | assumption | rfl) (by first | assumption | rfl) dX7_abouts_153 rfl ?_
  refine g_iload_n (q := 157) dX7_abouts_156 rfl rfl ?_
  refine g_iconst (q := 158) (v := nI 3) dX7_abouts_157 rfl (by decide) ?_
  refine g_iadd (q := 159) dX7_abouts_158 rfl ?_
  refine g_ialdn (q := 160) (by first | assumption | rfl) (by repeat' first | apply nI_a | apply nI_m | exact rfl) (by omega) dX7_abouts_159 rfl ?_
  rw [wE.2.2.2.1]
  refine g_iload (q := 162) dX7_abouts_160 rfl rfl ?_
  refine g_iconst (q := 163) (v := nI 1) dX7_abouts_162 rfl (by decide) ?_
  refine g_iadd (q := 164) dX7_abouts_163 rfl ?_
  rw [nI_add]
  refine k_X7_200 (q := 167) rfl (Nat.le_of_ble_eq_true rfl) (by first | assumption | rfl) dX7_abouts_164 rfl (c_X7_goesOn hsp wM hV hmt hmt6 w21 (by omega) haj (fun J hP => ?_))
  refine g_goto (q := 235) dX7_abouts_167 (by decide) ?_
  refine g_vret rfl dX7_abouts_235 (Nat.le_refl _) (Nat.le_refl _) ?_
  exact hgo J (AGo.mk wR wE wt wh wF w25 hP)
set_option maxRecDepth 100000 in
set_option maxHeartbeats 400000 in
theorem c_ab_nb3 {d k : Nat} {I : Nat → Nat → Int32} {Q : Option Int32 → Wd → Prop} {p U m x mt a j : Nat} {v : Vv} {s : Rs} {go : Nat → Nat} (hp52 : p = 58 ∨ p = 60) (hsp : shn 68 p = (1, 92)) (hM : MRep I p 0 v) (hV : VOk v) (ha : a < vna v) (haj : a + 1 + j = 5) (hmt : mt < 2 ^ vna v) (hmt6 : mt < 64) (hU : U < 98) (hS : RS v I s (U + 1) go) (hE : Ent I U (nI 1) (nI m) (nI x) (nI mt) (nI a)) (hkd : vfa v a 5 = 3) (ht : I 64 (7 * U + 5) = -1) (hfull : False → ∀ J, FrR I J → J 52 29 = nI 1 → Q none (J, RR k)) (hgo : ∀ J, AGo v I J s U go m x mt a 0 j → Q none (J, RR k)) : Ex (d + 2) 0 0 mX7_abouts [.ref 52, .ref p, .int (nI (7 * U)), .int (nI 0)] 68 (I, RR k) 68 Q := by
  obtain ⟨v1, v2, v3, v4⟩ := id hV
  have k4 := v4 a ha

  refine ex_intro (L0 := [.ref 52, .ref p, .int (nI (7 * U)), .int (nI 0), .null, .null, .null, .null]) (by decide +kernel) rfl rfl (Nat.le_of_ble_eq_true rfl) rfl ?_
  refine g_aload_n (q := 1) dX7_abouts_0 rfl rfl ?_
  refine gf_X7_44 (q := 4) rfl (by first | assumption | rfl) (by first | assumption | rfl) dX7_abouts_1 rfl ?_
  refine g_iload_n (q := 5) dX7_abouts_4 rfl rfl ?_
  refine g_iconst (q := 6) (v := nI 4) dX7_abouts_5 rfl (by decide) ?_
  refine g_iadd (q := 7) dX7_abouts_6 rfl ?_
  refine g_ialdn (q := 8) (by first | assumption | rfl) (by repeat' first | apply nI_a | apply nI_m | exact rfl) (by omega) dX7_abouts_7 rfl ?_
  rw [hE.2.2.2.2]
  refine g_istore (q := 10) dX7_abouts_8 rfl (by decide) rfl rfl ?_
  refine g_aload_n (q := 11) dX7_abouts_10 rfl rfl ?_
  refine g_bipush (q := 13) (v := nI 62) dX7_abouts_11 rfl (by decide) ?_
  refine g_bipush (q := 15) (v := nI 6) dX7_abouts_13 rfl (by decide) ?_
  refine g_iload (q := 17) dX7_abouts_15 rfl rfl ?_
  refine g_imul (q := 18) dX7_abouts_17 rfl ?_
  refine g_iadd (q := 19) dX7_abouts_18 rfl ?_
  refine g_ialdn (q := 20) (by first | assumption | rfl) (by repeat' first | apply nI_a | apply nI_m | exact rfl) (by omega) dX7_abouts_19 rfl ?_
  rw [hM.kd ha, hkd]
  refine g_istore (q := 22) dX7_abouts_20 rfl (by decide) rfl rfl ?_
  refine g_aload_n (q := 23) dX7_abouts_22 rfl rfl ?_
  refine g_bipush (q := 25) (v := nI 62) dX7_abouts_23 rfl (by decide) ?_
  refine g_bipush (q := 27) (v := nI 6) dX7_abouts_25 rfl (by decide) ?_
  refine g_iload (q := 29) dX7_abouts_27 rfl rfl ?_
  refine g_imul (q := 30) dX7_abouts_29 rfl ?_
  refine g_iadd (q := 31) dX7_abouts_30 rfl ?_
  refine g_iconst (q := 32) (v := nI 1) dX7_abouts_31 rfl (by decide) ?_
  refine g_iadd (q := 33) dX7_abouts_32 rfl ?_
  refine g_ialdn (q := 34) (by first | assumption | rfl) (by repeat' first | apply nI_a | apply nI_m | exact rfl) (by omega) dX7_abouts_33 rfl ?_
  rw [hM.f0 ha]
  refine g_istore (q := 36) dX7_abouts_34 rfl (by decide) rfl rfl ?_
  refine g_iload (q := 38) dX7_abouts_36 rfl rfl ?_
  refine g_iconst (q := 39) (v := nI 4) dX7_abouts_38 rfl (by decide) ?_
  refine g_icmp_ne (tgt := 49) (q := 42) dX7_abouts_39 (by decide) rfl (fun _ => ?_) (fun c39 => absurd c39 (by decide))
  refine g_iconst (q := 50) (v := nI 1) dX7_abouts_49 rfl (by decide) ?_
  refine g_istore (q := 52) dX7_abouts_50 rfl (by decide) rfl rfl ?_
  refine g_iload_n (q := 53) dX7_abouts_52 rfl rfl ?_
  refine g_if_ne (tgt := 68) (q := 56) dX7_abouts_53 (by decide) rfl (fun c53 => absurd c53 (by decide)) (fun _ => ?_)
  refine g_iload (q := 58) dX7_abouts_56 rfl rfl ?_
  refine g_iconst (q := 59) (v := nI 4) dX7_abouts_58 rfl (by decide) ?_
  refine g_icmp_lt (tgt := 68) (q := 62) dX7_abouts_59 (by decide) rfl (fun _ => ?_) (fun c59 => absurd c59 (by decide))
  refine g_aload_n (q := 69) dX7_abouts_68 rfl rfl ?_
  refine gf_X7_44 (q := 72) rfl (by first | assumption | rfl) (by first | assumption | rfl) dX7_abouts_69 rfl ?_
  refine g_iload_n (q := 73) dX7_abouts_72 rfl rfl ?_
  refine g_iconst (q := 74) (v := nI 5) dX7_abouts_73 rfl (by decide) ?_
  refine g_iadd (q := 75) dX7_abouts_74 rfl ?_
  refine g_dup2 (q := 76) dX7_abouts_75 rfl rfl rfl ?_
  refine g_ialdn (q := 77) (by first | assumption | rfl) (by repeat' first | apply nI_a | apply nI_m | exact rfl) (by omega) dX7_abouts_76 rfl ?_
  first | rw [ht] | rw [emW_64, ht] | rw [uI_ne (by decide), ht]
  refine g_iconst (q := 78) (v := nI 1) dX7_abouts_77 rfl (by decide) ?_
  refine g_iadd (q := 79) dX7_abouts_78 rfl ?_
  rw [show (-1 : Int32) + nI 1 = nI 0 by decide]
  refine g_iastn (q := 80) (by first | assumption | rfl) (by repeat' first | apply nI_a | apply nI_m | exact rfl) (by omega) dX7_abouts_79 rfl ?_
  obtain ⟨W, hW⟩ : ∃ W, W = uI (I) 64 (7 * U + 5) (nI 0) := ⟨_, rfl⟩
  rw [← hW]
  have b64 : (I) 64 = I 64 := rfl
  have w64 : ∀ i, i ≠ 7 * U + 5 → W 64 i = I 64 i := fun i hi => by rw [hW, uI_n2 hi, b64]
  have wE : Ent W U (nI 1) (nI m) (nI x) (nI mt) (nI a) := hE.to (fun i hi => w64 _ (by omega))
  have wt : W 64 (7 * U + 5) = nI 0 := by rw [hW, uI_eq]
  have wh : ∀ i, i < 7 * U → W 64 i = I 64 i := fun i hi => w64 i (by omega)
  have wF : FrR I W := by rw [hW]; exact FrR.tr FrR.rf (FrR.u (Or.inl rfl))
  have wM : MRep W p 0 v := hM.eq (wF.1 p (by omega) (by omega) (by omega) (by omega))
  have b52 : W 52 = (I) 52 := by rw [hW, uI_ne (by decide)]
  have w25 : W 52 25 = I 52 25 := by rw [b52]
  have w26 : W 52 26 = I 52 26 := by rw [b52]
  have wR : RS v W s (U + 1) go := hS.eq (by rw [b52]; exact hS.1) (fun j hj => by rw [b52]) (by rw [hW, uI_ne (by decide)]) (by rw [hW, uI_ne (by decide)])
  have w21 := wR.1
  refine g_iload_n (q := 81) dX7_abouts_80 rfl rfl ?_
  refine g_if_eq (tgt := 121) (q := 84) dX7_abouts_81 (by decide) rfl (fun _ => ?_) (fun c81 => absurd c81 (by decide))
  refine g_aload_n (q := 122) dX7_abouts_121 rfl rfl ?_
  refine gf_X7_44 (q := 125) rfl (by first | assumption | rfl) (by first | assumption | rfl) dX7_abouts_122 rfl ?_
  refine g_iload_n (q := 126) dX7_abouts_125 rfl rfl ?_
  refine g_iconst (q := 127) (v := nI 5) dX7_abouts_126 rfl (by decide) ?_
  refine g_iadd (q := 128) dX7_abouts_127 rfl ?_
  refine g_ialdn (q := 129) (by first | assumption | rfl) (by repeat' first | apply nI_a | apply nI_m | exact rfl) (by omega) dX7_abouts_128 rfl ?_
  rw [wt]
  refine g_iload (q := 131) dX7_abouts_129 rfl rfl ?_
  refine g_icmp_ge (tgt := 170) (q := 134) dX7_abouts_131 (by decide) rfl (fun c131 => absurd c131 (by decide)) (fun _ => ?_)
  refine g_aload_n (q := 135) dX7_abouts_134 rfl rfl ?_
  refine g_aload_n (q := 136) dX7_abouts_135 rfl rfl ?_
  refine g_aload_n (q := 137) dX7_abouts_136 rfl rfl ?_
  refine gf_X7_44 (q := 140) rfl (by first | assumption | rfl) (by first | assumption | rfl) dX7_abouts_137 rfl ?_
  refine g_iload_n (q := 141) dX7_abouts_140 rfl rfl ?_
  refine g_iconst (q := 142) (v := nI 1) dX7_abouts_141 rfl (by decide) ?_
  refine g_iadd (q := 143) dX7_abouts_142 rfl ?_
  refine g_ialdn (q := 144) (by first | assumption | rfl) (by repeat' first | apply nI_a | apply nI_m | exact rfl) (by omega) dX7_abouts_143 rfl ?_
  rw [wE.2.1]
  refine g_aload_n (q := 145) dX7_abouts_144 rfl rfl ?_
  refine gf_X7_44 (q := 148) rfl (by first | assumption | rfl) (by first | assumption | rfl) dX7_abouts_145 rfl ?_
  refine g_iload_n (q := 149) dX7_abouts_148 rfl rfl ?_
  refine g_iconst (q := 150) (v := nI 2) dX7_abouts_149 rfl (by decide) ?_
  refine g_iadd (q := 151) dX7_abouts_150 rfl ?_
  refine g_ialdn (q := 152) (by first | assumption | rfl) (by repeat' first | apply nI_a | apply nI_m | exact rfl) (by omega) dX7_abouts_151 rfl ?_
  rw [wE.2.2.1]
  refine g_aload_n (q := 153) dX7_abouts_152 rfl rfl ?_
  refine gf_X7_44 (q := 156) rfl (by first | assumption | rfl) (by first | assumption | rfl) dX7_abouts_153 rfl ?_
  refine g_iload_n (q := 157) dX7_abouts_156 rfl rfl ?_
  refine g_iconst (q := 158) (v := nI 3) dX7_abouts_157 rfl (by decide) ?_
  refine g_iadd (q := 159) dX7_abouts_158 rfl ?_
  refine g_ialdn (q := 160) (by first | assumption | rfl) (by repeat' first | apply nI_a | apply nI_m | exact rfl) (by omega) dX7_abouts_159 rfl ?_
  rw [wE.2.2.2.1]
  refine g_iload (q := 162) dX7_abouts_160 rfl rfl ?_
  refine g_iconst (q := 163) (v := nI 1) dX7_abouts_162 rfl (by decide) ?_
  refine g_iadd (q := 164) dX7_abouts_163 rfl ?_
  rw [nI_add]
  refine k_X7_200 (q := 167) rfl (Nat.le_of_ble_eq_true rfl) (by first | assumption | rfl) dX7_abouts_164 rfl (c_X7_goesOn hsp wM hV hmt hmt6 w21 (by omega) haj (fun J hP => ?_))
  refine g_goto (q := 235) dX7_abouts_167 (by decide) ?_
  refine g_vret rfl dX7_abouts_235 (Nat.le_refl _) (Nat.le_refl _) ?_
  exact hgo J (AGo.mk wR wE wt wh wF w25 hP)
set_option maxRecDepth 100000 in
set_option maxHeartbeats 400000 in
theorem c_ab_nb4 {d k : Nat} {I : Nat → Nat → Int32} {Q : Option Int32 → Wd → Prop} {p U m x mt a j : Nat} {v : Vv} {s : Rs} {go : Nat → Nat} (hp52 : p = 58 ∨ p = 60) (hsp : shn 68 p = (1, 92)) (hM : MRep I p 0 v) (hV : VOk v) (ha : a < vna v) (haj : a + 1 + j = 5) (hmt : mt < 2 ^ vna v) (hmt6 : mt < 64) (hU : U < 98) (hS : RS v I s (U + 1) go) (hE : Ent I U (nI 1) (nI m) (nI x) (nI mt) (nI a)) (hkd : vfa v a 5 = 4) (ht : I 64 (7 * U + 5) = -1) (hfull : (emF (vfa v a 0) s = none ∨ (vfa v a 0 % 3 = 0 ∧ ∃ s1, emF (vfa v a 0) s = some s1 ∧ emF (vfa v a 0 + 100) s1 = none)) → ∀ J, FrR I J → J 52 29 = nI 1 → Q none (J, RR k)) (hgo : 0 < vfa v a 0 % 3 → ∀ J s1, emF (vfa v a 0) s = some s1 → AGo v I J s1 U go m x mt a 0 j → Q none (J, RR k)) (hend : vfa v a 0 % 3 = 0 → ∀ J s1 s2, emF (vfa v a 0) s = some s1 → emF (vfa v a 0 + 100) s1 = some s2 → AEnd v I J s2 U go 0 (nI (vfa v a 0)) → Q none (J, RR k)) : Ex (d + 2) 0 0 mX7_abouts [.ref 52, .ref p, .int (nI (7 * U)), .int (nI 0)] 68 (I, RR k) 68 Q := by
  obtain ⟨v1, v2, v3, v4⟩ := id hV
  have k4 := v4 a ha

  refine ex_intro (L0 := [.ref 52, .ref p, .int (nI (7 * U)), .int (nI 0), .null, .null, .null, .null]) (by decide +kernel) rfl rfl (Nat.le_of_ble_eq_true rfl) rfl ?_
  refine g_aload_n (q := 1) dX7_abouts_0 rfl rfl ?_
  refine gf_X7_44 (q := 4) rfl (by first | assumption | rfl) (by first | assumption | rfl) dX7_abouts_1 rfl ?_
  refine g_iload_n (q := 5) dX7_abouts_4 rfl rfl ?_
  refine g_iconst (q := 6) (v := nI 4) dX7_abouts_5 rfl (by decide) ?_
  refine g_iadd (q := 7) dX7_abouts_6 rfl ?_
  refine g_ialdn (q := 8) (by first | assumption | rfl) (by repeat' first | apply nI_a | apply nI_m | exact rfl) (by omega) dX7_abouts_7 rfl ?_
  rw [hE.2.2.2.2]
  refine g_istore (q := 10) dX7_abouts_8 rfl (by decide) rfl rfl ?_
  refine g_aload_n (q := 11) dX7_abouts_10 rfl rfl ?_
  refine g_bipush (q := 13) (v := nI 62) dX7_abouts_11 rfl (by decide) ?_
  refine g_bipush (q := 15) (v := nI 6) dX7_abouts_13 rfl (by decide) ?_
  refine g_iload (q := 17) dX7_abouts_15 rfl rfl ?_
  refine g_imul (q := 18) dX7_abouts_17 rfl ?_
  refine g_iadd (q := 19) dX7_abouts_18 rfl ?_
  refine g_ialdn (q := 20) (by first | assumption | rfl) (by repeat' first | apply nI_a | apply nI_m | exact rfl) (by omega) dX7_abouts_19 rfl ?_
  rw [hM.kd ha, hkd]
  refine g_istore (q := 22) dX7_abouts_20 rfl (by decide) rfl rfl ?_
  refine g_aload_n (q := 23) dX7_abouts_22 rfl rfl ?_
  refine g_bipush (q := 25) (v := nI 62) dX7_abouts_23 rfl (by decide) ?_
  refine g_bipush (q := 27) (v := nI 6) dX7_abouts_25 rfl (by decide) ?_
  refine g_iload (q := 29) dX7_abouts_27 rfl rfl ?_
  refine g_imul (q := 30) dX7_abouts_29 rfl ?_
  refine g_iadd (q := 31) dX7_abouts_30 rfl ?_
  refine g_iconst (q := 32) (v := nI 1) dX7_abouts_31 rfl (by decide) ?_
  refine g_iadd (q := 33) dX7_abouts_32 rfl ?_
  refine g_ialdn (q := 34) (by first | assumption | rfl) (by repeat' first | apply nI_a | apply nI_m | exact rfl) (by omega) dX7_abouts_33 rfl ?_
  rw [hM.f0 ha]
  refine g_istore (q := 36) dX7_abouts_34 rfl (by decide) rfl rfl ?_
  refine g_iload (q := 38) dX7_abouts_36 rfl rfl ?_
  refine g_iconst (q := 39) (v := nI 4) dX7_abouts_38 rfl (by decide) ?_
  refine g_icmp_ne (tgt := 49) (q := 42) dX7_abouts_39 (by decide) rfl (fun c39 => absurd c39 (by decide)) (fun _ => ?_)
  refine g_iload (q := 44) dX7_abouts_42 rfl rfl ?_
  refine g_iconst (q := 45) (v := nI 3) dX7_abouts_44 rfl (by decide) ?_
  refine g_irem (q := 46) dX7_abouts_45 rfl (by decide) ?_
  rw [rem3 _ (by omega)]
  refine g_goto (q := 50) dX7_abouts_46 (by decide) ?_
  refine g_istore (q := 52) dX7_abouts_50 rfl (by decide) rfl rfl ?_
  refine g_iload_n (q := 53) dX7_abouts_52 rfl rfl ?_
  refine g_if_ne (tgt := 68) (q := 56) dX7_abouts_53 (by decide) rfl (fun c53 => absurd c53 (by decide)) (fun _ => ?_)
  refine g_iload (q := 58) dX7_abouts_56 rfl rfl ?_
  refine g_iconst (q := 59) (v := nI 4) dX7_abouts_58 rfl (by decide) ?_
  refine g_icmp_lt (tgt := 68) (q := 62) dX7_abouts_59 (by decide) rfl (fun c59 => absurd c59 (by decide)) (fun _ => ?_)
  refine g_aload_n (q := 63) dX7_abouts_62 rfl rfl ?_
  refine g_iload (q := 65) dX7_abouts_63 rfl rfl ?_
  refine k_X7_210 (q := 68) rfl (Nat.le_of_ble_eq_true rfl) (by first | assumption | rfl) dX7_abouts_65 rfl (c_emS hS (fun s1 he1 hR1 => ?_) (fun he1 => ?_))
  · refine g_aload_n (q := 69) dX7_abouts_68 rfl rfl ?_
    refine gf_X7_44 (q := 72) rfl (by first | assumption | rfl) (by first | assumption | rfl) dX7_abouts_69 rfl ?_
    refine g_iload_n (q := 73) dX7_abouts_72 rfl rfl ?_
    refine g_iconst (q := 74) (v := nI 5) dX7_abouts_73 rfl (by decide) ?_
    refine g_iadd (q := 75) dX7_abouts_74 rfl ?_
    refine g_dup2 (q := 76) dX7_abouts_75 rfl rfl rfl ?_
    refine g_ialdn (q := 77) (by first | assumption | rfl) (by repeat' first | apply nI_a | apply nI_m | exact rfl) (by omega) dX7_abouts_76 rfl ?_
    first | rw [ht] | rw [emW_64, ht] | rw [uI_ne (by decide), ht]
    refine g_iconst (q := 78) (v := nI 1) dX7_abouts_77 rfl (by decide) ?_
    refine g_iadd (q := 79) dX7_abouts_78 rfl ?_
    rw [show (-1 : Int32) + nI 1 = nI 0 by decide]
    refine g_iastn (q := 80) (by first | assumption | rfl) (by repeat' first | apply nI_a | apply nI_m | exact rfl) (by omega) dX7_abouts_79 rfl ?_
    obtain ⟨W, hW⟩ : ∃ W, W = uI (emW I s.1.length (vfa v a 0)) 64 (7 * U + 5) (nI 0) := ⟨_, rfl⟩
    rw [← hW]
    have b64 : (emW I s.1.length (vfa v a 0)) 64 = I 64 := emW_64
    have w64 : ∀ i, i ≠ 7 * U + 5 → W 64 i = I 64 i := fun i hi => by rw [hW, uI_n2 hi, b64]
    have wE : Ent W U (nI 1) (nI m) (nI x) (nI mt) (nI a) := hE.to (fun i hi => w64 _ (by omega))
    have wt : W 64 (7 * U + 5) = nI 0 := by rw [hW, uI_eq]
    have wh : ∀ i, i < 7 * U → W 64 i = I 64 i := fun i hi => w64 i (by omega)
    have wF : FrR I W := by rw [hW]; exact FrR.tr emW_fr (FrR.u (Or.inl rfl))
    have wM : MRep W p 0 v := hM.eq (wF.1 p (by omega) (by omega) (by omega) (by omega))
    have b52 : W 52 = (emW I s.1.length (vfa v a 0)) 52 := by rw [hW, uI_ne (by decide)]
    have w25 : W 52 25 = I 52 25 := by rw [b52]; exact emW_f (by decide)
    have w26 : W 52 26 = I 52 26 := by rw [b52]; exact emW_f (by decide)
    have wR : RS v W s1 (U + 1) go := hR1.eq (by rw [b52]; exact hR1.1) (fun j hj => by rw [b52]) (by rw [hW, uI_ne (by decide)]) (by rw [hW, uI_ne (by decide)])
    have w21 := wR.1
    refine g_iload_n (q := 81) dX7_abouts_80 rfl rfl ?_
    refine g_if_eq (tgt := 121) (q := 84) dX7_abouts_81 (by decide) rfl (fun _ => ?_) (fun c81 => absurd c81 (by decide))
    refine g_aload_n (q := 122) dX7_abouts_121 rfl rfl ?_
    refine gf_X7_44 (q := 125) rfl (by first | assumption | rfl) (by first | assumption | rfl) dX7_abouts_122 rfl ?_
    refine g_iload_n (q := 126) dX7_abouts_125 rfl rfl ?_
    refine g_iconst (q := 127) (v := nI 5) dX7_abouts_126 rfl (by decide) ?_
    refine g_iadd (q := 128) dX7_abouts_127 rfl ?_
    refine g_ialdn (q := 129) (by first | assumption | rfl) (by repeat' first | apply nI_a | apply nI_m | exact rfl) (by omega) dX7_abouts_128 rfl ?_
    rw [wt]
    refine g_iload (q := 131) dX7_abouts_129 rfl rfl ?_
    refine g_icmp_ge (tgt := 170) (q := 134) dX7_abouts_131 (by decide) rfl (fun c131 => ?_) (fun c131 => ?_)
    · refine g_iload (q := 172) dX7_abouts_170 rfl rfl ?_
      refine g_iconst (q := 173) (v := nI 4) dX7_abouts_172 rfl (by decide) ?_
      refine g_icmp_ne (tgt := 208) (q := 176) dX7_abouts_173 (by decide) rfl (fun c173 => absurd c173 (by decide)) (fun _ => ?_)
      refine g_aload_n (q := 177) dX7_abouts_176 rfl rfl ?_
      refine g_iload (q := 179) dX7_abouts_177 rfl rfl ?_
      refine g_bipush (q := 181) (v := nI 100) dX7_abouts_179 rfl (by decide) ?_
      refine g_iadd (q := 182) dX7_abouts_181 rfl ?_
      rw [nI_add]
      refine k_X7_210 (q := 185) rfl (Nat.le_of_ble_eq_true rfl) (by first | assumption | rfl) dX7_abouts_182 rfl (c_emS wR (fun s2 he2 hR2 => ?_) (fun he2 => ?_))
      · refine g_aload_n (q := 186) dX7_abouts_185 rfl rfl ?_
        refine g_iconst (q := 187) (v := nI 0) dX7_abouts_186 rfl (by decide) ?_
        refine g_iload_n (q := 188) dX7_abouts_187 rfl rfl ?_
        refine g_if_eq (tgt := 200) (q := 191) dX7_abouts_188 (by decide) rfl (fun _ => ?_) (fun c188 => absurd c188 (by decide))
        refine g_iload (q := 202) dX7_abouts_200 rfl rfl ?_
        refine k_X7_214 (q := 205) rfl (Nat.le_of_ble_eq_true rfl) (by first | assumption | rfl) dX7_abouts_202 rfl (c_ends (U := U) ?_ ?_)
        · first | exact hR2.1 | exact (emW_f (by decide)).trans w21 | exact (uI_n2 (by decide)).trans w21
        refine g_goto (q := 235) dX7_abouts_205 (by decide) ?_
        refine g_vret rfl dX7_abouts_235 (Nat.le_refl _) (Nat.le_refl _) ?_
        exact hend (by have := (nI_leI (by omega) (by omega)).mp c131; omega) _ s1 s2 he1 he2 (AEnd.mk hR2 (fun i hi => by rw [emW_64]; exact wh i hi) (FrR.tr wF emW_fr))
      · refine g_aload_n (q := 186) dX7_abouts_185 rfl rfl ?_
        refine g_iconst (q := 187) (v := nI 0) dX7_abouts_186 rfl (by decide) ?_
        refine g_iload_n (q := 188) dX7_abouts_187 rfl rfl ?_
        refine g_if_eq (tgt := 200) (q := 191) dX7_abouts_188 (by decide) rfl (fun _ => ?_) (fun c188 => absurd c188 (by decide))
        refine g_iload (q := 202) dX7_abouts_200 rfl rfl ?_
        refine k_X7_214 (q := 205) rfl (Nat.le_of_ble_eq_true rfl) (by first | assumption | rfl) dX7_abouts_202 rfl (c_ends (U := U) ?_ ?_)
        · first | exact hR2.1 | exact (emW_f (by decide)).trans w21 | exact (uI_n2 (by decide)).trans w21
        refine g_goto (q := 235) dX7_abouts_205 (by decide) ?_
        refine g_vret rfl dX7_abouts_235 (Nat.le_refl _) (Nat.le_refl _) ?_
        exact hfull (Or.inr ⟨by have := (nI_leI (by omega) (by omega)).mp c131; omega, s1, he1, he2⟩) _ (FrR.tr (FrR.tr wF (FrR.u (by omega))) enW_fr) (by rw [enW_f (by decide) (by decide) (by decide)]; exact uI_eq)
    · refine g_aload_n (q := 135) dX7_abouts_134 rfl rfl ?_
      refine g_aload_n (q := 136) dX7_abouts_135 rfl rfl ?_
      refine g_aload_n (q := 137) dX7_abouts_136 rfl rfl ?_
      refine gf_X7_44 (q := 140) rfl (by first | assumption | rfl) (by first | assumption | rfl) dX7_abouts_137 rfl ?_
      refine g_iload_n (q := 141) dX7_abouts_140 rfl rfl ?_
      refine g_iconst (q := 142) (v := nI 1) dX7_abouts_141 rfl (by decide) ?_
      refine g_iadd (q := 143) dX7_abouts_142 rfl ?_
      refine g_ialdn (q := 144) (by first | assumption | rfl) (by repeat' first | apply nI_a | apply nI_m | exact rfl) (by omega) dX7_abouts_143 rfl ?_
      rw [wE.2.1]
      refine g_aload_n (q := 145) dX7_abouts_144 rfl rfl ?_
      refine gf_X7_44 (q := 148) rfl (by first | assumption | rfl) (by first | assumption | rfl) dX7_abouts_145 rfl ?_
      refine g_iload_n (q := 149) dX7_abouts_148 rfl rfl ?_
      refine g_iconst (q := 150) (v := nI 2) dX7_abouts_149 rfl (by decide) ?_
      refine g_iadd (q := 151) dX7_abouts_150 rfl ?_
      refine g_ialdn (q := 152) (by first | assumption | rfl) (by repeat' first | apply nI_a | apply nI_m | exact rfl) (by omega) dX7_abouts_151 rfl ?_
      rw [wE.2.2.1]
      refine g_aload_n (q := 153) dX7_abouts_152 rfl rfl ?_
      refine gf_X7_44 (q := 156) rfl (by first | assumption | rfl) (by first | assumption | rfl) dX7_abouts_153 rfl ?_
      refine g_iload_n (q := 157) dX7_abouts_156 rfl rfl ?_
      refine g_iconst (q := 158) (v := nI 3) dX7_abouts_157 rfl (by decide) ?_
      refine g_iadd (q := 159) dX7_abouts_158 rfl ?_
      refine g_ialdn (q := 160) (by first | assumption | rfl) (by repeat' first | apply nI_a | apply nI_m | exact rfl) (by omega) dX7_abouts_159 rfl ?_
      rw [wE.2.2.2.1]
      refine g_iload (q := 162) dX7_abouts_160 rfl rfl ?_
      refine g_iconst (q := 163) (v := nI 1) dX7_abouts_162 rfl (by decide) ?_
      refine g_iadd (q := 164) dX7_abouts_163 rfl ?_
      rw [nI_add]
      refine k_X7_200 (q := 167) rfl (Nat.le_of_ble_eq_true rfl) (by first | assumption | rfl) dX7_abouts_164 rfl (c_X7_goesOn hsp wM hV hmt hmt6 w21 (by omega) haj (fun J hP => ?_))
      refine g_goto (q := 235) dX7_abouts_167 (by decide) ?_
      refine g_vret rfl dX7_abouts_235 (Nat.le_refl _) (Nat.le_refl _) ?_
      exact hgo (by apply Nat.pos_of_ne_zero; intro z; rw [z] at c131; exact c131 (Int32.le_refl _)) J s1 he1 (AGo.mk wR wE wt wh wF w25 hP)
  · refine g_aload_n (q := 69) dX7_abouts_68 rfl rfl ?_
    refine gf_X7_44 (q := 72) rfl (by first | assumption | rfl) (by first | assumption | rfl) dX7_abouts_69 rfl ?_
    refine g_iload_n (q := 73) dX7_abouts_72 rfl rfl ?_
    refine g_iconst (q := 74) (v := nI 5) dX7_abouts_73 rfl (by decide) ?_
    refine g_iadd (q := 75) dX7_abouts_74 rfl ?_
    refine g_dup2 (q := 76) dX7_abouts_75 rfl rfl rfl ?_
    refine g_ialdn (q := 77) (by first | assumption | rfl) (by repeat' first | apply nI_a | apply nI_m | exact rfl) (by omega) dX7_abouts_76 rfl ?_
    first | rw [ht] | rw [emW_64, ht] | rw [uI_ne (by decide), ht]
    refine g_iconst (q := 78) (v := nI 1) dX7_abouts_77 rfl (by decide) ?_
    refine g_iadd (q := 79) dX7_abouts_78 rfl ?_
    rw [show (-1 : Int32) + nI 1 = nI 0 by decide]
    refine g_iastn (q := 80) (by first | assumption | rfl) (by repeat' first | apply nI_a | apply nI_m | exact rfl) (by omega) dX7_abouts_79 rfl ?_
    obtain ⟨W, hW⟩ : ∃ W, W = uI (uI I 52 29 (nI 1)) 64 (7 * U + 5) (nI 0) := ⟨_, rfl⟩
    rw [← hW]
    have b64 : (uI I 52 29 (nI 1)) 64 = I 64 := (uI_ne (by decide))
    have w64 : ∀ i, i ≠ 7 * U + 5 → W 64 i = I 64 i := fun i hi => by rw [hW, uI_n2 hi, b64]
    have wE : Ent W U (nI 1) (nI m) (nI x) (nI mt) (nI a) := hE.to (fun i hi => w64 _ (by omega))
    have wt : W 64 (7 * U + 5) = nI 0 := by rw [hW, uI_eq]
    have wh : ∀ i, i < 7 * U → W 64 i = I 64 i := fun i hi => w64 i (by omega)
    have wF : FrR I W := by rw [hW]; exact FrR.tr (FrR.u (by omega)) (FrR.u (Or.inl rfl))
    have wM : MRep W p 0 v := hM.eq (wF.1 p (by omega) (by omega) (by omega) (by omega))
    have b52 : W 52 = (uI I 52 29 (nI 1)) 52 := by rw [hW, uI_ne (by decide)]
    have w25 : W 52 25 = I 52 25 := by rw [b52]; exact uI_n2 (by decide)
    have w26 : W 52 26 = I 52 26 := by rw [b52]; exact uI_n2 (by decide)
    have w21 : W 52 21 = nI (U + 1) := by rw [b52, uI_n2 (by decide)]; exact hS.1
    have w29 : W 52 29 = nI 1 := by rw [b52, uI_eq]
    have w24 : W 52 24 = nI s.1.length := by rw [b52, uI_n2 (by decide)]; exact hS.2.1
    refine g_iload_n (q := 81) dX7_abouts_80 rfl rfl ?_
    refine g_if_eq (tgt := 121) (q := 84) dX7_abouts_81 (by decide) rfl (fun _ => ?_) (fun c81 => absurd c81 (by decide))
    refine g_aload_n (q := 122) dX7_abouts_121 rfl rfl ?_
    refine gf_X7_44 (q := 125) rfl (by first | assumption | rfl) (by first | assumption | rfl) dX7_abouts_122 rfl ?_
    refine g_iload_n (q := 126) dX7_abouts_125 rfl rfl ?_
    refine g_iconst (q := 127) (v := nI 5) dX7_abouts_126 rfl (by decide) ?_
    refine g_iadd (q := 128) dX7_abouts_127 rfl ?_
    refine g_ialdn (q := 129) (by first | assumption | rfl) (by repeat' first | apply nI_a | apply nI_m | exact rfl) (by omega) dX7_abouts_128 rfl ?_
    rw [wt]
    refine g_iload (q := 131) dX7_abouts_129 rfl rfl ?_
    refine g_icmp_ge (tgt := 170) (q := 134) dX7_abouts_131 (by decide) rfl (fun c131 => ?_) (fun c131 => ?_)
    · refine g_iload (q := 172) dX7_abouts_170 rfl rfl ?_
      refine g_iconst (q := 173) (v := nI 4) dX7_abouts_172 rfl (by decide) ?_
      refine g_icmp_ne (tgt := 208) (q := 176) dX7_abouts_173 (by decide) rfl (fun c173 => absurd c173 (by decide)) (fun _ => ?_)
      refine g_aload_n (q := 177) dX7_abouts_176 rfl rfl ?_
      refine g_iload (q := 179) dX7_abouts_177 rfl rfl ?_
      refine g_bipush (q := 181) (v := nI 100) dX7_abouts_179 rfl (by decide) ?_
      refine g_iadd (q := 182) dX7_abouts_181 rfl ?_
      rw [nI_add]
      refine k_X7_210 (q := 185) rfl (Nat.le_of_ble_eq_true rfl) (by first | assumption | rfl) dX7_abouts_182 rfl (c_X7_emits w24 hS.2.2.2.2.2.2.1 (fun hl2 => ?_) (fun hl2 => ?_))
      · refine g_aload_n (q := 186) dX7_abouts_185 rfl rfl ?_
        refine g_iconst (q := 187) (v := nI 0) dX7_abouts_186 rfl (by decide) ?_
        refine g_iload_n (q := 188) dX7_abouts_187 rfl rfl ?_
        refine g_if_eq (tgt := 200) (q := 191) dX7_abouts_188 (by decide) rfl (fun _ => ?_) (fun c188 => absurd c188 (by decide))
        refine g_iload (q := 202) dX7_abouts_200 rfl rfl ?_
        refine k_X7_214 (q := 205) rfl (Nat.le_of_ble_eq_true rfl) (by first | assumption | rfl) dX7_abouts_202 rfl (c_ends (U := U) ?_ ?_)
        · first | exact hR2.1 | exact (emW_f (by decide)).trans w21 | exact (uI_n2 (by decide)).trans w21
        refine g_goto (q := 235) dX7_abouts_205 (by decide) ?_
        refine g_vret rfl dX7_abouts_235 (Nat.le_refl _) (Nat.le_refl _) ?_
        exact hfull (Or.inl he1) _ (FrR.tr (FrR.tr wF (emW_fr)) enW_fr) (by rw [enW_f (by decide) (by decide) (by decide)]; rw [emW_f (by decide)]; exact w29)
      · refine g_aload_n (q := 186) dX7_abouts_185 rfl rfl ?_
        refine g_iconst (q := 187) (v := nI 0) dX7_abouts_186 rfl (by decide) ?_
        refine g_iload_n (q := 188) dX7_abouts_187 rfl rfl ?_
        refine g_if_eq (tgt := 200) (q := 191) dX7_abouts_188 (by decide) rfl (fun _ => ?_) (fun c188 => absurd c188 (by decide))
        refine g_iload (q := 202) dX7_abouts_200 rfl rfl ?_
        refine k_X7_214 (q := 205) rfl (Nat.le_of_ble_eq_true rfl) (by first | assumption | rfl) dX7_abouts_202 rfl (c_ends (U := U) ?_ ?_)
        · first | exact hR2.1 | exact (emW_f (by decide)).trans w21 | exact (uI_n2 (by decide)).trans w21
        refine g_goto (q := 235) dX7_abouts_205 (by decide) ?_
        refine g_vret rfl dX7_abouts_235 (Nat.le_refl _) (Nat.le_refl _) ?_
        exact hfull (Or.inl he1) _ (FrR.tr (FrR.tr wF (FrR.u (by omega))) enW_fr) (by rw [enW_f (by decide) (by decide) (by decide)]; exact uI_eq)
    · refine g_aload_n (q := 135) dX7_abouts_134 rfl rfl ?_
      refine g_aload_n (q := 136) dX7_abouts_135 rfl rfl ?_
      refine g_aload_n (q := 137) dX7_abouts_136 rfl rfl ?_
      refine gf_X7_44 (q := 140) rfl (by first | assumption | rfl) (by first | assumption | rfl) dX7_abouts_137 rfl ?_
      refine g_iload_n (q := 141) dX7_abouts_140 rfl rfl ?_
      refine g_iconst (q := 142) (v := nI 1) dX7_abouts_141 rfl (by decide) ?_
      refine g_iadd (q := 143) dX7_abouts_142 rfl ?_
      refine g_ialdn (q := 144) (by first | assumption | rfl) (by repeat' first | apply nI_a | apply nI_m | exact rfl) (by omega) dX7_abouts_143 rfl ?_
      rw [wE.2.1]
      refine g_aload_n (q := 145) dX7_abouts_144 rfl rfl ?_
      refine gf_X7_44 (q := 148) rfl (by first | assumption | rfl) (by first | assumption | rfl) dX7_abouts_145 rfl ?_
      refine g_iload_n (q := 149) dX7_abouts_148 rfl rfl ?_
      refine g_iconst (q := 150) (v := nI 2) dX7_abouts_149 rfl (by decide) ?_
      refine g_iadd (q := 151) dX7_abouts_150 rfl ?_
      refine g_ialdn (q := 152) (by first | assumption | rfl) (by repeat' first | apply nI_a | apply nI_m | exact rfl) (by omega) dX7_abouts_151 rfl ?_
      rw [wE.2.2.1]
      refine g_aload_n (q := 153) dX7_abouts_152 rfl rfl ?_
      refine gf_X7_44 (q := 156) rfl (by first | assumption | rfl) (by first | assumption | rfl) dX7_abouts_153 rfl ?_
      refine g_iload_n (q := 157) dX7_abouts_156 rfl rfl ?_
      refine g_iconst (q := 158) (v := nI 3) dX7_abouts_157 rfl (by decide) ?_
      refine g_iadd (q := 159) dX7_abouts_158 rfl ?_
      refine g_ialdn (q := 160) (by first | assumption | rfl) (by repeat' first | apply nI_a | apply nI_m | exact rfl) (by omega) dX7_abouts_159 rfl ?_
      rw [wE.2.2.2.1]
      refine g_iload (q := 162) dX7_abouts_160 rfl rfl ?_
      refine g_iconst (q := 163) (v := nI 1) dX7_abouts_162 rfl (by decide) ?_
      refine g_iadd (q := 164) dX7_abouts_163 rfl ?_
      rw [nI_add]
      refine k_X7_200 (q := 167) rfl (Nat.le_of_ble_eq_true rfl) (by first | assumption | rfl) dX7_abouts_164 rfl (c_X7_goesOn hsp wM hV hmt hmt6 w21 (by omega) haj (fun J hP => ?_))
      refine g_goto (q := 235) dX7_abouts_167 (by decide) ?_
      refine g_vret rfl dX7_abouts_235 (Nat.le_refl _) (Nat.le_refl _) ?_
      exact hfull (Or.inl he1) _ (FrR.tr wF hP.fr) ((hP.2.2.2.2.2.2 29 (by decide)).trans w29)
set_option maxRecDepth 100000 in
set_option maxHeartbeats 400000 in
theorem c_ab_nb5 {d k : Nat} {I : Nat → Nat → Int32} {Q : Option Int32 → Wd → Prop} {p U m x mt a j : Nat} {v : Vv} {s : Rs} {go : Nat → Nat} (hp52 : p = 58 ∨ p = 60) (hsp : shn 68 p = (1, 92)) (hM : MRep I p 0 v) (hV : VOk v) (ha : a < vna v) (haj : a + 1 + j = 5) (hmt : mt < 2 ^ vna v) (hmt6 : mt < 64) (hU : U < 98) (hS : RS v I s (U + 1) go) (hE : Ent I U (nI 1) (nI m) (nI x) (nI mt) (nI a)) (hkd : vfa v a 5 = 5) (ht : I 64 (7 * U + 5) = -1) (hfull : emF (vfa v a 0) s = none → ∀ J, FrR I J → J 52 29 = nI 1 → Q none (J, RR k)) (hgo : ∀ J s1, emF (vfa v a 0) s = some s1 → AGo v I J s1 U go m x mt a 0 j → Q none (J, RR k)) : Ex (d + 2) 0 0 mX7_abouts [.ref 52, .ref p, .int (nI (7 * U)), .int (nI 0)] 68 (I, RR k) 68 Q := by
  obtain ⟨v1, v2, v3, v4⟩ := id hV
  have k4 := v4 a ha

  refine ex_intro (L0 := [.ref 52, .ref p, .int (nI (7 * U)), .int (nI 0), .null, .null, .null, .null]) (by decide +kernel) rfl rfl (Nat.le_of_ble_eq_true rfl) rfl ?_
  refine g_aload_n (q := 1) dX7_abouts_0 rfl rfl ?_
  refine gf_X7_44 (q := 4) rfl (by first | assumption | rfl) (by first | assumption | rfl) dX7_abouts_1 rfl ?_
  refine g_iload_n (q := 5) dX7_abouts_4 rfl rfl ?_
  refine g_iconst (q := 6) (v := nI 4) dX7_abouts_5 rfl (by decide) ?_
  refine g_iadd (q := 7) dX7_abouts_6 rfl ?_
  refine g_ialdn (q := 8) (by first | assumption | rfl) (by repeat' first | apply nI_a | apply nI_m | exact rfl) (by omega) dX7_abouts_7 rfl ?_
  rw [hE.2.2.2.2]
  refine g_istore (q := 10) dX7_abouts_8 rfl (by decide) rfl rfl ?_
  refine g_aload_n (q := 11) dX7_abouts_10 rfl rfl ?_
  refine g_bipush (q := 13) (v := nI 62) dX7_abouts_11 rfl (by decide) ?_
  refine g_bipush (q := 15) (v := nI 6) dX7_abouts_13 rfl (by decide) ?_
  refine g_iload (q := 17) dX7_abouts_15 rfl rfl ?_
  refine g_imul (q := 18) dX7_abouts_17 rfl ?_
  refine g_iadd (q := 19) dX7_abouts_18 rfl ?_
  refine g_ialdn (q := 20) (by first | assumption | rfl) (by repeat' first | apply nI_a | apply nI_m | exact rfl) (by omega) dX7_abouts_19 rfl ?_
  rw [hM.kd ha, hkd]
  refine g_istore (q := 22) dX7_abouts_20 rfl (by decide) rfl rfl ?_
  refine g_aload_n (q := 23) dX7_abouts_22 rfl rfl ?_
  refine g_bipush (q := 25) (v := nI 62) dX7_abouts_23 rfl (by decide) ?_
  refine g_bipush (q := 27) (v := nI 6) dX7_abouts_25 rfl (by decide) ?_
  refine g_iload (q := 29) dX7_abouts_27 rfl rfl ?_
  refine g_imul (q := 30) dX7_abouts_29 rfl ?_
  refine g_iadd (q := 31) dX7_abouts_30 rfl ?_
  refine g_iconst (q := 32) (v := nI 1) dX7_abouts_31 rfl (by decide) ?_
  refine g_iadd (q := 33) dX7_abouts_32 rfl ?_
  refine g_ialdn (q := 34) (by first | assumption | rfl) (by repeat' first | apply nI_a | apply nI_m | exact rfl) (by omega) dX7_abouts_33 rfl ?_
  rw [hM.f0 ha]
  refine g_istore (q := 36) dX7_abouts_34 rfl (by decide) rfl rfl ?_
  refine g_iload (q := 38) dX7_abouts_36 rfl rfl ?_
  refine g_iconst (q := 39) (v := nI 4) dX7_abouts_38 rfl (by decide) ?_
  refine g_icmp_ne (tgt := 49) (q := 42) dX7_abouts_39 (by decide) rfl (fun _ => ?_) (fun c39 => absurd c39 (by decide))
  refine g_iconst (q := 50) (v := nI 1) dX7_abouts_49 rfl (by decide) ?_
  refine g_istore (q := 52) dX7_abouts_50 rfl (by decide) rfl rfl ?_
  refine g_iload_n (q := 53) dX7_abouts_52 rfl rfl ?_
  refine g_if_ne (tgt := 68) (q := 56) dX7_abouts_53 (by decide) rfl (fun c53 => absurd c53 (by decide)) (fun _ => ?_)
  refine g_iload (q := 58) dX7_abouts_56 rfl rfl ?_
  refine g_iconst (q := 59) (v := nI 4) dX7_abouts_58 rfl (by decide) ?_
  refine g_icmp_lt (tgt := 68) (q := 62) dX7_abouts_59 (by decide) rfl (fun c59 => absurd c59 (by decide)) (fun _ => ?_)
  refine g_aload_n (q := 63) dX7_abouts_62 rfl rfl ?_
  refine g_iload (q := 65) dX7_abouts_63 rfl rfl ?_
  refine k_X7_210 (q := 68) rfl (Nat.le_of_ble_eq_true rfl) (by first | assumption | rfl) dX7_abouts_65 rfl (c_emS hS (fun s1 he1 hR1 => ?_) (fun he1 => ?_))
  · refine g_aload_n (q := 69) dX7_abouts_68 rfl rfl ?_
    refine gf_X7_44 (q := 72) rfl (by first | assumption | rfl) (by first | assumption | rfl) dX7_abouts_69 rfl ?_
    refine g_iload_n (q := 73) dX7_abouts_72 rfl rfl ?_
    refine g_iconst (q := 74) (v := nI 5) dX7_abouts_73 rfl (by decide) ?_
    refine g_iadd (q := 75) dX7_abouts_74 rfl ?_
    refine g_dup2 (q := 76) dX7_abouts_75 rfl rfl rfl ?_
    refine g_ialdn (q := 77) (by first | assumption | rfl) (by repeat' first | apply nI_a | apply nI_m | exact rfl) (by omega) dX7_abouts_76 rfl ?_
    first | rw [ht] | rw [emW_64, ht] | rw [uI_ne (by decide), ht]
    refine g_iconst (q := 78) (v := nI 1) dX7_abouts_77 rfl (by decide) ?_
    refine g_iadd (q := 79) dX7_abouts_78 rfl ?_
    rw [show (-1 : Int32) + nI 1 = nI 0 by decide]
    refine g_iastn (q := 80) (by first | assumption | rfl) (by repeat' first | apply nI_a | apply nI_m | exact rfl) (by omega) dX7_abouts_79 rfl ?_
    obtain ⟨W, hW⟩ : ∃ W, W = uI (emW I s.1.length (vfa v a 0)) 64 (7 * U + 5) (nI 0) := ⟨_, rfl⟩
    rw [← hW]
    have b64 : (emW I s.1.length (vfa v a 0)) 64 = I 64 := emW_64
    have w64 : ∀ i, i ≠ 7 * U + 5 → W 64 i = I 64 i := fun i hi => by rw [hW, uI_n2 hi, b64]
    have wE : Ent W U (nI 1) (nI m) (nI x) (nI mt) (nI a) := hE.to (fun i hi => w64 _ (by omega))
    have wt : W 64 (7 * U + 5) = nI 0 := by rw [hW, uI_eq]
    have wh : ∀ i, i < 7 * U → W 64 i = I 64 i := fun i hi => w64 i (by omega)
    have wF : FrR I W := by rw [hW]; exact FrR.tr emW_fr (FrR.u (Or.inl rfl))
    have wM : MRep W p 0 v := hM.eq (wF.1 p (by omega) (by omega) (by omega) (by omega))
    have b52 : W 52 = (emW I s.1.length (vfa v a 0)) 52 := by rw [hW, uI_ne (by decide)]
    have w25 : W 52 25 = I 52 25 := by rw [b52]; exact emW_f (by decide)
    have w26 : W 52 26 = I 52 26 := by rw [b52]; exact emW_f (by decide)
    have wR : RS v W s1 (U + 1) go := hR1.eq (by rw [b52]; exact hR1.1) (fun j hj => by rw [b52]) (by rw [hW, uI_ne (by decide)]) (by rw [hW, uI_ne (by decide)])
    have w21 := wR.1
    refine g_iload_n (q := 81) dX7_abouts_80 rfl rfl ?_
    refine g_if_eq (tgt := 121) (q := 84) dX7_abouts_81 (by decide) rfl (fun _ => ?_) (fun c81 => absurd c81 (by decide))
    refine g_aload_n (q := 122) dX7_abouts_121 rfl rfl ?_
    refine gf_X7_44 (q := 125) rfl (by first | assumption | rfl) (by first | assumption | rfl) dX7_abouts_122 rfl ?_
    refine g_iload_n (q := 126) dX7_abouts_125 rfl rfl ?_
    refine g_iconst (q := 127) (v := nI 5) dX7_abouts_126 rfl (by decide) ?_
    refine g_iadd (q := 128) dX7_abouts_127 rfl ?_
    refine g_ialdn (q := 129) (by first | assumption | rfl) (by repeat' first | apply nI_a | apply nI_m | exact rfl) (by omega) dX7_abouts_128 rfl ?_
    rw [wt]
    refine g_iload (q := 131) dX7_abouts_129 rfl rfl ?_
    refine g_icmp_ge (tgt := 170) (q := 134) dX7_abouts_131 (by decide) rfl (fun c131 => absurd c131 (by decide)) (fun _ => ?_)
    refine g_aload_n (q := 135) dX7_abouts_134 rfl rfl ?_
    refine g_aload_n (q := 136) dX7_abouts_135 rfl rfl ?_
    refine g_aload_n (q := 137) dX7_abouts_136 rfl rfl ?_
    refine gf_X7_44 (q := 140) rfl (by first | assumption | rfl) (by first | assumption | rfl) dX7_abouts_137 rfl ?_
    refine g_iload_n (q := 141) dX7_abouts_140 rfl rfl ?_
    refine g_iconst (q := 142) (v := nI 1) dX7_abouts_141 rfl (by decide) ?_
    refine g_iadd (q := 143) dX7_abouts_142 rfl ?_
    refine g_ialdn (q := 144) (by first | assumption | rfl) (by repeat' first | apply nI_a | apply nI_m | exact rfl) (by omega) dX7_abouts_143 rfl ?_
    rw [wE.2.1]
    refine g_aload_n (q := 145) dX7_abouts_144 rfl rfl ?_
    refine gf_X7_44 (q := 148) rfl (by first | assumption | rfl) (by first | assumption | rfl) dX7_abouts_145 rfl ?_
    refine g_iload_n (q := 149) dX7_abouts_148 rfl rfl ?_
    refine g_iconst (q := 150) (v := nI 2) dX7_abouts_149 rfl (by decide) ?_
    refine g_iadd (q := 151) dX7_abouts_150 rfl ?_
    refine g_ialdn (q := 152) (by first | assumption | rfl) (by repeat' first | apply nI_a | apply nI_m | exact rfl) (by omega) dX7_abouts_151 rfl ?_
    rw [wE.2.2.1]
    refine g_aload_n (q := 153) dX7_abouts_152 rfl rfl ?_
    refine gf_X7_44 (q := 156) rfl (by first | assumption | rfl) (by first | assumption | rfl) dX7_abouts_153 rfl ?_
    refine g_iload_n (q := 157) dX7_abouts_156 rfl rfl ?_
    refine g_iconst (q := 158) (v := nI 3) dX7_abouts_157 rfl (by decide) ?_
    refine g_iadd (q := 159) dX7_abouts_158 rfl ?_
    refine g_ialdn (q := 160) (by first | assumption | rfl) (by repeat' first | apply nI_a | apply nI_m | exact rfl) (by omega) dX7_abouts_159 rfl ?_
    rw [wE.2.2.2.1]
    refine g_iload (q := 162) dX7_abouts_160 rfl rfl ?_
    refine g_iconst (q := 163) (v := nI 1) dX7_abouts_162 rfl (by decide) ?_
    refine g_iadd (q := 164) dX7_abouts_163 rfl ?_
    rw [nI_add]
    refine k_X7_200 (q := 167) rfl (Nat.le_of_ble_eq_true rfl) (by first | assumption | rfl) dX7_abouts_164 rfl (c_X7_goesOn hsp wM hV hmt hmt6 w21 (by omega) haj (fun J hP => ?_))
    refine g_goto (q := 235) dX7_abouts_167 (by decide) ?_
    refine g_vret rfl dX7_abouts_235 (Nat.le_refl _) (Nat.le_refl _) ?_
    exact hgo J s1 he1 (AGo.mk wR wE wt wh wF w25 hP)
  · refine g_aload_n (q := 69) dX7_abouts_68 rfl rfl ?_
    refine gf_X7_44 (q := 72) rfl (by first | assumption | rfl) (by first | assumption | rfl) dX7_abouts_69 rfl ?_
    refine g_iload_n (q := 73) dX7_abouts_72 rfl rfl ?_
    refine g_iconst (q := 74) (v := nI 5) dX7_abouts_73 rfl (by decide) ?_
    refine g_iadd (q := 75) dX7_abouts_74 rfl ?_
    refine g_dup2 (q := 76) dX7_abouts_75 rfl rfl rfl ?_
    refine g_ialdn (q := 77) (by first | assumption | rfl) (by repeat' first | apply nI_a | apply nI_m | exact rfl) (by omega) dX7_abouts_76 rfl ?_
    first | rw [ht] | rw [emW_64, ht] | rw [uI_ne (by decide), ht]
    refine g_iconst (q := 78) (v := nI 1) dX7_abouts_77 rfl (by decide) ?_
    refine g_iadd (q := 79) dX7_abouts_78 rfl ?_
    rw [show (-1 : Int32) + nI 1 = nI 0 by decide]
    refine g_iastn (q := 80) (by first | assumption | rfl) (by repeat' first | apply nI_a | apply nI_m | exact rfl) (by omega) dX7_abouts_79 rfl ?_
    obtain ⟨W, hW⟩ : ∃ W, W = uI (uI I 52 29 (nI 1)) 64 (7 * U + 5) (nI 0) := ⟨_, rfl⟩
    rw [← hW]
    have b64 : (uI I 52 29 (nI 1)) 64 = I 64 := (uI_ne (by decide))
    have w64 : ∀ i, i ≠ 7 * U + 5 → W 64 i = I 64 i := fun i hi => by rw [hW, uI_n2 hi, b64]
    have wE : Ent W U (nI 1) (nI m) (nI x) (nI mt) (nI a) := hE.to (fun i hi => w64 _ (by omega))
    have wt : W 64 (7 * U + 5) = nI 0 := by rw [hW, uI_eq]
    have wh : ∀ i, i < 7 * U → W 64 i = I 64 i := fun i hi => w64 i (by omega)
    have wF : FrR I W := by rw [hW]; exact FrR.tr (FrR.u (by omega)) (FrR.u (Or.inl rfl))
    have wM : MRep W p 0 v := hM.eq (wF.1 p (by omega) (by omega) (by omega) (by omega))
    have b52 : W 52 = (uI I 52 29 (nI 1)) 52 := by rw [hW, uI_ne (by decide)]
    have w25 : W 52 25 = I 52 25 := by rw [b52]; exact uI_n2 (by decide)
    have w26 : W 52 26 = I 52 26 := by rw [b52]; exact uI_n2 (by decide)
    have w21 : W 52 21 = nI (U + 1) := by rw [b52, uI_n2 (by decide)]; exact hS.1
    have w29 : W 52 29 = nI 1 := by rw [b52, uI_eq]
    have w24 : W 52 24 = nI s.1.length := by rw [b52, uI_n2 (by decide)]; exact hS.2.1
    refine g_iload_n (q := 81) dX7_abouts_80 rfl rfl ?_
    refine g_if_eq (tgt := 121) (q := 84) dX7_abouts_81 (by decide) rfl (fun _ => ?_) (fun c81 => absurd c81 (by decide))
    refine g_aload_n (q := 122) dX7_abouts_121 rfl rfl ?_
    refine gf_X7_44 (q := 125) rfl (by first | assumption | rfl) (by first | assumption | rfl) dX7_abouts_122 rfl ?_
    refine g_iload_n (q := 126) dX7_abouts_125 rfl rfl ?_
    refine g_iconst (q := 127) (v := nI 5) dX7_abouts_126 rfl (by decide) ?_
    refine g_iadd (q := 128) dX7_abouts_127 rfl ?_
    refine g_ialdn (q := 129) (by first | assumption | rfl) (by repeat' first | apply nI_a | apply nI_m | exact rfl) (by omega) dX7_abouts_128 rfl ?_
    rw [wt]
    refine g_iload (q := 131) dX7_abouts_129 rfl rfl ?_
    refine g_icmp_ge (tgt := 170) (q := 134) dX7_abouts_131 (by decide) rfl (fun c131 => absurd c131 (by decide)) (fun _ => ?_)
    refine g_aload_n (q := 135) dX7_abouts_134 rfl rfl ?_
    refine g_aload_n (q := 136) dX7_abouts_135 rfl rfl ?_
    refine g_aload_n (q := 137) dX7_abouts_136 rfl rfl ?_
    refine gf_X7_44 (q := 140) rfl (by first | assumption | rfl) (by first | assumption | rfl) dX7_abouts_137 rfl ?_
    refine g_iload_n (q := 141) dX7_abouts_140 rfl rfl ?_
    refine g_iconst (q := 142) (v := nI 1) dX7_abouts_141 rfl (by decide) ?_
    refine g_iadd (q := 143) dX7_abouts_142 rfl ?_
    refine g_ialdn (q := 144) (by first | assumption | rfl) (by repeat' first | apply nI_a | apply nI_m | exact rfl) (by omega) dX7_abouts_143 rfl ?_
    rw [wE.2.1]
    refine g_aload_n (q := 145) dX7_abouts_144 rfl rfl ?_
    refine gf_X7_44 (q := 148) rfl (by first | assumption | rfl) (by first | assumption | rfl) dX7_abouts_145 rfl ?_
    refine g_iload_n (q := 149) dX7_abouts_148 rfl rfl ?_
    refine g_iconst (q := 150) (v := nI 2) dX7_abouts_149 rfl (by decide) ?_
    refine g_iadd (q := 151) dX7_abouts_150 rfl ?_
    refine g_ialdn (q := 152) (by first | assumption | rfl) (by repeat' first | apply nI_a | apply nI_m | exact rfl) (by omega) dX7_abouts_151 rfl ?_
    rw [wE.2.2.1]
    refine g_aload_n (q := 153) dX7_abouts_152 rfl rfl ?_
    refine gf_X7_44 (q := 156) rfl (by first | assumption | rfl) (by first | assumption | rfl) dX7_abouts_153 rfl ?_
    refine g_iload_n (q := 157) dX7_abouts_156 rfl rfl ?_
    refine g_iconst (q := 158) (v := nI 3) dX7_abouts_157 rfl (by decide) ?_
    refine g_iadd (q := 159) dX7_abouts_158 rfl ?_
    refine g_ialdn (q := 160) (by first | assumption | rfl) (by repeat' first | apply nI_a | apply nI_m | exact rfl) (by omega) dX7_abouts_159 rfl ?_
    rw [wE.2.2.2.1]
    refine g_iload (q := 162) dX7_abouts_160 rfl rfl ?_
    refine g_iconst (q := 163) (v := nI 1) dX7_abouts_162 rfl (by decide) ?_
    refine g_iadd (q := 164) dX7_abouts_163 rfl ?_
    rw [nI_add]
    refine k_X7_200 (q := 167) rfl (Nat.le_of_ble_eq_true rfl) (by first | assumption | rfl) dX7_abouts_164 rfl (c_X7_goesOn hsp wM hV hmt hmt6 w21 (by omega) haj (fun J hP => ?_))
    refine g_goto (q := 235) dX7_abouts_167 (by decide) ?_
    refine g_vret rfl dX7_abouts_235 (Nat.le_refl _) (Nat.le_refl _) ?_
    exact hfull (he1) _ (FrR.tr wF hP.fr) ((hP.2.2.2.2.2.2 29 (by decide)).trans w29)
set_option maxRecDepth 100000 in
set_option maxHeartbeats 400000 in
theorem c_ab_bo1 {d k : Nat} {I : Nat → Nat → Int32} {Q : Option Int32 → Wd → Prop} {p U m x mt a j : Nat} {v : Vv} {s : Rs} {go : Nat → Nat} {t : Nat} {r : Int32} (hp52 : p = 58 ∨ p = 60) (hsp : shn 68 p = (1, 92)) (hM : MRep I p 0 v) (hV : VOk v) (ha : a < vna v) (haj : a + 1 + j = 5) (hmt : mt < 2 ^ vna v) (hmt6 : mt < 64) (hU : U < 98) (hS : RS v I s (U + 1) go) (hE : Ent I U (nI 1) (nI m) (nI x) (nI mt) (nI a)) (hkd : vfa v a 5 = 1) (ht : I 64 (7 * U + 5) = nI t) (ht9 : t < 1000) (hf : I 52 25 = nI 0) (hr : I 52 26 = r) (hfull : emF (vfa v a 0) s = none → ∀ J, FrR I J → J 52 29 = nI 1 → Q none (J, RR k)) (hend : ∀ J s2, emF (vfa v a 0) s = some s2 → AEnd v I J s2 U go 0 r → Q none (J, RR k)) : Ex (d + 2) 0 0 mX7_abouts [.ref 52, .ref p, .int (nI (7 * U)), .int (nI 1)] 68 (I, RR k) 68 Q := by
  obtain ⟨v1, v2, v3, v4⟩ := id hV
  have k4 := v4 a ha

  refine ex_intro (L0 := [.ref 52, .ref p, .int (nI (7 * U)), .int (nI 1), .null, .null, .null, .null]) (by decide +kernel) rfl rfl (Nat.le_of_ble_eq_true rfl) rfl ?_
  refine g_aload_n (q := 1) dX7_abouts_0 rfl rfl ?_
  refine gf_X7_44 (q := 4) rfl (by first | assumption | rfl) (by first | assumption | rfl) dX7_abouts_1 rfl ?_
  refine g_iload_n (q := 5) dX7_abouts_4 rfl rfl ?_
  refine g_iconst (q := 6) (v := nI 4) dX7_abouts_5 rfl (by decide) ?_
  refine g_iadd (q := 7) dX7_abouts_6 rfl ?_
  refine g_ialdn (q := 8) (by first | assumption | rfl) (by repeat' first | apply nI_a | apply nI_m | exact rfl) (by omega) dX7_abouts_7 rfl ?_
  rw [hE.2.2.2.2]
  refine g_istore (q := 10) dX7_abouts_8 rfl (by decide) rfl rfl ?_
  refine g_aload_n (q := 11) dX7_abouts_10 rfl rfl ?_
  refine g_bipush (q := 13) (v := nI 62) dX7_abouts_11 rfl (by decide) ?_
  refine g_bipush (q := 15) (v := nI 6) dX7_abouts_13 rfl (by decide) ?_
  refine g_iload (q := 17) dX7_abouts_15 rfl rfl ?_
  refine g_imul (q := 18) dX7_abouts_17 rfl ?_
  refine g_iadd (q := 19) dX7_abouts_18 rfl ?_
  refine g_ialdn (q := 20) (by first | assumption | rfl) (by repeat' first | apply nI_a | apply nI_m | exact rfl) (by omega) dX7_abouts_19 rfl ?_
  rw [hM.kd ha, hkd]
  refine g_istore (q := 22) dX7_abouts_20 rfl (by decide) rfl rfl ?_
  refine g_aload_n (q := 23) dX7_abouts_22 rfl rfl ?_
  refine g_bipush (q := 25) (v := nI 62) dX7_abouts_23 rfl (by decide) ?_
  refine g_bipush (q := 27) (v := nI 6) dX7_abouts_25 rfl (by decide) ?_
  refine g_iload (q := 29) dX7_abouts_27 rfl rfl ?_
  refine g_imul (q := 30) dX7_abouts_29 rfl ?_
  refine g_iadd (q := 31) dX7_abouts_30 rfl ?_
  refine g_iconst (q := 32) (v := nI 1) dX7_abouts_31 rfl (by decide) ?_
  refine g_iadd (q := 33) dX7_abouts_32 rfl ?_
  refine g_ialdn (q := 34) (by first | assumption | rfl) (by repeat' first | apply nI_a | apply nI_m | exact rfl) (by omega) dX7_abouts_33 rfl ?_
  rw [hM.f0 ha]
  refine g_istore (q := 36) dX7_abouts_34 rfl (by decide) rfl rfl ?_
  refine g_iload (q := 38) dX7_abouts_36 rfl rfl ?_
  refine g_iconst (q := 39) (v := nI 4) dX7_abouts_38 rfl (by decide) ?_
  refine g_icmp_ne (tgt := 49) (q := 42) dX7_abouts_39 (by decide) rfl (fun _ => ?_) (fun c39 => absurd c39 (by decide))
  refine g_iconst (q := 50) (v := nI 1) dX7_abouts_49 rfl (by decide) ?_
  refine g_istore (q := 52) dX7_abouts_50 rfl (by decide) rfl rfl ?_
  refine g_iload_n (q := 53) dX7_abouts_52 rfl rfl ?_
  refine g_if_ne (tgt := 68) (q := 56) dX7_abouts_53 (by decide) rfl (fun _ => ?_) (fun c53 => absurd c53 (by decide))
  refine g_aload_n (q := 69) dX7_abouts_68 rfl rfl ?_
  refine gf_X7_44 (q := 72) rfl (by first | assumption | rfl) (by first | assumption | rfl) dX7_abouts_69 rfl ?_
  refine g_iload_n (q := 73) dX7_abouts_72 rfl rfl ?_
  refine g_iconst (q := 74) (v := nI 5) dX7_abouts_73 rfl (by decide) ?_
  refine g_iadd (q := 75) dX7_abouts_74 rfl ?_
  refine g_dup2 (q := 76) dX7_abouts_75 rfl rfl rfl ?_
  refine g_ialdn (q := 77) (by first | assumption | rfl) (by repeat' first | apply nI_a | apply nI_m | exact rfl) (by omega) dX7_abouts_76 rfl ?_
  rw [ht]
  refine g_iconst (q := 78) (v := nI 1) dX7_abouts_77 rfl (by decide) ?_
  refine g_iadd (q := 79) dX7_abouts_78 rfl ?_
  rw [nI_add]
  refine g_iastn (q := 80) (by first | assumption | rfl) (by repeat' first | apply nI_a | apply nI_m | exact rfl) (by omega) dX7_abouts_79 rfl ?_
  obtain ⟨W, hW⟩ : ∃ W, W = uI (I) 64 (7 * U + 5) (nI (t + 1)) := ⟨_, rfl⟩
  rw [← hW]
  have b64 : (I) 64 = I 64 := rfl
  have w64 : ∀ i, i ≠ 7 * U + 5 → W 64 i = I 64 i := fun i hi => by rw [hW, uI_n2 hi, b64]
  have wE : Ent W U (nI 1) (nI m) (nI x) (nI mt) (nI a) := hE.to (fun i hi => w64 _ (by omega))
  have wt : W 64 (7 * U + 5) = nI (t + 1) := by rw [hW, uI_eq]
  have wh : ∀ i, i < 7 * U → W 64 i = I 64 i := fun i hi => w64 i (by omega)
  have wF : FrR I W := by rw [hW]; exact FrR.tr FrR.rf (FrR.u (Or.inl rfl))
  have wM : MRep W p 0 v := hM.eq (wF.1 p (by omega) (by omega) (by omega) (by omega))
  have b52 : W 52 = (I) 52 := by rw [hW, uI_ne (by decide)]
  have w25 : W 52 25 = I 52 25 := by rw [b52]
  have w26 : W 52 26 = I 52 26 := by rw [b52]
  have wR : RS v W s (U + 1) go := hS.eq (by rw [b52]; exact hS.1) (fun j hj => by rw [b52]) (by rw [hW, uI_ne (by decide)]) (by rw [hW, uI_ne (by decide)])
  have w21 := wR.1
  refine g_iload_n (q := 81) dX7_abouts_80 rfl rfl ?_
  refine g_if_eq (tgt := 121) (q := 84) dX7_abouts_81 (by decide) rfl (fun c81 => absurd c81 (by decide)) (fun _ => ?_)
  refine g_aload_n (q := 85) dX7_abouts_84 rfl rfl ?_
  refine gf_X7_204 (q := 88) rfl (by first | assumption | rfl) dX7_abouts_85 rfl ?_
  rw [w25, hf]
  refine g_if_le (tgt := 121) (q := 91) dX7_abouts_88 (by decide) rfl (fun _ => ?_) (fun c88 => absurd c88 (by decide))
  refine g_aload_n (q := 122) dX7_abouts_121 rfl rfl ?_
  refine gf_X7_44 (q := 125) rfl (by first | assumption | rfl) (by first | assumption | rfl) dX7_abouts_122 rfl ?_
  refine g_iload_n (q := 126) dX7_abouts_125 rfl rfl ?_
  refine g_iconst (q := 127) (v := nI 5) dX7_abouts_126 rfl (by decide) ?_
  refine g_iadd (q := 128) dX7_abouts_127 rfl ?_
  refine g_ialdn (q := 129) (by first | assumption | rfl) (by repeat' first | apply nI_a | apply nI_m | exact rfl) (by omega) dX7_abouts_128 rfl ?_
  rw [wt]
  refine g_iload (q := 131) dX7_abouts_129 rfl rfl ?_
  refine g_icmp_ge (tgt := 170) (q := 134) dX7_abouts_131 (by decide) rfl (fun _ => ?_) (fun c131 => absurd (nI_le (show 1 ≤ t + 1 by omega) (by omega)) c131)
  refine g_iload (q := 172) dX7_abouts_170 rfl rfl ?_
  refine g_iconst (q := 173) (v := nI 4) dX7_abouts_172 rfl (by decide) ?_
  refine g_icmp_ne (tgt := 208) (q := 176) dX7_abouts_173 (by decide) rfl (fun _ => ?_) (fun c173 => absurd c173 (by decide))
  refine g_iload (q := 210) dX7_abouts_208 rfl rfl ?_
  refine g_iconst (q := 211) (v := nI 1) dX7_abouts_210 rfl (by decide) ?_
  refine g_icmp_eq (tgt := 220) (q := 214) dX7_abouts_211 (by decide) rfl (fun _ => ?_) (fun c211 => absurd c211 (by decide))
  refine g_aload_n (q := 221) dX7_abouts_220 rfl rfl ?_
  refine g_iload (q := 223) dX7_abouts_221 rfl rfl ?_
  refine k_X7_210 (q := 226) rfl (Nat.le_of_ble_eq_true rfl) (by first | assumption | rfl) dX7_abouts_223 rfl (c_emS wR (fun s2 he2 hR2 => ?_) (fun he2 => ?_))
  · refine g_aload_n (q := 227) dX7_abouts_226 rfl rfl ?_
    refine g_iconst (q := 228) (v := nI 0) dX7_abouts_227 rfl (by decide) ?_
    refine g_aload_n (q := 229) dX7_abouts_228 rfl rfl ?_
    refine gf_X7_207 (q := 232) rfl (by first | assumption | rfl) dX7_abouts_229 rfl ?_
    first | rw [w26, hr] | rw [emW_f (by decide), w26, hr] | rw [uI_n2 (by decide), w26, hr]
    refine k_X7_214 (q := 235) rfl (Nat.le_of_ble_eq_true rfl) (by first | assumption | rfl) dX7_abouts_232 rfl (c_ends (U := U) ?_ ?_)
    · first | exact hR2.1 | exact w21 | exact (uI_n2 (by decide)).trans w21
    refine g_vret rfl dX7_abouts_235 (Nat.le_refl _) (Nat.le_refl _) ?_
    exact hend _ s2 he2 (AEnd.mk hR2 (fun i hi => by rw [emW_64]; exact wh i hi) (FrR.tr wF emW_fr))
  · refine g_aload_n (q := 227) dX7_abouts_226 rfl rfl ?_
    refine g_iconst (q := 228) (v := nI 0) dX7_abouts_227 rfl (by decide) ?_
    refine g_aload_n (q := 229) dX7_abouts_228 rfl rfl ?_
    refine gf_X7_207 (q := 232) rfl (by first | assumption | rfl) dX7_abouts_229 rfl ?_
    first | rw [w26, hr] | rw [emW_f (by decide), w26, hr] | rw [uI_n2 (by decide), w26, hr]
    refine k_X7_214 (q := 235) rfl (Nat.le_of_ble_eq_true rfl) (by first | assumption | rfl) dX7_abouts_232 rfl (c_ends (U := U) ?_ ?_)
    · first | exact hR2.1 | exact w21 | exact (uI_n2 (by decide)).trans w21
    refine g_vret rfl dX7_abouts_235 (Nat.le_refl _) (Nat.le_refl _) ?_
    exact hfull (he2) _ (FrR.tr (FrR.tr wF (FrR.u (by omega))) enW_fr) (by rw [enW_f (by decide) (by decide) (by decide)]; exact uI_eq)
set_option maxRecDepth 100000 in
set_option maxHeartbeats 400000 in
theorem c_ab_bo2 {d k : Nat} {I : Nat → Nat → Int32} {Q : Option Int32 → Wd → Prop} {p U m x mt a j : Nat} {v : Vv} {s : Rs} {go : Nat → Nat} {t : Nat} {r : Int32} (hp52 : p = 58 ∨ p = 60) (hsp : shn 68 p = (1, 92)) (hM : MRep I p 0 v) (hV : VOk v) (ha : a < vna v) (haj : a + 1 + j = 5) (hmt : mt < 2 ^ vna v) (hmt6 : mt < 64) (hU : U < 98) (hS : RS v I s (U + 1) go) (hE : Ent I U (nI 1) (nI m) (nI x) (nI mt) (nI a)) (hkd : vfa v a 5 = 2) (ht : I 64 (7 * U + 5) = nI t) (ht9 : t < 1000) (hf : I 52 25 = nI 0) (hr : I 52 26 = r) (hfull : emF (vfa v a 0) s = none → ∀ J, FrR I J → J 52 29 = nI 1 → Q none (J, RR k)) (hend : ∀ J s2, emF (vfa v a 0) s = some s2 → AEnd v I J s2 U go 0 r → Q none (J, RR k)) : Ex (d + 2) 0 0 mX7_abouts [.ref 52, .ref p, .int (nI (7 * U)), .int (nI 1)] 68 (I, RR k) 68 Q := by
  obtain ⟨v1, v2, v3, v4⟩ := id hV
  have k4 := v4 a ha

  refine ex_intro (L0 := [.ref 52, .ref p, .int (nI (7 * U)), .int (nI 1), .null, .null, .null, .null]) (by decide +kernel) rfl rfl (Nat.le_of_ble_eq_true rfl) rfl ?_
  refine g_aload_n (q := 1) dX7_abouts_0 rfl rfl ?_
  refine gf_X7_44 (q := 4) rfl (by first | assumption | rfl) (by first | assumption | rfl) dX7_abouts_1 rfl ?_
  refine g_iload_n (q := 5) dX7_abouts_4 rfl rfl ?_
  refine g_iconst (q := 6) (v := nI 4) dX7_abouts_5 rfl (by decide) ?_
  refine g_iadd (q := 7) dX7_abouts_6 rfl ?_
  refine g_ialdn (q := 8) (by first | assumption | rfl) (by repeat' first | apply nI_a | apply nI_m | exact rfl) (by omega) dX7_abouts_7 rfl ?_
  rw [hE.2.2.2.2]
  refine g_istore (q := 10) dX7_abouts_8 rfl (by decide) rfl rfl ?_
  refine g_aload_n (q := 11) dX7_abouts_10 rfl rfl ?_
  refine g_bipush (q := 13) (v := nI 62) dX7_abouts_11 rfl (by decide) ?_
  refine g_bipush (q := 15) (v := nI 6) dX7_abouts_13 rfl (by decide) ?_
  refine g_iload (q := 17) dX7_abouts_15 rfl rfl ?_
  refine g_imul (q := 18) dX7_abouts_17 rfl ?_
  refine g_iadd (q := 19) dX7_abouts_18 rfl ?_
  refine g_ialdn (q := 20) (by first | assumption | rfl) (by repeat' first | apply nI_a | apply nI_m | exact rfl) (by omega) dX7_abouts_19 rfl ?_
  rw [hM.kd ha, hkd]
  refine g_istore (q := 22) dX7_abouts_20 rfl (by decide) rfl rfl ?_
  refine g_aload_n (q := 23) dX7_abouts_22 rfl rfl ?_
  refine g_bipush (q := 25) (v := nI 62) dX7_abouts_23 rfl (by decide) ?_
  refine g_bipush (q := 27) (v := nI 6) dX7_abouts_25 rfl (by decide) ?_
  refine g_iload (q := 29) dX7_abouts_27 rfl rfl ?_
  refine g_imul (q := 30) dX7_abouts_29 rfl ?_
  refine g_iadd (q := 31) dX7_abouts_30 rfl ?_
  refine g_iconst (q := 32) (v := nI 1) dX7_abouts_31 rfl (by decide) ?_
  refine g_iadd (q := 33) dX7_abouts_32 rfl ?_
  refine g_ialdn (q := 34) (by first | assumption | rfl) (by repeat' first | apply nI_a | apply nI_m | exact rfl) (by omega) dX7_abouts_33 rfl ?_
  rw [hM.f0 ha]
  refine g_istore (q := 36) dX7_abouts_34 rfl (by decide) rfl rfl ?_
  refine g_iload (q := 38) dX7_abouts_36 rfl rfl ?_
  refine g_iconst (q := 39) (v := nI 4) dX7_abouts_38 rfl (by decide) ?_
  refine g_icmp_ne (tgt := 49) (q := 42) dX7_abouts_39 (by decide) rfl (fun _ => ?_) (fun c39 => absurd c39 (by decide))
  refine g_iconst (q := 50) (v := nI 1) dX7_abouts_49 rfl (by decide) ?_
  refine g_istore (q := 52) dX7_abouts_50 rfl (by decide) rfl rfl ?_
  refine g_iload_n (q := 53) dX7_abouts_52 rfl rfl ?_
  refine g_if_ne (tgt := 68) (q := 56) dX7_abouts_53 (by decide) rfl (fun _ => ?_) (fun c53 => absurd c53 (by decide))
  refine g_aload_n (q := 69) dX7_abouts_68 rfl rfl ?_
  refine gf_X7_44 (q := 72) rfl (by first | assumption | rfl) (by first | assumption | rfl) dX7_abouts_69 rfl ?_
  refine g_iload_n (q := 73) dX7_abouts_72 rfl rfl ?_
  refine g_iconst (q := 74) (v := nI 5) dX7_abouts_73 rfl (by decide) ?_
  refine g_iadd (q := 75) dX7_abouts_74 rfl ?_
  refine g_dup2 (q := 76) dX7_abouts_75 rfl rfl rfl ?_
  refine g_ialdn (q := 77) (by first | assumption | rfl) (by repeat' first | apply nI_a | apply nI_m | exact rfl) (by omega) dX7_abouts_76 rfl ?_
  rw [ht]
  refine g_iconst (q := 78) (v := nI 1) dX7_abouts_77 rfl (by decide) ?_
  refine g_iadd (q := 79) dX7_abouts_78 rfl ?_
  rw [nI_add]
  refine g_iastn (q := 80) (by first | assumption | rfl) (by repeat' first | apply nI_a | apply nI_m | exact rfl) (by omega) dX7_abouts_79 rfl ?_
  obtain ⟨W, hW⟩ : ∃ W, W = uI (I) 64 (7 * U + 5) (nI (t + 1)) := ⟨_, rfl⟩
  rw [← hW]
  have b64 : (I) 64 = I 64 := rfl
  have w64 : ∀ i, i ≠ 7 * U + 5 → W 64 i = I 64 i := fun i hi => by rw [hW, uI_n2 hi, b64]
  have wE : Ent W U (nI 1) (nI m) (nI x) (nI mt) (nI a) := hE.to (fun i hi => w64 _ (by omega))
  have wt : W 64 (7 * U + 5) = nI (t + 1) := by rw [hW, uI_eq]
  have wh : ∀ i, i < 7 * U → W 64 i = I 64 i := fun i hi => w64 i (by omega)
  have wF : FrR I W := by rw [hW]; exact FrR.tr FrR.rf (FrR.u (Or.inl rfl))
  have wM : MRep W p 0 v := hM.eq (wF.1 p (by omega) (by omega) (by omega) (by omega))
  have b52 : W 52 = (I) 52 := by rw [hW, uI_ne (by decide)]
  have w25 : W 52 25 = I 52 25 := by rw [b52]
  have w26 : W 52 26 = I 52 26 := by rw [b52]
  have wR : RS v W s (U + 1) go := hS.eq (by rw [b52]; exact hS.1) (fun j hj => by rw [b52]) (by rw [hW, uI_ne (by decide)]) (by rw [hW, uI_ne (by decide)])
  have w21 := wR.1
  refine g_iload_n (q := 81) dX7_abouts_80 rfl rfl ?_
  refine g_if_eq (tgt := 121) (q := 84) dX7_abouts_81 (by decide) rfl (fun c81 => absurd c81 (by decide)) (fun _ => ?_)
  refine g_aload_n (q := 85) dX7_abouts_84 rfl rfl ?_
  refine gf_X7_204 (q := 88) rfl (by first | assumption | rfl) dX7_abouts_85 rfl ?_
  rw [w25, hf]
  refine g_if_le (tgt := 121) (q := 91) dX7_abouts_88 (by decide) rfl (fun _ => ?_) (fun c88 => absurd c88 (by decide))
  refine g_aload_n (q := 122) dX7_abouts_121 rfl rfl ?_
  refine gf_X7_44 (q := 125) rfl (by first | assumption | rfl) (by first | assumption | rfl) dX7_abouts_122 rfl ?_
  refine g_iload_n (q := 126) dX7_abouts_125 rfl rfl ?_
  refine g_iconst (q := 127) (v := nI 5) dX7_abouts_126 rfl (by decide) ?_
  refine g_iadd (q := 128) dX7_abouts_127 rfl ?_
  refine g_ialdn (q := 129) (by first | assumption | rfl) (by repeat' first | apply nI_a | apply nI_m | exact rfl) (by omega) dX7_abouts_128 rfl ?_
  rw [wt]
  refine g_iload (q := 131) dX7_abouts_129 rfl rfl ?_
  refine g_icmp_ge (tgt := 170) (q := 134) dX7_abouts_131 (by decide) rfl (fun _ => ?_) (fun c131 => absurd (nI_le (show 1 ≤ t + 1 by omega) (by omega)) c131)
  refine g_iload (q := 172) dX7_abouts_170 rfl rfl ?_
  refine g_iconst (q := 173) (v := nI 4) dX7_abouts_172 rfl (by decide) ?_
  refine g_icmp_ne (tgt := 208) (q := 176) dX7_abouts_173 (by decide) rfl (fun _ => ?_) (fun c173 => absurd c173 (by decide))
  refine g_iload (q := 210) dX7_abouts_208 rfl rfl ?_
  refine g_iconst (q := 211) (v := nI 1) dX7_abouts_210 rfl (by decide) ?_
  refine g_icmp_eq (tgt := 220) (q := 214) dX7_abouts_211 (by decide) rfl (fun c211 => absurd c211 (by decide)) (fun _ => ?_)
  refine g_iload (q := 216) dX7_abouts_214 rfl rfl ?_
  refine g_iconst (q := 217) (v := nI 2) dX7_abouts_216 rfl (by decide) ?_
  refine g_icmp_ne (tgt := 226) (q := 220) dX7_abouts_217 (by decide) rfl (fun c217 => absurd c217 (by decide)) (fun _ => ?_)
  refine g_aload_n (q := 221) dX7_abouts_220 rfl rfl ?_
  refine g_iload (q := 223) dX7_abouts_221 rfl rfl ?_
  refine k_X7_210 (q := 226) rfl (Nat.le_of_ble_eq_true rfl) (by first | assumption | rfl) dX7_abouts_223 rfl (c_emS wR (fun s2 he2 hR2 => ?_) (fun he2 => ?_))
  · refine g_aload_n (q := 227) dX7_abouts_226 rfl rfl ?_
    refine g_iconst (q := 228) (v := nI 0) dX7_abouts_227 rfl (by decide) ?_
    refine g_aload_n (q := 229) dX7_abouts_228 rfl rfl ?_
    refine gf_X7_207 (q := 232) rfl (by first | assumption | rfl) dX7_abouts_229 rfl ?_
    first | rw [w26, hr] | rw [emW_f (by decide), w26, hr] | rw [uI_n2 (by decide), w26, hr]
    refine k_X7_214 (q := 235) rfl (Nat.le_of_ble_eq_true rfl) (by first | assumption | rfl) dX7_abouts_232 rfl (c_ends (U := U) ?_ ?_)
    · first | exact hR2.1 | exact w21 | exact (uI_n2 (by decide)).trans w21
    refine g_vret rfl dX7_abouts_235 (Nat.le_refl _) (Nat.le_refl _) ?_
    exact hend _ s2 he2 (AEnd.mk hR2 (fun i hi => by rw [emW_64]; exact wh i hi) (FrR.tr wF emW_fr))
  · refine g_aload_n (q := 227) dX7_abouts_226 rfl rfl ?_
    refine g_iconst (q := 228) (v := nI 0) dX7_abouts_227 rfl (by decide) ?_
    refine g_aload_n (q := 229) dX7_abouts_228 rfl rfl ?_
    refine gf_X7_207 (q := 232) rfl (by first | assumption | rfl) dX7_abouts_229 rfl ?_
    first | rw [w26, hr] | rw [emW_f (by decide), w26, hr] | rw [uI_n2 (by decide), w26, hr]
    refine k_X7_214 (q := 235) rfl (Nat.le_of_ble_eq_true rfl) (by first | assumption | rfl) dX7_abouts_232 rfl (c_ends (U := U) ?_ ?_)
    · first | exact hR2.1 | exact w21 | exact (uI_n2 (by decide)).trans w21
    refine g_vret rfl dX7_abouts_235 (Nat.le_refl _) (Nat.le_refl _) ?_
    exact hfull (he2) _ (FrR.tr (FrR.tr wF (FrR.u (by omega))) enW_fr) (by rw [enW_f (by decide) (by decide) (by decide)]; exact uI_eq)
set_option maxRecDepth 100000 in
set_option maxHeartbeats 400000 in
theorem c_ab_bo3 {d k : Nat} {I : Nat → Nat → Int32} {Q : Option Int32 → Wd → Prop} {p U m x mt a j : Nat} {v : Vv} {s : Rs} {go : Nat → Nat} {t : Nat} {r : Int32} (hp52 : p = 58 ∨ p = 60) (hsp : shn 68 p = (1, 92)) (hM : MRep I p 0 v) (hV : VOk v) (ha : a < vna v) (haj : a + 1 + j = 5) (hmt : mt < 2 ^ vna v) (hmt6 : mt < 64) (hU : U < 98) (hS : RS v I s (U + 1) go) (hE : Ent I U (nI 1) (nI m) (nI x) (nI mt) (nI a)) (hkd : vfa v a 5 = 3) (ht : I 64 (7 * U + 5) = nI t) (ht9 : t < 1000) (hf : I 52 25 = nI 0) (hr : I 52 26 = r) (hfull : False → ∀ J, FrR I J → J 52 29 = nI 1 → Q none (J, RR k)) (hend : ∀ J, AEnd v I J s U go 0 r → Q none (J, RR k)) : Ex (d + 2) 0 0 mX7_abouts [.ref 52, .ref p, .int (nI (7 * U)), .int (nI 1)] 68 (I, RR k) 68 Q := by
  obtain ⟨v1, v2, v3, v4⟩ := id hV
  have k4 := v4 a ha

  refine ex_intro (L0 := [.ref 52, .ref p, .int (nI (7 * U)), .int (nI 1), .null, .null, .null, .null]) (by decide +kernel) rfl rfl (Nat.le_of_ble_eq_true rfl) rfl ?_
  refine g_aload_n (q := 1) dX7_abouts_0 rfl rfl ?_
  refine gf_X7_44 (q := 4) rfl (by first | assumption | rfl) (by first | assumption | rfl) dX7_abouts_1 rfl ?_
  refine g_iload_n (q := 5) dX7_abouts_4 rfl rfl ?_
  refine g_iconst (q := 6) (v := nI 4) dX7_abouts_5 rfl (by decide) ?_
  refine g_iadd (q := 7) dX7_abouts_6 rfl ?_
  refine g_ialdn (q := 8) (by first | assumption | rfl) (by repeat' first | apply nI_a | apply nI_m | exact rfl) (by omega) dX7_abouts_7 rfl ?_
  rw [hE.2.2.2.2]
  refine g_istore (q := 10) dX7_abouts_8 rfl (by decide) rfl rfl ?_
  refine g_aload_n (q := 11) dX7_abouts_10 rfl rfl ?_
  refine g_bipush (q := 13) (v := nI 62) dX7_abouts_11 rfl (by decide) ?_
  refine g_bipush (q := 15) (v := nI 6) dX7_abouts_13 rfl (by decide) ?_
  refine g_iload (q := 17) dX7_abouts_15 rfl rfl ?_
  refine g_imul (q := 18) dX7_abouts_17 rfl ?_
  refine g_iadd (q := 19) dX7_abouts_18 rfl ?_
  refine g_ialdn (q := 20) (by first | assumption | rfl) (by repeat' first | apply nI_a | apply nI_m | exact rfl) (by omega) dX7_abouts_19 rfl ?_
  rw [hM.kd ha, hkd]
  refine g_istore (q := 22) dX7_abouts_20 rfl (by decide) rfl rfl ?_
  refine g_aload_n (q := 23) dX7_abouts_22 rfl rfl ?_
  refine g_bipush (q := 25) (v := nI 62) dX7_abouts_23 rfl (by decide) ?_
  refine g_bipush (q := 27) (v := nI 6) dX7_abouts_25 rfl (by decide) ?_
  refine g_iload (q := 29) dX7_abouts_27 rfl rfl ?_
  refine g_imul (q := 30) dX7_abouts_29 rfl ?_
  refine g_iadd (q := 31) dX7_abouts_30 rfl ?_
  refine g_iconst (q := 32) (v := nI 1) dX7_abouts_31 rfl (by decide) ?_
  refine g_iadd (q := 33) dX7_abouts_32 rfl ?_
  refine g_ialdn (q := 34) (by first | assumption | rfl) (by repeat' first | apply nI_a | apply nI_m | exact rfl) (by omega) dX7_abouts_33 rfl ?_
  rw [hM.f0 ha]
  refine g_istore (q := 36) dX7_abouts_34 rfl (by decide) rfl rfl ?_
  refine g_iload (q := 38) dX7_abouts_36 rfl rfl ?_
  refine g_iconst (q := 39) (v := nI 4) dX7_abouts_38 rfl (by decide) ?_
  refine g_icmp_ne (tgt := 49) (q := 42) dX7_abouts_39 (by decide) rfl (fun _ => ?_) (fun c39 => absurd c39 (by decide))
  refine g_iconst (q := 50) (v := nI 1) dX7_abouts_49 rfl (by decide) ?_
  refine g_istore (q := 52) dX7_abouts_50 rfl (by decide) rfl rfl ?_
  refine g_iload_n (q := 53) dX7_abouts_52 rfl rfl ?_
  refine g_if_ne (tgt := 68) (q := 56) dX7_abouts_53 (by decide) rfl (fun _ => ?_) (fun c53 => absurd c53 (by decide))
  refine g_aload_n (q := 69) dX7_abouts_68 rfl rfl ?_
  refine gf_X7_44 (q := 72) rfl (by first | assumption | rfl) (by first | assumption | rfl) dX7_abouts_69 rfl ?_
  refine g_iload_n (q := 73) dX7_abouts_72 rfl rfl ?_
  refine g_iconst (q := 74) (v := nI 5) dX7_abouts_73 rfl (by decide) ?_
  refine g_iadd (q := 75) dX7_abouts_74 rfl ?_
  refine g_dup2 (q := 76) dX7_abouts_75 rfl rfl rfl ?_
  refine g_ialdn (q := 77) (by first | assumption | rfl) (by repeat' first | apply nI_a | apply nI_m | exact rfl) (by omega) dX7_abouts_76 rfl ?_
  rw [ht]
  refine g_iconst (q := 78) (v := nI 1) dX7_abouts_77 rfl (by decide) ?_
  refine g_iadd (q := 79) dX7_abouts_78 rfl ?_
  rw [nI_add]
  refine g_iastn (q := 80) (by first | assumption | rfl) (by repeat' first | apply nI_a | apply nI_m | exact rfl) (by omega) dX7_abouts_79 rfl ?_
  obtain ⟨W, hW⟩ : ∃ W, W = uI (I) 64 (7 * U + 5) (nI (t + 1)) := ⟨_, rfl⟩
  rw [← hW]
  have b64 : (I) 64 = I 64 := rfl
  have w64 : ∀ i, i ≠ 7 * U + 5 → W 64 i = I 64 i := fun i hi => by rw [hW, uI_n2 hi, b64]
  have wE : Ent W U (nI 1) (nI m) (nI x) (nI mt) (nI a) := hE.to (fun i hi => w64 _ (by omega))
  have wt : W 64 (7 * U + 5) = nI (t + 1) := by rw [hW, uI_eq]
  have wh : ∀ i, i < 7 * U → W 64 i = I 64 i := fun i hi => w64 i (by omega)
  have wF : FrR I W := by rw [hW]; exact FrR.tr FrR.rf (FrR.u (Or.inl rfl))
  have wM : MRep W p 0 v := hM.eq (wF.1 p (by omega) (by omega) (by omega) (by omega))
  have b52 : W 52 = (I) 52 := by rw [hW, uI_ne (by decide)]
  have w25 : W 52 25 = I 52 25 := by rw [b52]
  have w26 : W 52 26 = I 52 26 := by rw [b52]
  have wR : RS v W s (U + 1) go := hS.eq (by rw [b52]; exact hS.1) (fun j hj => by rw [b52]) (by rw [hW, uI_ne (by decide)]) (by rw [hW, uI_ne (by decide)])
  have w21 := wR.1
  refine g_iload_n (q := 81) dX7_abouts_80 rfl rfl ?_
  refine g_if_eq (tgt := 121) (q := 84) dX7_abouts_81 (by decide) rfl (fun c81 => absurd c81 (by decide)) (fun _ => ?_)
  refine g_aload_n (q := 85) dX7_abouts_84 rfl rfl ?_
  refine gf_X7_204 (q := 88) rfl (by first | assumption | rfl) dX7_abouts_85 rfl ?_
  rw [w25, hf]
  refine g_if_le (tgt := 121) (q := 91) dX7_abouts_88 (by decide) rfl (fun _ => ?_) (fun c88 => absurd c88 (by decide))
  refine g_aload_n (q := 122) dX7_abouts_121 rfl rfl ?_
  refine gf_X7_44 (q := 125) rfl (by first | assumption | rfl) (by first | assumption | rfl) dX7_abouts_122 rfl ?_
  refine g_iload_n (q := 126) dX7_abouts_125 rfl rfl ?_
  refine g_iconst (q := 127) (v := nI 5) dX7_abouts_126 rfl (by decide) ?_
  refine g_iadd (q := 128) dX7_abouts_127 rfl ?_
  refine g_ialdn (q := 129) (by first | assumption | rfl) (by repeat' first | apply nI_a | apply nI_m | exact rfl) (by omega) dX7_abouts_128 rfl ?_
  rw [wt]
  refine g_iload (q := 131) dX7_abouts_129 rfl rfl ?_
  refine g_icmp_ge (tgt := 170) (q := 134) dX7_abouts_131 (by decide) rfl (fun _ => ?_) (fun c131 => absurd (nI_le (show 1 ≤ t + 1 by omega) (by omega)) c131)
  refine g_iload (q := 172) dX7_abouts_170 rfl rfl ?_
  refine g_iconst (q := 173) (v := nI 4) dX7_abouts_172 rfl (by decide) ?_
  refine g_icmp_ne (tgt := 208) (q := 176) dX7_abouts_173 (by decide) rfl (fun _ => ?_) (fun c173 => absurd c173 (by decide))
  refine g_iload (q := 210) dX7_abouts_208 rfl rfl ?_
  refine g_iconst (q := 211) (v := nI 1) dX7_abouts_210 rfl (by decide) ?_
  refine g_icmp_eq (tgt := 220) (q := 214) dX7_abouts_211 (by decide) rfl (fun c211 => absurd c211 (by decide)) (fun _ => ?_)
  refine g_iload (q := 216) dX7_abouts_214 rfl rfl ?_
  refine g_iconst (q := 217) (v := nI 2) dX7_abouts_216 rfl (by decide) ?_
  refine g_icmp_ne (tgt := 226) (q := 220) dX7_abouts_217 (by decide) rfl (fun _ => ?_) (fun c217 => absurd c217 (by decide))
  refine g_aload_n (q := 227) dX7_abouts_226 rfl rfl ?_
  refine g_iconst (q := 228) (v := nI 0) dX7_abouts_227 rfl (by decide) ?_
  refine g_aload_n (q := 229) dX7_abouts_228 rfl rfl ?_
  refine gf_X7_207 (q := 232) rfl (by first | assumption | rfl) dX7_abouts_229 rfl ?_
  first | rw [w26, hr] | rw [emW_f (by decide), w26, hr] | rw [uI_n2 (by decide), w26, hr]
  refine k_X7_214 (q := 235) rfl (Nat.le_of_ble_eq_true rfl) (by first | assumption | rfl) dX7_abouts_232 rfl (c_ends (U := U) ?_ ?_)
  · first | exact hR2.1 | exact w21 | exact (uI_n2 (by decide)).trans w21
  refine g_vret rfl dX7_abouts_235 (Nat.le_refl _) (Nat.le_refl _) ?_
  exact hend _ (AEnd.mk wR wh wF)
set_option maxRecDepth 100000 in
set_option maxHeartbeats 400000 in
theorem c_ab_bo4 {d k : Nat} {I : Nat → Nat → Int32} {Q : Option Int32 → Wd → Prop} {p U m x mt a j : Nat} {v : Vv} {s : Rs} {go : Nat → Nat} {t : Nat} {r : Int32} (hp52 : p = 58 ∨ p = 60) (hsp : shn 68 p = (1, 92)) (hM : MRep I p 0 v) (hV : VOk v) (ha : a < vna v) (haj : a + 1 + j = 5) (hmt : mt < 2 ^ vna v) (hmt6 : mt < 64) (hU : U < 98) (hS : RS v I s (U + 1) go) (hE : Ent I U (nI 1) (nI m) (nI x) (nI mt) (nI a)) (hkd : vfa v a 5 = 4) (ht : I 64 (7 * U + 5) = nI t) (ht9 : t < 1000) (hf : I 52 25 = nI 0) (hr : I 52 26 = r) (hfull : (¬ t + 1 < vfa v a 0 % 3 ∧ emF (vfa v a 0 + 100) s = none) → ∀ J, FrR I J → J 52 29 = nI 1 → Q none (J, RR k)) (hgo : t + 1 < vfa v a 0 % 3 → ∀ J, AGo v I J s U go m x mt a (t + 1) j → Q none (J, RR k)) (hend : ¬ t + 1 < vfa v a 0 % 3 → ∀ J s2, emF (vfa v a 0 + 100) s = some s2 → AEnd v I J s2 U go 0 (r + 1) → Q none (J, RR k)) : Ex (d + 2) 0 0 mX7_abouts [.ref 52, .ref p, .int (nI (7 * U)), .int (nI 1)] 68 (I, RR k) 68 Q := by
  obtain ⟨v1, v2, v3, v4⟩ := id hV
  have k4 := v4 a ha

  refine ex_intro (L0 := [.ref 52, .ref p, .int (nI (7 * U)), .int (nI 1), .null, .null, .null, .null]) (by decide +kernel) rfl rfl (Nat.le_of_ble_eq_true rfl) rfl ?_
  refine g_aload_n (q := 1) dX7_abouts_0 rfl rfl ?_
  refine gf_X7_44 (q := 4) rfl (by first | assumption | rfl) (by first | assumption | rfl) dX7_abouts_1 rfl ?_
  refine g_iload_n (q := 5) dX7_abouts_4 rfl rfl ?_
  refine g_iconst (q := 6) (v := nI 4) dX7_abouts_5 rfl (by decide) ?_
  refine g_iadd (q := 7) dX7_abouts_6 rfl ?_
  refine g_ialdn (q := 8) (by first | assumption | rfl) (by repeat' first | apply nI_a | apply nI_m | exact rfl) (by omega) dX7_abouts_7 rfl ?_
  rw [hE.2.2.2.2]
  refine g_istore (q := 10) dX7_abouts_8 rfl (by decide) rfl rfl ?_
  refine g_aload_n (q := 11) dX7_abouts_10 rfl rfl ?_
  refine g_bipush (q := 13) (v := nI 62) dX7_abouts_11 rfl (by decide) ?_
  refine g_bipush (q := 15) (v := nI 6) dX7_abouts_13 rfl (by decide) ?_
  refine g_iload (q := 17) dX7_abouts_15 rfl rfl ?_
  refine g_imul (q := 18) dX7_abouts_17 rfl ?_
  refine g_iadd (q := 19) dX7_abouts_18 rfl ?_
  refine g_ialdn (q := 20) (by first | assumption | rfl) (by repeat' first | apply nI_a | apply nI_m | exact rfl) (by omega) dX7_abouts_19 rfl ?_
  rw [hM.kd ha, hkd]
  refine g_istore (q := 22) dX7_abouts_20 rfl (by decide) rfl rfl ?_
  refine g_aload_n (q := 23) dX7_abouts_22 rfl rfl ?_
  refine g_bipush (q := 25) (v := nI 62) dX7_abouts_23 rfl (by decide) ?_
  refine g_bipush (q := 27) (v := nI 6) dX7_abouts_25 rfl (by decide) ?_
  refine g_iload (q := 29) dX7_abouts_27 rfl rfl ?_
  refine g_imul (q := 30) dX7_abouts_29 rfl ?_
  refine g_iadd (q := 31) dX7_abouts_30 rfl ?_
  refine g_iconst (q := 32) (v := nI 1) dX7_abouts_31 rfl (by decide) ?_
  refine g_iadd (q := 33) dX7_abouts_32 rfl ?_
  refine g_ialdn (q := 34) (by first | assumption | rfl) (by repeat' first | apply nI_a | apply nI_m | exact rfl) (by omega) dX7_abouts_33 rfl ?_
  rw [hM.f0 ha]
  refine g_istore (q := 36) dX7_abouts_34 rfl (by decide) rfl rfl ?_
  refine g_iload (q := 38) dX7_abouts_36 rfl rfl ?_
  refine g_iconst (q := 39) (v := nI 4) dX7_abouts_38 rfl (by decide) ?_
  refine g_icmp_ne (tgt := 49) (q := 42) dX7_abouts_39 (by decide) rfl (fun c39 => absurd c39 (by decide)) (fun _ => ?_)
  refine g_iload (q := 44) dX7_abouts_42 rfl rfl ?_
  refine g_iconst (q := 45) (v := nI 3) dX7_abouts_44 rfl (by decide) ?_
  refine g_irem (q := 46) dX7_abouts_45 rfl (by decide) ?_
  rw [rem3 _ (by omega)]
  refine g_goto (q := 50) dX7_abouts_46 (by decide) ?_
  refine g_istore (q := 52) dX7_abouts_50 rfl (by decide) rfl rfl ?_
  refine g_iload_n (q := 53) dX7_abouts_52 rfl rfl ?_
  refine g_if_ne (tgt := 68) (q := 56) dX7_abouts_53 (by decide) rfl (fun _ => ?_) (fun c53 => absurd c53 (by decide))
  refine g_aload_n (q := 69) dX7_abouts_68 rfl rfl ?_
  refine gf_X7_44 (q := 72) rfl (by first | assumption | rfl) (by first | assumption | rfl) dX7_abouts_69 rfl ?_
  refine g_iload_n (q := 73) dX7_abouts_72 rfl rfl ?_
  refine g_iconst (q := 74) (v := nI 5) dX7_abouts_73 rfl (by decide) ?_
  refine g_iadd (q := 75) dX7_abouts_74 rfl ?_
  refine g_dup2 (q := 76) dX7_abouts_75 rfl rfl rfl ?_
  refine g_ialdn (q := 77) (by first | assumption | rfl) (by repeat' first | apply nI_a | apply nI_m | exact rfl) (by omega) dX7_abouts_76 rfl ?_
  rw [ht]
  refine g_iconst (q := 78) (v := nI 1) dX7_abouts_77 rfl (by decide) ?_
  refine g_iadd (q := 79) dX7_abouts_78 rfl ?_
  rw [nI_add]
  refine g_iastn (q := 80) (by first | assumption | rfl) (by repeat' first | apply nI_a | apply nI_m | exact rfl) (by omega) dX7_abouts_79 rfl ?_
  obtain ⟨W, hW⟩ : ∃ W, W = uI (I) 64 (7 * U + 5) (nI (t + 1)) := ⟨_, rfl⟩
  rw [← hW]
  have b64 : (I) 64 = I 64 := rfl
  have w64 : ∀ i, i ≠ 7 * U + 5 → W 64 i = I 64 i := fun i hi => by rw [hW, uI_n2 hi, b64]
  have wE : Ent W U (nI 1) (nI m) (nI x) (nI mt) (nI a) := hE.to (fun i hi => w64 _ (by omega))
  have wt : W 64 (7 * U + 5) = nI (t + 1) := by rw [hW, uI_eq]
  have wh : ∀ i, i < 7 * U → W 64 i = I 64 i := fun i hi => w64 i (by omega)
  have wF : FrR I W := by rw [hW]; exact FrR.tr FrR.rf (FrR.u (Or.inl rfl))
  have wM : MRep W p 0 v := hM.eq (wF.1 p (by omega) (by omega) (by omega) (by omega))
  have b52 : W 52 = (I) 52 := by rw [hW, uI_ne (by decide)]
  have w25 : W 52 25 = I 52 25 := by rw [b52]
  have w26 : W 52 26 = I 52 26 := by rw [b52]
  have wR : RS v W s (U + 1) go := hS.eq (by rw [b52]; exact hS.1) (fun j hj => by rw [b52]) (by rw [hW, uI_ne (by decide)]) (by rw [hW, uI_ne (by decide)])
  have w21 := wR.1
  refine g_iload_n (q := 81) dX7_abouts_80 rfl rfl ?_
  refine g_if_eq (tgt := 121) (q := 84) dX7_abouts_81 (by decide) rfl (fun c81 => absurd c81 (by decide)) (fun _ => ?_)
  refine g_aload_n (q := 85) dX7_abouts_84 rfl rfl ?_
  refine gf_X7_204 (q := 88) rfl (by first | assumption | rfl) dX7_abouts_85 rfl ?_
  rw [w25, hf]
  refine g_if_le (tgt := 121) (q := 91) dX7_abouts_88 (by decide) rfl (fun _ => ?_) (fun c88 => absurd c88 (by decide))
  refine g_aload_n (q := 122) dX7_abouts_121 rfl rfl ?_
  refine gf_X7_44 (q := 125) rfl (by first | assumption | rfl) (by first | assumption | rfl) dX7_abouts_122 rfl ?_
  refine g_iload_n (q := 126) dX7_abouts_125 rfl rfl ?_
  refine g_iconst (q := 127) (v := nI 5) dX7_abouts_126 rfl (by decide) ?_
  refine g_iadd (q := 128) dX7_abouts_127 rfl ?_
  refine g_ialdn (q := 129) (by first | assumption | rfl) (by repeat' first | apply nI_a | apply nI_m | exact rfl) (by omega) dX7_abouts_128 rfl ?_
  rw [wt]
  refine g_iload (q := 131) dX7_abouts_129 rfl rfl ?_
  refine g_icmp_ge (tgt := 170) (q := 134) dX7_abouts_131 (by decide) rfl (fun c131 => ?_) (fun c131 => ?_)
  · refine g_iload (q := 172) dX7_abouts_170 rfl rfl ?_
    refine g_iconst (q := 173) (v := nI 4) dX7_abouts_172 rfl (by decide) ?_
    refine g_icmp_ne (tgt := 208) (q := 176) dX7_abouts_173 (by decide) rfl (fun c173 => absurd c173 (by decide)) (fun _ => ?_)
    refine g_aload_n (q := 177) dX7_abouts_176 rfl rfl ?_
    refine g_iload (q := 179) dX7_abouts_177 rfl rfl ?_
    refine g_bipush (q := 181) (v := nI 100) dX7_abouts_179 rfl (by decide) ?_
    refine g_iadd (q := 182) dX7_abouts_181 rfl ?_
    rw [nI_add]
    refine k_X7_210 (q := 185) rfl (Nat.le_of_ble_eq_true rfl) (by first | assumption | rfl) dX7_abouts_182 rfl (c_emS wR (fun s2 he2 hR2 => ?_) (fun he2 => ?_))
    · refine g_aload_n (q := 186) dX7_abouts_185 rfl rfl ?_
      refine g_iconst (q := 187) (v := nI 0) dX7_abouts_186 rfl (by decide) ?_
      refine g_iload_n (q := 188) dX7_abouts_187 rfl rfl ?_
      refine g_if_eq (tgt := 200) (q := 191) dX7_abouts_188 (by decide) rfl (fun c188 => absurd c188 (by decide)) (fun _ => ?_)
      refine g_aload_n (q := 192) dX7_abouts_191 rfl rfl ?_
      refine gf_X7_207 (q := 195) rfl (by first | assumption | rfl) dX7_abouts_192 rfl ?_
      first | rw [emW_f (by decide), w26, hr] | rw [uI_n2 (by decide), w26, hr]
      refine g_iconst (q := 196) (v := nI 1) dX7_abouts_195 rfl (by decide) ?_
      refine g_iadd (q := 197) dX7_abouts_196 rfl ?_
      refine g_goto (q := 202) dX7_abouts_197 (by decide) ?_
      refine k_X7_214 (q := 205) rfl (Nat.le_of_ble_eq_true rfl) (by first | assumption | rfl) dX7_abouts_202 rfl (c_ends (U := U) ?_ ?_)
      · first | exact hR2.1 | exact w21 | exact (uI_n2 (by decide)).trans w21
      refine g_goto (q := 235) dX7_abouts_205 (by decide) ?_
      refine g_vret rfl dX7_abouts_235 (Nat.le_refl _) (Nat.le_refl _) ?_
      exact hend (by have := (nI_leI (by omega) (by omega)).mp c131; omega) _ s2 he2 (AEnd.mk hR2 (fun i hi => by rw [emW_64]; exact wh i hi) (FrR.tr wF emW_fr))
    · refine g_aload_n (q := 186) dX7_abouts_185 rfl rfl ?_
      refine g_iconst (q := 187) (v := nI 0) dX7_abouts_186 rfl (by decide) ?_
      refine g_iload_n (q := 188) dX7_abouts_187 rfl rfl ?_
      refine g_if_eq (tgt := 200) (q := 191) dX7_abouts_188 (by decide) rfl (fun c188 => absurd c188 (by decide)) (fun _ => ?_)
      refine g_aload_n (q := 192) dX7_abouts_191 rfl rfl ?_
      refine gf_X7_207 (q := 195) rfl (by first | assumption | rfl) dX7_abouts_192 rfl ?_
      first | rw [emW_f (by decide), w26, hr] | rw [uI_n2 (by decide), w26, hr]
      refine g_iconst (q := 196) (v := nI 1) dX7_abouts_195 rfl (by decide) ?_
      refine g_iadd (q := 197) dX7_abouts_196 rfl ?_
      refine g_goto (q := 202) dX7_abouts_197 (by decide) ?_
      refine k_X7_214 (q := 205) rfl (Nat.le_of_ble_eq_true rfl) (by first | assumption | rfl) dX7_abouts_202 rfl (c_ends (U := U) ?_ ?_)
      · first | exact hR2.1 | exact w21 | exact (uI_n2 (by decide)).trans w21
      refine g_goto (q := 235) dX7_abouts_205 (by decide) ?_
      refine g_vret rfl dX7_abouts_235 (Nat.le_refl _) (Nat.le_refl _) ?_
      exact hfull (⟨by have := (nI_leI (by omega) (by omega)).mp c131; omega, he2⟩) _ (FrR.tr (FrR.tr wF (FrR.u (by omega))) enW_fr) (by rw [enW_f (by decide) (by decide) (by decide)]; exact uI_eq)
  · refine g_aload_n (q := 135) dX7_abouts_134 rfl rfl ?_
    refine g_aload_n (q := 136) dX7_abouts_135 rfl rfl ?_
    refine g_aload_n (q := 137) dX7_abouts_136 rfl rfl ?_
    refine gf_X7_44 (q := 140) rfl (by first | assumption | rfl) (by first | assumption | rfl) dX7_abouts_137 rfl ?_
    refine g_iload_n (q := 141) dX7_abouts_140 rfl rfl ?_
    refine g_iconst (q := 142) (v := nI 1) dX7_abouts_141 rfl (by decide) ?_
    refine g_iadd (q := 143) dX7_abouts_142 rfl ?_
    refine g_ialdn (q := 144) (by first | assumption | rfl) (by repeat' first | apply nI_a | apply nI_m | exact rfl) (by omega) dX7_abouts_143 rfl ?_
    rw [wE.2.1]
    refine g_aload_n (q := 145) dX7_abouts_144 rfl rfl ?_
    refine gf_X7_44 (q := 148) rfl (by first | assumption | rfl) (by first | assumption | rfl) dX7_abouts_145 rfl ?_
    refine g_iload_n (q := 149) dX7_abouts_148 rfl rfl ?_
    refine g_iconst (q := 150) (v := nI 2) dX7_abouts_149 rfl (by decide) ?_
    refine g_iadd (q := 151) dX7_abouts_150 rfl ?_
    refine g_ialdn (q := 152) (by first | assumption | rfl) (by repeat' first | apply nI_a | apply nI_m | exact rfl) (by omega) dX7_abouts_151 rfl ?_
    rw [wE.2.2.1]
    refine g_aload_n (q := 153) dX7_abouts_152 rfl rfl ?_
    refine gf_X7_44 (q := 156) rfl (by first | assumption | rfl) (by first | assumption | rfl) dX7_abouts_153 rfl ?_
    refine g_iload_n (q := 157) dX7_abouts_156 rfl rfl ?_
    refine g_iconst (q := 158) (v := nI 3) dX7_abouts_157 rfl (by decide) ?_
    refine g_iadd (q := 159) dX7_abouts_158 rfl ?_
    refine g_ialdn (q := 160) (by first | assumption | rfl) (by repeat' first | apply nI_a | apply nI_m | exact rfl) (by omega) dX7_abouts_159 rfl ?_
    rw [wE.2.2.2.1]
    refine g_iload (q := 162) dX7_abouts_160 rfl rfl ?_
    refine g_iconst (q := 163) (v := nI 1) dX7_abouts_162 rfl (by decide) ?_
    refine g_iadd (q := 164) dX7_abouts_163 rfl ?_
    rw [nI_add]
    refine k_X7_200 (q := 167) rfl (Nat.le_of_ble_eq_true rfl) (by first | assumption | rfl) dX7_abouts_164 rfl (c_X7_goesOn hsp wM hV hmt hmt6 w21 (by omega) haj (fun J hP => ?_))
    refine g_goto (q := 235) dX7_abouts_167 (by decide) ?_
    refine g_vret rfl dX7_abouts_235 (Nat.le_refl _) (Nat.le_refl _) ?_
    exact hgo (by have : ¬ vfa v a 0 % 3 ≤ t + 1 := fun z => c131 (nI_le z (by omega)); omega) J (AGo.mk wR wE wt wh wF w25 hP)
set_option maxRecDepth 100000 in
set_option maxHeartbeats 400000 in
theorem c_ab_bo5 {d k : Nat} {I : Nat → Nat → Int32} {Q : Option Int32 → Wd → Prop} {p U m x mt a j : Nat} {v : Vv} {s : Rs} {go : Nat → Nat} {t : Nat} {r : Int32} (hp52 : p = 58 ∨ p = 60) (hsp : shn 68 p = (1, 92)) (hM : MRep I p 0 v) (hV : VOk v) (ha : a < vna v) (haj : a + 1 + j = 5) (hmt : mt < 2 ^ vna v) (hmt6 : mt < 64) (hU : U < 98) (hS : RS v I s (U + 1) go) (hE : Ent I U (nI 1) (nI m) (nI x) (nI mt) (nI a)) (hkd : vfa v a 5 = 5) (ht : I 64 (7 * U + 5) = nI t) (ht9 : t < 1000) (hf : I 52 25 = nI 0) (hr : I 52 26 = r) (hfull : False → ∀ J, FrR I J → J 52 29 = nI 1 → Q none (J, RR k)) (hend : ∀ J, AEnd v I J s U go 0 r → Q none (J, RR k)) : Ex (d + 2) 0 0 mX7_abouts [.ref 52, .ref p, .int (nI (7 * U)), .int (nI 1)] 68 (I, RR k) 68 Q := by
  obtain ⟨v1, v2, v3, v4⟩ := id hV
  have k4 := v4 a ha

  refine ex_intro (L0 := [.ref 52, .ref p, .int (nI (7 * U)), .int (nI 1), .null, .null, .null, .null]) (by decide +kernel) rfl rfl (Nat.le_of_ble_eq_true rfl) rfl ?_
  refine g_aload_n (q := 1) dX7_abouts_0 rfl rfl ?_
  refine gf_X7_44 (q := 4) rfl (by first | assumption | rfl) (by first | assumption | rfl) dX7_abouts_1 rfl ?_
  refine g_iload_n (q := 5) dX7_abouts_4 rfl rfl ?_
  refine g_iconst (q := 6) (v := nI 4) dX7_abouts_5 rfl (by decide) ?_
  refine g_iadd (q := 7) dX7_abouts_6 rfl ?_
  refine g_ialdn (q := 8) (by first | assumption | rfl) (by repeat' first | apply nI_a | apply nI_m | exact rfl) (by omega) dX7_abouts_7 rfl ?_
  rw [hE.2.2.2.2]
  refine g_istore (q := 10) dX7_abouts_8 rfl (by decide) rfl rfl ?_
  refine g_aload_n (q := 11) dX7_abouts_10 rfl rfl ?_
  refine g_bipush (q := 13) (v := nI 62) dX7_abouts_11 rfl (by decide) ?_
  refine g_bipush (q := 15) (v := nI 6) dX7_abouts_13 rfl (by decide) ?_
  refine g_iload (q := 17) dX7_abouts_15 rfl rfl ?_
  refine g_imul (q := 18) dX7_abouts_17 rfl ?_
  refine g_iadd (q := 19) dX7_abouts_18 rfl ?_
  refine g_ialdn (q := 20) (by first | assumption | rfl) (by repeat' first | apply nI_a | apply nI_m | exact rfl) (by omega) dX7_abouts_19 rfl ?_
  rw [hM.kd ha, hkd]
  refine g_istore (q := 22) dX7_abouts_20 rfl (by decide) rfl rfl ?_
  refine g_aload_n (q := 23) dX7_abouts_22 rfl rfl ?_
  refine g_bipush (q := 25) (v := nI 62) dX7_abouts_23 rfl (by decide) ?_
  refine g_bipush (q := 27) (v := nI 6) dX7_abouts_25 rfl (by decide) ?_
  refine g_iload (q := 29) dX7_abouts_27 rfl rfl ?_
  refine g_imul (q := 30) dX7_abouts_29 rfl ?_
  refine g_iadd (q := 31) dX7_abouts_30 rfl ?_
  refine g_iconst (q := 32) (v := nI 1) dX7_abouts_31 rfl (by decide) ?_
  refine g_iadd (q := 33) dX7_abouts_32 rfl ?_
  refine g_ialdn (q := 34) (by first | assumption | rfl) (by repeat' first | apply nI_a | apply nI_m | exact rfl) (by omega) dX7_abouts_33 rfl ?_
  rw [hM.f0 ha]
  refine g_istore (q := 36) dX7_abouts_34 rfl (by decide) rfl rfl ?_
  refine g_iload (q := 38) dX7_abouts_36 rfl rfl ?_
  refine g_iconst (q := 39) (v := nI 4) dX7_abouts_38 rfl (by decide) ?_
  refine g_icmp_ne (tgt := 49) (q := 42) dX7_abouts_39 (by decide) rfl (fun _ => ?_) (fun c39 => absurd c39 (by decide))
  refine g_iconst (q := 50) (v := nI 1) dX7_abouts_49 rfl (by decide) ?_
  refine g_istore (q := 52) dX7_abouts_50 rfl (by decide) rfl rfl ?_
  refine g_iload_n (q := 53) dX7_abouts_52 rfl rfl ?_
  refine g_if_ne (tgt := 68) (q := 56) dX7_abouts_53 (by decide) rfl (fun _ => ?_) (fun c53 => absurd c53 (by decide))
  refine g_aload_n (q := 69) dX7_abouts_68 rfl rfl ?_
  refine gf_X7_44 (q := 72) rfl (by first | assumption | rfl) (by first | assumption | rfl) dX7_abouts_69 rfl ?_
  refine g_iload_n (q := 73) dX7_abouts_72 rfl rfl ?_
  refine g_iconst (q := 74) (v := nI 5) dX7_abouts_73 rfl (by decide) ?_
  refine g_iadd (q := 75) dX7_abouts_74 rfl ?_
  refine g_dup2 (q := 76) dX7_abouts_75 rfl rfl rfl ?_
  refine g_ialdn (q := 77) (by first | assumption | rfl) (by repeat' first | apply nI_a | apply nI_m | exact rfl) (by omega) dX7_abouts_76 rfl ?_
  rw [ht]
  refine g_iconst (q := 78) (v := nI 1) dX7_abouts_77 rfl (by decide) ?_
  refine g_iadd (q := 79) dX7_abouts_78 rfl ?_
  rw [nI_add]
  refine g_iastn (q := 80) (by first | assumption | rfl) (by repeat' first | apply nI_a | apply nI_m | exact rfl) (by omega) dX7_abouts_79 rfl ?_
  obtain ⟨W, hW⟩ : ∃ W, W = uI (I) 64 (7 * U + 5) (nI (t + 1)) := ⟨_, rfl⟩
  rw [← hW]
  have b64 : (I) 64 = I 64 := rfl
  have w64 : ∀ i, i ≠ 7 * U + 5 → W 64 i = I 64 i := fun i hi => by rw [hW, uI_n2 hi, b64]
  have wE : Ent W U (nI 1) (nI m) (nI x) (nI mt) (nI a) := hE.to (fun i hi => w64 _ (by omega))
  have wt : W 64 (7 * U + 5) = nI (t + 1) := by rw [hW, uI_eq]
  have wh : ∀ i, i < 7 * U → W 64 i = I 64 i := fun i hi => w64 i (by omega)
  have wF : FrR I W := by rw [hW]; exact FrR.tr FrR.rf (FrR.u (Or.inl rfl))
  have wM : MRep W p 0 v := hM.eq (wF.1 p (by omega) (by omega) (by omega) (by omega))
  have b52 : W 52 = (I) 52 := by rw [hW, uI_ne (by decide)]
  have w25 : W 52 25 = I 52 25 := by rw [b52]
  have w26 : W 52 26 = I 52 26 := by rw [b52]
  have wR : RS v W s (U + 1) go := hS.eq (by rw [b52]; exact hS.1) (fun j hj => by rw [b52]) (by rw [hW, uI_ne (by decide)]) (by rw [hW, uI_ne (by decide)])
  have w21 := wR.1
  refine g_iload_n (q := 81) dX7_abouts_80 rfl rfl ?_
  refine g_if_eq (tgt := 121) (q := 84) dX7_abouts_81 (by decide) rfl (fun c81 => absurd c81 (by decide)) (fun _ => ?_)
  refine g_aload_n (q := 85) dX7_abouts_84 rfl rfl ?_
  refine gf_X7_204 (q := 88) rfl (by first | assumption | rfl) dX7_abouts_85 rfl ?_
  rw [w25, hf]
  refine g_if_le (tgt := 121) (q := 91) dX7_abouts_88 (by decide) rfl (fun _ => ?_) (fun c88 => absurd c88 (by decide))
  refine g_aload_n (q := 122) dX7_abouts_121 rfl rfl ?_
  refine gf_X7_44 (q := 125) rfl (by first | assumption | rfl) (by first | assumption | rfl) dX7_abouts_122 rfl ?_
  refine g_iload_n (q := 126) dX7_abouts_125 rfl rfl ?_
  refine g_iconst (q := 127) (v := nI 5) dX7_abouts_126 rfl (by decide) ?_
  refine g_iadd (q := 128) dX7_abouts_127 rfl ?_
  refine g_ialdn (q := 129) (by first | assumption | rfl) (by repeat' first | apply nI_a | apply nI_m | exact rfl) (by omega) dX7_abouts_128 rfl ?_
  rw [wt]
  refine g_iload (q := 131) dX7_abouts_129 rfl rfl ?_
  refine g_icmp_ge (tgt := 170) (q := 134) dX7_abouts_131 (by decide) rfl (fun _ => ?_) (fun c131 => absurd (nI_le (show 1 ≤ t + 1 by omega) (by omega)) c131)
  refine g_iload (q := 172) dX7_abouts_170 rfl rfl ?_
  refine g_iconst (q := 173) (v := nI 4) dX7_abouts_172 rfl (by decide) ?_
  refine g_icmp_ne (tgt := 208) (q := 176) dX7_abouts_173 (by decide) rfl (fun _ => ?_) (fun c173 => absurd c173 (by decide))
  refine g_iload (q := 210) dX7_abouts_208 rfl rfl ?_
  refine g_iconst (q := 211) (v := nI 1) dX7_abouts_210 rfl (by decide) ?_
  refine g_icmp_eq (tgt := 220) (q := 214) dX7_abouts_211 (by decide) rfl (fun c211 => absurd c211 (by decide)) (fun _ => ?_)
  refine g_iload (q := 216) dX7_abouts_214 rfl rfl ?_
  refine g_iconst (q := 217) (v := nI 2) dX7_abouts_216 rfl (by decide) ?_
  refine g_icmp_ne (tgt := 226) (q := 220) dX7_abouts_217 (by decide) rfl (fun _ => ?_) (fun c217 => absurd c217 (by decide))
  refine g_aload_n (q := 227) dX7_abouts_226 rfl rfl ?_
  refine g_iconst (q := 228) (v := nI 0) dX7_abouts_227 rfl (by decide) ?_
  refine g_aload_n (q := 229) dX7_abouts_228 rfl rfl ?_
  refine gf_X7_207 (q := 232) rfl (by first | assumption | rfl) dX7_abouts_229 rfl ?_
  first | rw [w26, hr] | rw [emW_f (by decide), w26, hr] | rw [uI_n2 (by decide), w26, hr]
  refine k_X7_214 (q := 235) rfl (Nat.le_of_ble_eq_true rfl) (by first | assumption | rfl) dX7_abouts_232 rfl (c_ends (U := U) ?_ ?_)
  · first | exact hR2.1 | exact w21 | exact (uI_n2 (by decide)).trans w21
  refine g_vret rfl dX7_abouts_235 (Nat.le_refl _) (Nat.le_refl _) ?_
  exact hend _ (AEnd.mk wR wh wF)
set_option maxRecDepth 100000 in
set_option maxHeartbeats 400000 in
theorem c_ab_bf1 {d k : Nat} {I : Nat → Nat → Int32} {Q : Option Int32 → Wd → Prop} {p U m x mt a j : Nat} {v : Vv} {s : Rs} {go : Nat → Nat} {t f : Nat} (hp52 : p = 58 ∨ p = 60) (hsp : shn 68 p = (1, 92)) (hM : MRep I p 0 v) (hV : VOk v) (ha : a < vna v) (haj : a + 1 + j = 5) (hmt : mt < 2 ^ vna v) (hmt6 : mt < 64) (hU : U < 98) (hS : RS v I s (U + 1) go) (hE : Ent I U (nI 1) (nI m) (nI x) (nI mt) (nI a)) (hkd : vfa v a 5 = 1) (ht : I 64 (7 * U + 5) = nI t) (hf : I 52 25 = nI f) (hf0 : 0 < f) (hf9 : f < 10) (hfull : emF (vfa v a 0) s = none → ∀ J, FrR I J → J 52 29 = nI 1 → Q none (J, RR k)) (hend : ∀ J s2, emF (vfa v a 0) s = some s2 → AEnd v I J s2 U go f (nI 0) → Q none (J, RR k)) : Ex (d + 2) 0 0 mX7_abouts [.ref 52, .ref p, .int (nI (7 * U)), .int (nI 1)] 68 (I, RR k) 68 Q := by
  obtain ⟨v1, v2, v3, v4⟩ := id hV
  have k4 := v4 a ha

  refine ex_intro (L0 := [.ref 52, .ref p, .int (nI (7 * U)), .int (nI 1), .null, .null, .null, .null]) (by decide +kernel) rfl rfl (Nat.le_of_ble_eq_true rfl) rfl ?_
  refine g_aload_n (q := 1) dX7_abouts_0 rfl rfl ?_
  refine gf_X7_44 (q := 4) rfl (by first | assumption | rfl) (by first | assumption | rfl) dX7_abouts_1 rfl ?_
  refine g_iload_n (q := 5) dX7_abouts_4 rfl rfl ?_
  refine g_iconst (q := 6) (v := nI 4) dX7_abouts_5 rfl (by decide) ?_
  refine g_iadd (q := 7) dX7_abouts_6 rfl ?_
  refine g_ialdn (q := 8) (by first | assumption | rfl) (by repeat' first | apply nI_a | apply nI_m | exact rfl) (by omega) dX7_abouts_7 rfl ?_
  rw [hE.2.2.2.2]
  refine g_istore (q := 10) dX7_abouts_8 rfl (by decide) rfl rfl ?_
  refine g_aload_n (q := 11) dX7_abouts_10 rfl rfl ?_
  refine g_bipush (q := 13) (v := nI 62) dX7_abouts_11 rfl (by decide) ?_
  refine g_bipush (q := 15) (v := nI 6) dX7_abouts_13 rfl (by decide) ?_
  refine g_iload (q := 17) dX7_abouts_15 rfl rfl ?_
  refine g_imul (q := 18) dX7_abouts_17 rfl ?_
  refine g_iadd (q := 19) dX7_abouts_18 rfl ?_
  refine g_ialdn (q := 20) (by first | assumption | rfl) (by repeat' first | apply nI_a | apply nI_m | exact rfl) (by omega) dX7_abouts_19 rfl ?_
  rw [hM.kd ha, hkd]
  refine g_istore (q := 22) dX7_abouts_20 rfl (by decide) rfl rfl ?_
  refine g_aload_n (q := 23) dX7_abouts_22 rfl rfl ?_
  refine g_bipush (q := 25) (v := nI 62) dX7_abouts_23 rfl (by decide) ?_
  refine g_bipush (q := 27) (v := nI 6) dX7_abouts_25 rfl (by decide) ?_
  refine g_iload (q := 29) dX7_abouts_27 rfl rfl ?_
  refine g_imul (q := 30) dX7_abouts_29 rfl ?_
  refine g_iadd (q := 31) dX7_abouts_30 rfl ?_
  refine g_iconst (q := 32) (v := nI 1) dX7_abouts_31 rfl (by decide) ?_
  refine g_iadd (q := 33) dX7_abouts_32 rfl ?_
  refine g_ialdn (q := 34) (by first | assumption | rfl) (by repeat' first | apply nI_a | apply nI_m | exact rfl) (by omega) dX7_abouts_33 rfl ?_
  rw [hM.f0 ha]
  refine g_istore (q := 36) dX7_abouts_34 rfl (by decide) rfl rfl ?_
  refine g_iload (q := 38) dX7_abouts_36 rfl rfl ?_
  refine g_iconst (q := 39) (v := nI 4) dX7_abouts_38 rfl (by decide) ?_
  refine g_icmp_ne (tgt := 49) (q := 42) dX7_abouts_39 (by decide) rfl (fun _ => ?_) (fun c39 => absurd c39 (by decide))
  refine g_iconst (q := 50) (v := nI 1) dX7_abouts_49 rfl (by decide) ?_
  refine g_istore (q := 52) dX7_abouts_50 rfl (by decide) rfl rfl ?_
  refine g_iload_n (q := 53) dX7_abouts_52 rfl rfl ?_
  refine g_if_ne (tgt := 68) (q := 56) dX7_abouts_53 (by decide) rfl (fun _ => ?_) (fun c53 => absurd c53 (by decide))
  refine g_aload_n (q := 69) dX7_abouts_68 rfl rfl ?_
  refine gf_X7_44 (q := 72) rfl (by first | assumption | rfl) (by first | assumption | rfl) dX7_abouts_69 rfl ?_
  refine g_iload_n (q := 73) dX7_abouts_72 rfl rfl ?_
  refine g_iconst (q := 74) (v := nI 5) dX7_abouts_73 rfl (by decide) ?_
  refine g_iadd (q := 75) dX7_abouts_74 rfl ?_
  refine g_dup2 (q := 76) dX7_abouts_75 rfl rfl rfl ?_
  refine g_ialdn (q := 77) (by first | assumption | rfl) (by repeat' first | apply nI_a | apply nI_m | exact rfl) (by omega) dX7_abouts_76 rfl ?_
  rw [ht]
  refine g_iconst (q := 78) (v := nI 1) dX7_abouts_77 rfl (by decide) ?_
  refine g_iadd (q := 79) dX7_abouts_78 rfl ?_
  rw [nI_add]
  refine g_iastn (q := 80) (by first | assumption | rfl) (by repeat' first | apply nI_a | apply nI_m | exact rfl) (by omega) dX7_abouts_79 rfl ?_
  obtain ⟨W, hW⟩ : ∃ W, W = uI (I) 64 (7 * U + 5) (nI (t + 1)) := ⟨_, rfl⟩
  rw [← hW]
  have b64 : (I) 64 = I 64 := rfl
  have w64 : ∀ i, i ≠ 7 * U + 5 → W 64 i = I 64 i := fun i hi => by rw [hW, uI_n2 hi, b64]
  have wE : Ent W U (nI 1) (nI m) (nI x) (nI mt) (nI a) := hE.to (fun i hi => w64 _ (by omega))
  have wt : W 64 (7 * U + 5) = nI (t + 1) := by rw [hW, uI_eq]
  have wh : ∀ i, i < 7 * U → W 64 i = I 64 i := fun i hi => w64 i (by omega)
  have wF : FrR I W := by rw [hW]; exact FrR.tr FrR.rf (FrR.u (Or.inl rfl))
  have wM : MRep W p 0 v := hM.eq (wF.1 p (by omega) (by omega) (by omega) (by omega))
  have b52 : W 52 = (I) 52 := by rw [hW, uI_ne (by decide)]
  have w25 : W 52 25 = I 52 25 := by rw [b52]
  have w26 : W 52 26 = I 52 26 := by rw [b52]
  have wR : RS v W s (U + 1) go := hS.eq (by rw [b52]; exact hS.1) (fun j hj => by rw [b52]) (by rw [hW, uI_ne (by decide)]) (by rw [hW, uI_ne (by decide)])
  have w21 := wR.1
  refine g_iload_n (q := 81) dX7_abouts_80 rfl rfl ?_
  refine g_if_eq (tgt := 121) (q := 84) dX7_abouts_81 (by decide) rfl (fun c81 => absurd c81 (by decide)) (fun _ => ?_)
  refine g_aload_n (q := 85) dX7_abouts_84 rfl rfl ?_
  refine gf_X7_204 (q := 88) rfl (by first | assumption | rfl) dX7_abouts_85 rfl ?_
  rw [w25, hf]
  refine g_if_le (tgt := 121) (q := 91) dX7_abouts_88 (by decide) rfl (fun c88 => absurd c88 (nI_nle (by omega) (by omega))) (fun _ => ?_)
  refine g_iload (q := 93) dX7_abouts_91 rfl rfl ?_
  refine g_iconst (q := 94) (v := nI 1) dX7_abouts_93 rfl (by decide) ?_
  refine g_icmp_eq (tgt := 103) (q := 97) dX7_abouts_94 (by decide) rfl (fun _ => ?_) (fun c94 => absurd c94 (by decide))
  refine g_aload_n (q := 104) dX7_abouts_103 rfl rfl ?_
  refine g_iload (q := 106) dX7_abouts_104 rfl rfl ?_
  refine k_X7_210 (q := 109) rfl (Nat.le_of_ble_eq_true rfl) (by first | assumption | rfl) dX7_abouts_106 rfl (c_emS wR (fun s2 he2 hR2 => ?_) (fun he2 => ?_))
  · refine g_aload_n (q := 110) dX7_abouts_109 rfl rfl ?_
    refine g_aload_n (q := 111) dX7_abouts_110 rfl rfl ?_
    refine gf_X7_204 (q := 114) rfl (by first | assumption | rfl) dX7_abouts_111 rfl ?_
    first | rw [w25, hf] | rw [emW_f (by decide), w25, hf] | rw [uI_n2 (by decide), w25, hf]
    refine g_iconst (q := 115) (v := nI 0) dX7_abouts_114 rfl (by decide) ?_
    refine k_X7_214 (q := 118) rfl (Nat.le_of_ble_eq_true rfl) (by first | assumption | rfl) dX7_abouts_115 rfl (c_ends (U := U) ?_ ?_)
    · first | exact hR2.1 | exact w21 | exact (uI_n2 (by decide)).trans w21
    refine g_goto (q := 235) dX7_abouts_118 (by decide) ?_
    refine g_vret rfl dX7_abouts_235 (Nat.le_refl _) (Nat.le_refl _) ?_
    exact hend _ s2 he2 (AEnd.mk hR2 (fun i hi => by rw [emW_64]; exact wh i hi) (FrR.tr wF emW_fr))
  · refine g_aload_n (q := 110) dX7_abouts_109 rfl rfl ?_
    refine g_aload_n (q := 111) dX7_abouts_110 rfl rfl ?_
    refine gf_X7_204 (q := 114) rfl (by first | assumption | rfl) dX7_abouts_111 rfl ?_
    first | rw [w25, hf] | rw [emW_f (by decide), w25, hf] | rw [uI_n2 (by decide), w25, hf]
    refine g_iconst (q := 115) (v := nI 0) dX7_abouts_114 rfl (by decide) ?_
    refine k_X7_214 (q := 118) rfl (Nat.le_of_ble_eq_true rfl) (by first | assumption | rfl) dX7_abouts_115 rfl (c_ends (U := U) ?_ ?_)
    · first | exact hR2.1 | exact w21 | exact (uI_n2 (by decide)).trans w21
    refine g_goto (q := 235) dX7_abouts_118 (by decide) ?_
    refine g_vret rfl dX7_abouts_235 (Nat.le_refl _) (Nat.le_refl _) ?_
    exact hfull (he2) _ (FrR.tr (FrR.tr wF (FrR.u (by omega))) enW_fr) (by rw [enW_f (by decide) (by decide) (by decide)]; exact uI_eq)
set_option maxRecDepth 100000 in
set_option maxHeartbeats 400000 in
theorem c_ab_bf2 {d k : Nat} {I : Nat → Nat → Int32} {Q : Option Int32 → Wd → Prop} {p U m x mt a j : Nat} {v : Vv} {s : Rs} {go : Nat → Nat} {t f : Nat} (hp52 : p = 58 ∨ p = 60) (hsp : shn 68 p = (1, 92)) (hM : MRep I p 0 v) (hV : VOk v) (ha : a < vna v) (haj : a + 1 + j = 5) (hmt : mt < 2 ^ vna v) (hmt6 : mt < 64) (hU : U < 98) (hS : RS v I s (U + 1) go) (hE : Ent I U (nI 1) (nI m) (nI x) (nI mt) (nI a)) (hkd : vfa v a 5 = 2) (ht : I 64 (7 * U + 5) = nI t) (hf : I 52 25 = nI f) (hf0 : 0 < f) (hf9 : f < 10) (hfull : False → ∀ J, FrR I J → J 52 29 = nI 1 → Q none (J, RR k)) (hend : ∀ J, AEnd v I J s U go f (nI 0) → Q none (J, RR k)) : Ex (d + 2) 0 0 mX7_abouts [.ref 52, .ref p, .int (nI (7 * U)), .int (nI 1)] 68 (I, RR k) 68 Q := by
  obtain ⟨v1, v2, v3, v4⟩ := id hV
  have k4 := v4 a ha

  refine ex_intro (L0 := [.ref 52, .ref p, .int (nI (7 * U)), .int (nI 1), .null, .null, .null, .null]) (by decide +kernel) rfl rfl (Nat.le_of_ble_eq_true rfl) rfl ?_
  refine g_aload_n (q := 1) dX7_abouts_0 rfl rfl ?_
  refine gf_X7_44 (q := 4) rfl (by first | assumption | rfl) (by first | assumption | rfl) dX7_abouts_1 rfl ?_
  refine g_iload_n (q := 5) dX7_abouts_4 rfl rfl ?_
  refine g_iconst (q := 6) (v := nI 4) dX7_abouts_5 rfl (by decide) ?_
  refine g_iadd (q := 7) dX7_abouts_6 rfl ?_
  refine g_ialdn (q := 8) (by first | assumption | rfl) (by repeat' first | apply nI_a | apply nI_m | exact rfl) (by omega) dX7_abouts_7 rfl ?_
  rw [hE.2.2.2.2]
  refine g_istore (q := 10) dX7_abouts_8 rfl (by decide) rfl rfl ?_
  refine g_aload_n (q := 11) dX7_abouts_10 rfl rfl ?_
  refine g_bipush (q := 13) (v := nI 62) dX7_abouts_11 rfl (by decide) ?_
  refine g_bipush (q := 15) (v := nI 6) dX7_abouts_13 rfl (by decide) ?_
  refine g_iload (q := 17) dX7_abouts_15 rfl rfl ?_
  refine g_imul (q := 18) dX7_abouts_17 rfl ?_
  refine g_iadd (q := 19) dX7_abouts_18 rfl ?_
  refine g_ialdn (q := 20) (by first | assumption | rfl) (by repeat' first | apply nI_a | apply nI_m | exact rfl) (by omega) dX7_abouts_19 rfl ?_
  rw [hM.kd ha, hkd]
  refine g_istore (q := 22) dX7_abouts_20 rfl (by decide) rfl rfl ?_
  refine g_aload_n (q := 23) dX7_abouts_22 rfl rfl ?_
  refine g_bipush (q := 25) (v := nI 62) dX7_abouts_23 rfl (by decide) ?_
  refine g_bipush (q := 27) (v := nI 6) dX7_abouts_25 rfl (by decide) ?_
  refine g_iload (q := 29) dX7_abouts_27 rfl rfl ?_
  refine g_imul (q := 30) dX7_abouts_29 rfl ?_
  refine g_iadd (q := 31) dX7_abouts_30 rfl ?_
  refine g_iconst (q := 32) (v := nI 1) dX7_abouts_31 rfl (by decide) ?_
  refine g_iadd (q := 33) dX7_abouts_32 rfl ?_
  refine g_ialdn (q := 34) (by first | assumption | rfl) (by repeat' first | apply nI_a | apply nI_m | exact rfl) (by omega) dX7_abouts_33 rfl ?_
  rw [hM.f0 ha]
  refine g_istore (q := 36) dX7_abouts_34 rfl (by decide) rfl rfl ?_
  refine g_iload (q := 38) dX7_abouts_36 rfl rfl ?_
  refine g_iconst (q := 39) (v := nI 4) dX7_abouts_38 rfl (by decide) ?_
  refine g_icmp_ne (tgt := 49) (q := 42) dX7_abouts_39 (by decide) rfl (fun _ => ?_) (fun c39 => absurd c39 (by decide))
  refine g_iconst (q := 50) (v := nI 1) dX7_abouts_49 rfl (by decide) ?_
  refine g_istore (q := 52) dX7_abouts_50 rfl (by decide) rfl rfl ?_
  refine g_iload_n (q := 53) dX7_abouts_52 rfl rfl ?_
  refine g_if_ne (tgt := 68) (q := 56) dX7_abouts_53 (by decide) rfl (fun _ => ?_) (fun c53 => absurd c53 (by decide))
  refine g_aload_n (q := 69) dX7_abouts_68 rfl rfl ?_
  refine gf_X7_44 (q := 72) rfl (by first | assumption | rfl) (by first | assumption | rfl) dX7_abouts_69 rfl ?_
  refine g_iload_n (q := 73) dX7_abouts_72 rfl rfl ?_
  refine g_iconst (q := 74) (v := nI 5) dX7_abouts_73 rfl (by decide) ?_
  refine g_iadd (q := 75) dX7_abouts_74 rfl ?_
  refine g_dup2 (q := 76) dX7_abouts_75 rfl rfl rfl ?_
  refine g_ialdn (q := 77) (by first | assumption | rfl) (by repeat' first | apply nI_a | apply nI_m | exact rfl) (by omega) dX7_abouts_76 rfl ?_
  rw [ht]
  refine g_iconst (q := 78) (v := nI 1) dX7_abouts_77 rfl (by decide) ?_
  refine g_iadd (q := 79) dX7_abouts_78 rfl ?_
  rw [nI_add]
  refine g_iastn (q := 80) (by first | assumption | rfl) (by repeat' first | apply nI_a | apply nI_m | exact rfl) (by omega) dX7_abouts_79 rfl ?_
  obtain ⟨W, hW⟩ : ∃ W, W = uI (I) 64 (7 * U + 5) (nI (t + 1)) := ⟨_, rfl⟩
  rw [← hW]
  have b64 : (I) 64 = I 64 := rfl
  have w64 : ∀ i, i ≠ 7 * U + 5 → W 64 i = I 64 i := fun i hi => by rw [hW, uI_n2 hi, b64]
  have wE : Ent W U (nI 1) (nI m) (nI x) (nI mt) (nI a) := hE.to (fun i hi => w64 _ (by omega))
  have wt : W 64 (7 * U + 5) = nI (t + 1) := by rw [hW, uI_eq]
  have wh : ∀ i, i < 7 * U → W 64 i = I 64 i := fun i hi => w64 i (by omega)
  have wF : FrR I W := by rw [hW]; exact FrR.tr FrR.rf (FrR.u (Or.inl rfl))
  have wM : MRep W p 0 v := hM.eq (wF.1 p (by omega) (by omega) (by omega) (by omega))
  have b52 : W 52 = (I) 52 := by rw [hW, uI_ne (by decide)]
  have w25 : W 52 25 = I 52 25 := by rw [b52]
  have w26 : W 52 26 = I 52 26 := by rw [b52]
  have wR : RS v W s (U + 1) go := hS.eq (by rw [b52]; exact hS.1) (fun j hj => by rw [b52]) (by rw [hW, uI_ne (by decide)]) (by rw [hW, uI_ne (by decide)])
  have w21 := wR.1
  refine g_iload_n (q := 81) dX7_abouts_80 rfl rfl ?_
  refine g_if_eq (tgt := 121) (q := 84) dX7_abouts_81 (by decide) rfl (fun c81 => absurd c81 (by decide)) (fun _ => ?_)
  refine g_aload_n (q := 85) dX7_abouts_84 rfl rfl ?_
  refine gf_X7_204 (q := 88) rfl (by first | assumption | rfl) dX7_abouts_85 rfl ?_
  rw [w25, hf]
  refine g_if_le (tgt := 121) (q := 91) dX7_abouts_88 (by decide) rfl (fun c88 => absurd c88 (nI_nle (by omega) (by omega))) (fun _ => ?_)
  refine g_iload (q := 93) dX7_abouts_91 rfl rfl ?_
  refine g_iconst (q := 94) (v := nI 1) dX7_abouts_93 rfl (by decide) ?_
  refine g_icmp_eq (tgt := 103) (q := 97) dX7_abouts_94 (by decide) rfl (fun c94 => absurd c94 (by decide)) (fun _ => ?_)
  refine g_iload (q := 99) dX7_abouts_97 rfl rfl ?_
  refine g_iconst (q := 100) (v := nI 3) dX7_abouts_99 rfl (by decide) ?_
  refine g_icmp_ne (tgt := 109) (q := 103) dX7_abouts_100 (by decide) rfl (fun _ => ?_) (fun c100 => absurd c100 (by decide))
  refine g_aload_n (q := 110) dX7_abouts_109 rfl rfl ?_
  refine g_aload_n (q := 111) dX7_abouts_110 rfl rfl ?_
  refine gf_X7_204 (q := 114) rfl (by first | assumption | rfl) dX7_abouts_111 rfl ?_
  first | rw [w25, hf] | rw [emW_f (by decide), w25, hf] | rw [uI_n2 (by decide), w25, hf]
  refine g_iconst (q := 115) (v := nI 0) dX7_abouts_114 rfl (by decide) ?_
  refine k_X7_214 (q := 118) rfl (Nat.le_of_ble_eq_true rfl) (by first | assumption | rfl) dX7_abouts_115 rfl (c_ends (U := U) ?_ ?_)
  · first | exact hR2.1 | exact w21 | exact (uI_n2 (by decide)).trans w21
  refine g_goto (q := 235) dX7_abouts_118 (by decide) ?_
  refine g_vret rfl dX7_abouts_235 (Nat.le_refl _) (Nat.le_refl _) ?_
  exact hend _ (AEnd.mk wR wh wF)
set_option maxRecDepth 100000 in
set_option maxHeartbeats 400000 in
theorem c_ab_bf3 {d k : Nat} {I : Nat → Nat → Int32} {Q : Option Int32 → Wd → Prop} {p U m x mt a j : Nat} {v : Vv} {s : Rs} {go : Nat → Nat} {t f : Nat} (hp52 : p = 58 ∨ p = 60) (hsp : shn 68 p = (1, 92)) (hM : MRep I p 0 v) (hV : VOk v) (ha : a < vna v) (haj : a + 1 + j = 5) (hmt : mt < 2 ^ vna v) (hmt6 : mt < 64) (hU : U < 98) (hS : RS v I s (U + 1) go) (hE : Ent I U (nI 1) (nI m) (nI x) (nI mt) (nI a)) (hkd : vfa v a 5 = 3) (ht : I 64 (7 * U + 5) = nI t) (hf : I 52 25 = nI f) (hf0 : 0 < f) (hf9 : f < 10) (hfull : emF (vfa v a 0) s = none → ∀ J, FrR I J → J 52 29 = nI 1 → Q none (J, RR k)) (hend : ∀ J s2, emF (vfa v a 0) s = some s2 → AEnd v I J s2 U go f (nI 0) → Q none (J, RR k)) : Ex (d + 2) 0 0 mX7_abouts [.ref 52, .ref p, .int (nI (7 * U)), .int (nI 1)] 68 (I, RR k) 68 Q := by
  obtain ⟨v1, v2, v3, v4⟩ := id hV
  have k4 := v4 a ha

  refine ex_intro (L0 := [.ref 52, .ref p, .int (nI (7 * U)), .int (nI 1), .null, .null, .null, .null]) (by decide +kernel) rfl rfl (Nat.le_of_ble_eq_true rfl) rfl ?_
  refine g_aload_n (q := 1) dX7_abouts_0 rfl rfl ?_
  refine gf_X7_44 (q := 4) rfl (by first | assumption | rfl) (by first | assumption | rfl) dX7_abouts_1 rfl ?_
  refine g_iload_n (q := 5) dX7_abouts_4 rfl rfl ?_
  refine g_iconst (q := 6) (v := nI 4) dX7_abouts_5 rfl (by decide) ?_
  refine g_iadd (q := 7) dX7_abouts_6 rfl ?_
  refine g_ialdn (q := 8) (by first | assumption | rfl) (by repeat' first | apply nI_a | apply nI_m | exact rfl) (by omega) dX7_abouts_7 rfl ?_
  rw [hE.2.2.2.2]
  refine g_istore (q := 10) dX7_abouts_8 rfl (by decide) rfl rfl ?_
  refine g_aload_n (q := 11) dX7_abouts_10 rfl rfl ?_
  refine g_bipush (q := 13) (v := nI 62) dX7_abouts_11 rfl (by decide) ?_
  refine g_bipush (q := 15) (v := nI 6) dX7_abouts_13 rfl (by decide) ?_
  refine g_iload (q := 17) dX7_abouts_15 rfl rfl ?_
  refine g_imul (q := 18) dX7_abouts_17 rfl ?_
  refine g_iadd (q := 19) dX7_abouts_18 rfl ?_
  refine g_ialdn (q := 20) (by first | assumption | rfl) (by repeat' first | apply nI_a | apply nI_m | exact rfl) (by omega) dX7_abouts_19 rfl ?_
  rw [hM.kd ha, hkd]
  refine g_istore (q := 22) dX7_abouts_20 rfl (by decide) rfl rfl ?_
  refine g_aload_n (q := 23) dX7_abouts_22 rfl rfl ?_
  refine g_bipush (q := 25) (v := nI 62) dX7_abouts_23 rfl (by decide) ?_
  refine g_bipush (q := 27) (v := nI 6) dX7_abouts_25 rfl (by decide) ?_
  refine g_iload (q := 29) dX7_abouts_27 rfl rfl ?_
  refine g_imul (q := 30) dX7_abouts_29 rfl ?_
  refine g_iadd (q := 31) dX7_abouts_30 rfl ?_
  refine g_iconst (q := 32) (v := nI 1) dX7_abouts_31 rfl (by decide) ?_
  refine g_iadd (q := 33) dX7_abouts_32 rfl ?_
  refine g_ialdn (q := 34) (by first | assumption | rfl) (by repeat' first | apply nI_a | apply nI_m | exact rfl) (by omega) dX7_abouts_33 rfl ?_
  rw [hM.f0 ha]
  refine g_istore (q := 36) dX7_abouts_34 rfl (by decide) rfl rfl ?_
  refine g_iload (q := 38) dX7_abouts_36 rfl rfl ?_
  refine g_iconst (q := 39) (v := nI 4) dX7_abouts_38 rfl (by decide) ?_
  refine g_icmp_ne (tgt := 49) (q := 42) dX7_abouts_39 (by decide) rfl (fun _ => ?_) (fun c39 => absurd c39 (by decide))
  refine g_iconst (q := 50) (v := nI 1) dX7_abouts_49 rfl (by decide) ?_
  refine g_istore (q := 52) dX7_abouts_50 rfl (by decide) rfl rfl ?_
  refine g_iload_n (q := 53) dX7_abouts_52 rfl rfl ?_
  refine g_if_ne (tgt := 68) (q := 56) dX7_abouts_53 (by decide) rfl (fun _ => ?_) (fun c53 => absurd c53 (by decide))
  refine g_aload_n (q := 69) dX7_abouts_68 rfl rfl ?_
  refine gf_X7_44 (q := 72) rfl (by first | assumption | rfl) (by first | assumption | rfl) dX7_abouts_69 rfl ?_
  refine g_iload_n (q := 73) dX7_abouts_72 rfl rfl ?_
  refine g_iconst (q := 74) (v := nI 5) dX7_abouts_73 rfl (by decide) ?_
  refine g_iadd (q := 75) dX7_abouts_74 rfl ?_
  refine g_dup2 (q := 76) dX7_abouts_75 rfl rfl rfl ?_
  refine g_ialdn (q := 77) (by first | assumption | rfl) (by repeat' first | apply nI_a | apply nI_m | exact rfl) (by omega) dX7_abouts_76 rfl ?_
  rw [ht]
  refine g_iconst (q := 78) (v := nI 1) dX7_abouts_77 rfl (by decide) ?_
  refine g_iadd (q := 79) dX7_abouts_78 rfl ?_
  rw [nI_add]
  refine g_iastn (q := 80) (by first | assumption | rfl) (by repeat' first | apply nI_a | apply nI_m | exact rfl) (by omega) dX7_abouts_79 rfl ?_
  obtain ⟨W, hW⟩ : ∃ W, W = uI (I) 64 (7 * U + 5) (nI (t + 1)) := ⟨_, rfl⟩
  rw [← hW]
  have b64 : (I) 64 = I 64 := rfl
  have w64 : ∀ i, i ≠ 7 * U + 5 → W 64 i = I 64 i := fun i hi => by rw [hW, uI_n2 hi, b64]
  have wE : Ent W U (nI 1) (nI m) (nI x) (nI mt) (nI a) := hE.to (fun i hi => w64 _ (by omega))
  have wt : W 64 (7 * U + 5) = nI (t + 1) := by rw [hW, uI_eq]
  have wh : ∀ i, i < 7 * U → W 64 i = I 64 i := fun i hi => w64 i (by omega)
  have wF : FrR I W := by rw [hW]; exact FrR.tr FrR.rf (FrR.u (Or.inl rfl))
  have wM : MRep W p 0 v := hM.eq (wF.1 p (by omega) (by omega) (by omega) (by omega))
  have b52 : W 52 = (I) 52 := by rw [hW, uI_ne (by decide)]
  have w25 : W 52 25 = I 52 25 := by rw [b52]
  have w26 : W 52 26 = I 52 26 := by rw [b52]
  have wR : RS v W s (U + 1) go := hS.eq (by rw [b52]; exact hS.1) (fun j hj => by rw [b52]) (by rw [hW, uI_ne (by decide)]) (by rw [hW, uI_ne (by decide)])
  have w21 := wR.1
  refine g_iload_n (q := 81) dX7_abouts_80 rfl rfl ?_
  refine g_if_eq (tgt := 121) (q := 84) dX7_abouts_81 (by decide) rfl (fun c81 => absurd c81 (by decide)) (fun _ => ?_)
  refine g_aload_n (q := 85) dX7_abouts_84 rfl rfl ?_
  refine gf_X7_204 (q := 88) rfl (by first | assumption | rfl) dX7_abouts_85 rfl ?_
  rw [w25, hf]
  refine g_if_le (tgt := 121) (q := 91) dX7_abouts_88 (by decide) rfl (fun c88 => absurd c88 (nI_nle (by omega) (by omega))) (fun _ => ?_)
  refine g_iload (q := 93) dX7_abouts_91 rfl rfl ?_
  refine g_iconst (q := 94) (v := nI 1) dX7_abouts_93 rfl (by decide) ?_
  refine g_icmp_eq (tgt := 103) (q := 97) dX7_abouts_94 (by decide) rfl (fun c94 => absurd c94 (by decide)) (fun _ => ?_)
  refine g_iload (q := 99) dX7_abouts_97 rfl rfl ?_
  refine g_iconst (q := 100) (v := nI 3) dX7_abouts_99 rfl (by decide) ?_
  refine g_icmp_ne (tgt := 109) (q := 103) dX7_abouts_100 (by decide) rfl (fun c100 => absurd c100 (by decide)) (fun _ => ?_)
  refine g_aload_n (q := 104) dX7_abouts_103 rfl rfl ?_
  refine g_iload (q := 106) dX7_abouts_104 rfl rfl ?_
  refine k_X7_210 (q := 109) rfl (Nat.le_of_ble_eq_true rfl) (by first | assumption | rfl) dX7_abouts_106 rfl (c_emS wR (fun s2 he2 hR2 => ?_) (fun he2 => ?_))
  · refine g_aload_n (q := 110) dX7_abouts_109 rfl rfl ?_
    refine g_aload_n (q := 111) dX7_abouts_110 rfl rfl ?_
    refine gf_X7_204 (q := 114) rfl (by first | assumption | rfl) dX7_abouts_111 rfl ?_
    first | rw [w25, hf] | rw [emW_f (by decide), w25, hf] | rw [uI_n2 (by decide), w25, hf]
    refine g_iconst (q := 115) (v := nI 0) dX7_abouts_114 rfl (by decide) ?_
    refine k_X7_214 (q := 118) rfl (Nat.le_of_ble_eq_true rfl) (by first | assumption | rfl) dX7_abouts_115 rfl (c_ends (U := U) ?_ ?_)
    · first | exact hR2.1 | exact w21 | exact (uI_n2 (by decide)).trans w21
    refine g_goto (q := 235) dX7_abouts_118 (by decide) ?_
    refine g_vret rfl dX7_abouts_235 (Nat.le_refl _) (Nat.le_refl _) ?_
    exact hend _ s2 he2 (AEnd.mk hR2 (fun i hi => by rw [emW_64]; exact wh i hi) (FrR.tr wF emW_fr))
  · refine g_aload_n (q := 110) dX7_abouts_109 rfl rfl ?_
    refine g_aload_n (q := 111) dX7_abouts_110 rfl rfl ?_
    refine gf_X7_204 (q := 114) rfl (by first | assumption | rfl) dX7_abouts_111 rfl ?_
    first | rw [w25, hf] | rw [emW_f (by decide), w25, hf] | rw [uI_n2 (by decide), w25, hf]
    refine g_iconst (q := 115) (v := nI 0) dX7_abouts_114 rfl (by decide) ?_
    refine k_X7_214 (q := 118) rfl (Nat.le_of_ble_eq_true rfl) (by first | assumption | rfl) dX7_abouts_115 rfl (c_ends (U := U) ?_ ?_)
    · first | exact hR2.1 | exact w21 | exact (uI_n2 (by decide)).trans w21
    refine g_goto (q := 235) dX7_abouts_118 (by decide) ?_
    refine g_vret rfl dX7_abouts_235 (Nat.le_refl _) (Nat.le_refl _) ?_
    exact hfull (he2) _ (FrR.tr (FrR.tr wF (FrR.u (by omega))) enW_fr) (by rw [enW_f (by decide) (by decide) (by decide)]; exact uI_eq)
set_option maxRecDepth 100000 in
set_option maxHeartbeats 400000 in
theorem c_ab_bf4 {d k : Nat} {I : Nat → Nat → Int32} {Q : Option Int32 → Wd → Prop} {p U m x mt a j : Nat} {v : Vv} {s : Rs} {go : Nat → Nat} {t f : Nat} (hp52 : p = 58 ∨ p = 60) (hsp : shn 68 p = (1, 92)) (hM : MRep I p 0 v) (hV : VOk v) (ha : a < vna v) (haj : a + 1 + j = 5) (hmt : mt < 2 ^ vna v) (hmt6 : mt < 64) (hU : U < 98) (hS : RS v I s (U + 1) go) (hE : Ent I U (nI 1) (nI m) (nI x) (nI mt) (nI a)) (hkd : vfa v a 5 = 4) (ht : I 64 (7 * U + 5) = nI t) (hf : I 52 25 = nI f) (hf0 : 0 < f) (hf9 : f < 10) (hfull : False → ∀ J, FrR I J → J 52 29 = nI 1 → Q none (J, RR k)) (hend : ∀ J, AEnd v I J s U go f (nI 0) → Q none (J, RR k)) : Ex (d + 2) 0 0 mX7_abouts [.ref 52, .ref p, .int (nI (7 * U)), .int (nI 1)] 68 (I, RR k) 68 Q := by
  obtain ⟨v1, v2, v3, v4⟩ := id hV
  have k4 := v4 a ha

  refine ex_intro (L0 := [.ref 52, .ref p, .int (nI (7 * U)), .int (nI 1), .null, .null, .null, .null]) (by decide +kernel) rfl rfl (Nat.le_of_ble_eq_true rfl) rfl ?_
  refine g_aload_n (q := 1) dX7_abouts_0 rfl rfl ?_
  refine gf_X7_44 (q := 4) rfl (by first | assumption | rfl) (by first | assumption | rfl) dX7_abouts_1 rfl ?_
  refine g_iload_n (q := 5) dX7_abouts_4 rfl rfl ?_
  refine g_iconst (q := 6) (v := nI 4) dX7_abouts_5 rfl (by decide) ?_
  refine g_iadd (q := 7) dX7_abouts_6 rfl ?_
  refine g_ialdn (q := 8) (by first | assumption | rfl) (by repeat' first | apply nI_a | apply nI_m | exact rfl) (by omega) dX7_abouts_7 rfl ?_
  rw [hE.2.2.2.2]
  refine g_istore (q := 10) dX7_abouts_8 rfl (by decide) rfl rfl ?_
  refine g_aload_n (q := 11) dX7_abouts_10 rfl rfl ?_
  refine g_bipush (q := 13) (v := nI 62) dX7_abouts_11 rfl (by decide) ?_
  refine g_bipush (q := 15) (v := nI 6) dX7_abouts_13 rfl (by decide) ?_
  refine g_iload (q := 17) dX7_abouts_15 rfl rfl ?_
  refine g_imul (q := 18) dX7_abouts_17 rfl ?_
  refine g_iadd (q := 19) dX7_abouts_18 rfl ?_
  refine g_ialdn (q := 20) (by first | assumption | rfl) (by repeat' first | apply nI_a | apply nI_m | exact rfl) (by omega) dX7_abouts_19 rfl ?_
  rw [hM.kd ha, hkd]
  refine g_istore (q := 22) dX7_abouts_20 rfl (by decide) rfl rfl ?_
  refine g_aload_n (q := 23) dX7_abouts_22 rfl rfl ?_
  refine g_bipush (q := 25) (v := nI 62) dX7_abouts_23 rfl (by decide) ?_
  refine g_bipush (q := 27) (v := nI 6) dX7_abouts_25 rfl (by decide) ?_
  refine g_iload (q := 29) dX7_abouts_27 rfl rfl ?_
  refine g_imul (q := 30) dX7_abouts_29 rfl ?_
  refine g_iadd (q := 31) dX7_abouts_30 rfl ?_
  refine g_iconst (q := 32) (v := nI 1) dX7_abouts_31 rfl (by decide) ?_
  refine g_iadd (q := 33) dX7_abouts_32 rfl ?_
  refine g_ialdn (q := 34) (by first | assumption | rfl) (by repeat' first | apply nI_a | apply nI_m | exact rfl) (by omega) dX7_abouts_33 rfl ?_
  rw [hM.f0 ha]
  refine g_istore (q := 36) dX7_abouts_34 rfl (by decide) rfl rfl ?_
  refine g_iload (q := 38) dX7_abouts_36 rfl rfl ?_
  refine g_iconst (q := 39) (v := nI 4) dX7_abouts_38 rfl (by decide) ?_
  refine g_icmp_ne (tgt := 49) (q := 42) dX7_abouts_39 (by decide) rfl (fun c39 => absurd c39 (by decide)) (fun _ => ?_)
  refine g_iload (q := 44) dX7_abouts_42 rfl rfl ?_
  refine g_iconst (q := 45) (v := nI 3) dX7_abouts_44 rfl (by decide) ?_
  refine g_irem (q := 46) dX7_abouts_45 rfl (by decide) ?_
  rw [rem3 _ (by omega)]
  refine g_goto (q := 50) dX7_abouts_46 (by decide) ?_
  refine g_istore (q := 52) dX7_abouts_50 rfl (by decide) rfl rfl ?_
  refine g_iload_n (q := 53) dX7_abouts_52 rfl rfl ?_
  refine g_if_ne (tgt := 68) (q := 56) dX7_abouts_53 (by decide) rfl (fun _ => ?_) (fun c53 => absurd c53 (by decide))
  refine g_aload_n (q := 69) dX7_abouts_68 rfl rfl ?_
  refine gf_X7_44 (q := 72) rfl (by first | assumption | rfl) (by first | assumption | rfl) dX7_abouts_69 rfl ?_
  refine g_iload_n (q := 73) dX7_abouts_72 rfl rfl ?_
  refine g_iconst (q := 74) (v := nI 5) dX7_abouts_73 rfl (by decide) ?_
  refine g_iadd (q := 75) dX7_abouts_74 rfl ?_
  refine g_dup2 (q := 76) dX7_abouts_75 rfl rfl rfl ?_
  refine g_ialdn (q := 77) (by first | assumption | rfl) (by repeat' first | apply nI_a | apply nI_m | exact rfl) (by omega) dX7_abouts_76 rfl ?_
  rw [ht]
  refine g_iconst (q := 78) (v := nI 1) dX7_abouts_77 rfl (by decide) ?_
  refine g_iadd (q := 79) dX7_abouts_78 rfl ?_
  rw [nI_add]
  refine g_iastn (q := 80) (by first | assumption | rfl) (by repeat' first | apply nI_a | apply nI_m | exact rfl) (by omega) dX7_abouts_79 rfl ?_
  obtain ⟨W, hW⟩ : ∃ W, W = uI (I) 64 (7 * U + 5) (nI (t + 1)) := ⟨_, rfl⟩
  rw [← hW]
  have b64 : (I) 64 = I 64 := rfl
  have w64 : ∀ i, i ≠ 7 * U + 5 → W 64 i = I 64 i := fun i hi => by rw [hW, uI_n2 hi, b64]
  have wE : Ent W U (nI 1) (nI m) (nI x) (nI mt) (nI a) := hE.to (fun i hi => w64 _ (by omega))
  have wt : W 64 (7 * U + 5) = nI (t + 1) := by rw [hW, uI_eq]
  have wh : ∀ i, i < 7 * U → W 64 i = I 64 i := fun i hi => w64 i (by omega)
  have wF : FrR I W := by rw [hW]; exact FrR.tr FrR.rf (FrR.u (Or.inl rfl))
  have wM : MRep W p 0 v := hM.eq (wF.1 p (by omega) (by omega) (by omega) (by omega))
  have b52 : W 52 = (I) 52 := by rw [hW, uI_ne (by decide)]
  have w25 : W 52 25 = I 52 25 := by rw [b52]
  have w26 : W 52 26 = I 52 26 := by rw [b52]
  have wR : RS v W s (U + 1) go := hS.eq (by rw [b52]; exact hS.1) (fun j hj => by rw [b52]) (by rw [hW, uI_ne (by decide)]) (by rw [hW, uI_ne (by decide)])
  have w21 := wR.1
  refine g_iload_n (q := 81) dX7_abouts_80 rfl rfl ?_
  refine g_if_eq (tgt := 121) (q := 84) dX7_abouts_81 (by decide) rfl (fun c81 => absurd c81 (by decide)) (fun _ => ?_)
  refine g_aload_n (q := 85) dX7_abouts_84 rfl rfl ?_
  refine gf_X7_204 (q := 88) rfl (by first | assumption | rfl) dX7_abouts_85 rfl ?_
  rw [w25, hf]
  refine g_if_le (tgt := 121) (q := 91) dX7_abouts_88 (by decide) rfl (fun c88 => absurd c88 (nI_nle (by omega) (by omega))) (fun _ => ?_)
  refine g_iload (q := 93) dX7_abouts_91 rfl rfl ?_
  refine g_iconst (q := 94) (v := nI 1) dX7_abouts_93 rfl (by decide) ?_
  refine g_icmp_eq (tgt := 103) (q := 97) dX7_abouts_94 (by decide) rfl (fun c94 => absurd c94 (by decide)) (fun _ => ?_)
  refine g_iload (q := 99) dX7_abouts_97 rfl rfl ?_
  refine g_iconst (q := 100) (v := nI 3) dX7_abouts_99 rfl (by decide) ?_
  refine g_icmp_ne (tgt := 109) (q := 103) dX7_abouts_100 (by decide) rfl (fun _ => ?_) (fun c100 => absurd c100 (by decide))
  refine g_aload_n (q := 110) dX7_abouts_109 rfl rfl ?_
  refine g_aload_n (q := 111) dX7_abouts_110 rfl rfl ?_
  refine gf_X7_204 (q := 114) rfl (by first | assumption | rfl) dX7_abouts_111 rfl ?_
  first | rw [w25, hf] | rw [emW_f (by decide), w25, hf] | rw [uI_n2 (by decide), w25, hf]
  refine g_iconst (q := 115) (v := nI 0) dX7_abouts_114 rfl (by decide) ?_
  refine k_X7_214 (q := 118) rfl (Nat.le_of_ble_eq_true rfl) (by first | assumption | rfl) dX7_abouts_115 rfl (c_ends (U := U) ?_ ?_)
  · first | exact hR2.1 | exact w21 | exact (uI_n2 (by decide)).trans w21
  refine g_goto (q := 235) dX7_abouts_118 (by decide) ?_
  refine g_vret rfl dX7_abouts_235 (Nat.le_refl _) (Nat.le_refl _) ?_
  exact hend _ (AEnd.mk wR wh wF)
set_option maxRecDepth 100000 in
set_option maxHeartbeats 400000 in
theorem c_ab_bf5 {d k : Nat} {I : Nat → Nat → Int32} {Q : Option Int32 → Wd → Prop} {p U m x mt a j : Nat} {v : Vv} {s : Rs} {go : Nat → Nat} {t f : Nat} (hp52 : p = 58 ∨ p = 60) (hsp : shn 68 p = (1, 92)) (hM : MRep I p 0 v) (hV : VOk v) (ha : a < vna v) (haj : a + 1 + j = 5) (hmt : mt < 2 ^ vna v) (hmt6 : mt < 64) (hU : U < 98) (hS : RS v I s (U + 1) go) (hE : Ent I U (nI 1) (nI m) (nI x) (nI mt) (nI a)) (hkd : vfa v a 5 = 5) (ht : I 64 (7 * U + 5) = nI t) (hf : I 52 25 = nI f) (hf0 : 0 < f) (hf9 : f < 10) (hfull : False → ∀ J, FrR I J → J 52 29 = nI 1 → Q none (J, RR k)) (hend : ∀ J, AEnd v I J s U go f (nI 0) → Q none (J, RR k)) : Ex (d + 2) 0 0 mX7_abouts [.ref 52, .ref p, .int (nI (7 * U)), .int (nI 1)] 68 (I, RR k) 68 Q := by
  obtain ⟨v1, v2, v3, v4⟩ := id hV
  have k4 := v4 a ha

  refine ex_intro (L0 := [.ref 52, .ref p, .int (nI (7 * U)), .int (nI 1), .null, .null, .null, .null]) (by decide +kernel) rfl rfl (Nat.le_of_ble_eq_true rfl) rfl ?_
  refine g_aload_n (q := 1) dX7_abouts_0 rfl rfl ?_
  refine gf_X7_44 (q := 4) rfl (by first | assumption | rfl) (by first | assumption | rfl) dX7_abouts_1 rfl ?_
  refine g_iload_n (q := 5) dX7_abouts_4 rfl rfl ?_
  refine g_iconst (q := 6) (v := nI 4) dX7_abouts_5 rfl (by decide) ?_
  refine g_iadd (q := 7) dX7_abouts_6 rfl ?_
  refine g_ialdn (q := 8) (by first | assumption | rfl) (by repeat' first | apply nI_a | apply nI_m | exact rfl) (by omega) dX7_abouts_7 rfl ?_
  rw [hE.2.2.2.2]
  refine g_istore (q := 10) dX7_abouts_8 rfl (by decide) rfl rfl ?_
  refine g_aload_n (q := 11) dX7_abouts_10 rfl rfl ?_
  refine g_bipush (q := 13) (v := nI 62) dX7_abouts_11 rfl (by decide) ?_
  refine g_bipush (q := 15) (v := nI 6) dX7_abouts_13 rfl (by decide) ?_
  refine g_iload (q := 17) dX7_abouts_15 rfl rfl ?_
  refine g_imul (q := 18) dX7_abouts_17 rfl ?_
  refine g_iadd (q := 19) dX7_abouts_18 rfl ?_
  refine g_ialdn (q := 20) (by first | assumption | rfl) (by repeat' first | apply nI_a | apply nI_m | exact rfl) (by omega) dX7_abouts_19 rfl ?_
  rw [hM.kd ha, hkd]
  refine g_istore (q := 22) dX7_abouts_20 rfl (by decide) rfl rfl ?_
  refine g_aload_n (q := 23) dX7_abouts_22 rfl rfl ?_
  refine g_bipush (q := 25) (v := nI 62) dX7_abouts_23 rfl (by decide) ?_
  refine g_bipush (q := 27) (v := nI 6) dX7_abouts_25 rfl (by decide) ?_
  refine g_iload (q := 29) dX7_abouts_27 rfl rfl ?_
  refine g_imul (q := 30) dX7_abouts_29 rfl ?_
  refine g_iadd (q := 31) dX7_abouts_30 rfl ?_
  refine g_iconst (q := 32) (v := nI 1) dX7_abouts_31 rfl (by decide) ?_
  refine g_iadd (q := 33) dX7_abouts_32 rfl ?_
  refine g_ialdn (q := 34) (by first | assumption | rfl) (by repeat' first | apply nI_a | apply nI_m | exact rfl) (by omega) dX7_abouts_33 rfl ?_
  rw [hM.f0 ha]
  refine g_istore (q := 36) dX7_abouts_34 rfl (by decide) rfl rfl ?_
  refine g_iload (q := 38) dX7_abouts_36 rfl rfl ?_
  refine g_iconst (q := 39) (v := nI 4) dX7_abouts_38 rfl (by decide) ?_
  refine g_icmp_ne (tgt := 49) (q := 42) dX7_abouts_39 (by decide) rfl (fun _ => ?_) (fun c39 => absurd c39 (by decide))
  refine g_iconst (q := 50) (v := nI 1) dX7_abouts_49 rfl (by decide) ?_
  refine g_istore (q := 52) dX7_abouts_50 rfl (by decide) rfl rfl ?_
  refine g_iload_n (q := 53) dX7_abouts_52 rfl rfl ?_
  refine g_if_ne (tgt := 68) (q := 56) dX7_abouts_53 (by decide) rfl (fun _ => ?_) (fun c53 => absurd c53 (by decide))
  refine g_aload_n (q := 69) dX7_abouts_68 rfl rfl ?_
  refine gf_X7_44 (q := 72) rfl (by first | assumption | rfl) (by first | assumption | rfl) dX7_abouts_69 rfl ?_
  refine g_iload_n (q := 73) dX7_abouts_72 rfl rfl ?_
  refine g_iconst (q := 74) (v := nI 5) dX7_abouts_73 rfl (by decide) ?_
  refine g_iadd (q := 75) dX7_abouts_74 rfl ?_
  refine g_dup2 (q := 76) dX7_abouts_75 rfl rfl rfl ?_
  refine g_ialdn (q := 77) (by first | assumption | rfl) (by repeat' first | apply nI_a | apply nI_m | exact rfl) (by omega) dX7_abouts_76 rfl ?_
  rw [ht]
  refine g_iconst (q := 78) (v := nI 1) dX7_abouts_77 rfl (by decide) ?_
  refine g_iadd (q := 79) dX7_abouts_78 rfl ?_
  rw [nI_add]
  refine g_iastn (q := 80) (by first | assumption | rfl) (by repeat' first | apply nI_a | apply nI_m | exact rfl) (by omega) dX7_abouts_79 rfl ?_
  obtain ⟨W, hW⟩ : ∃ W, W = uI (I) 64 (7 * U + 5) (nI (t + 1)) := ⟨_, rfl⟩
  rw [← hW]
  have b64 : (I) 64 = I 64 := rfl
  have w64 : ∀ i, i ≠ 7 * U + 5 → W 64 i = I 64 i := fun i hi => by rw [hW, uI_n2 hi, b64]
  have wE : Ent W U (nI 1) (nI m) (nI x) (nI mt) (nI a) := hE.to (fun i hi => w64 _ (by omega))
  have wt : W 64 (7 * U + 5) = nI (t + 1) := by rw [hW, uI_eq]
  have wh : ∀ i, i < 7 * U → W 64 i = I 64 i := fun i hi => w64 i (by omega)
  have wF : FrR I W := by rw [hW]; exact FrR.tr FrR.rf (FrR.u (Or.inl rfl))
  have wM : MRep W p 0 v := hM.eq (wF.1 p (by omega) (by omega) (by omega) (by omega))
  have b52 : W 52 = (I) 52 := by rw [hW, uI_ne (by decide)]
  have w25 : W 52 25 = I 52 25 := by rw [b52]
  have w26 : W 52 26 = I 52 26 := by rw [b52]
  have wR : RS v W s (U + 1) go := hS.eq (by rw [b52]; exact hS.1) (fun j hj => by rw [b52]) (by rw [hW, uI_ne (by decide)]) (by rw [hW, uI_ne (by decide)])
  have w21 := wR.1
  refine g_iload_n (q := 81) dX7_abouts_80 rfl rfl ?_
  refine g_if_eq (tgt := 121) (q := 84) dX7_abouts_81 (by decide) rfl (fun c81 => absurd c81 (by decide)) (fun _ => ?_)
  refine g_aload_n (q := 85) dX7_abouts_84 rfl rfl ?_
  refine gf_X7_204 (q := 88) rfl (by first | assumption | rfl) dX7_abouts_85 rfl ?_
  rw [w25, hf]
  refine g_if_le (tgt := 121) (q := 91) dX7_abouts_88 (by decide) rfl (fun c88 => absurd c88 (nI_nle (by omega) (by omega))) (fun _ => ?_)
  refine g_iload (q := 93) dX7_abouts_91 rfl rfl ?_
  refine g_iconst (q := 94) (v := nI 1) dX7_abouts_93 rfl (by decide) ?_
  refine g_icmp_eq (tgt := 103) (q := 97) dX7_abouts_94 (by decide) rfl (fun c94 => absurd c94 (by decide)) (fun _ => ?_)
  refine g_iload (q := 99) dX7_abouts_97 rfl rfl ?_
  refine g_iconst (q := 100) (v := nI 3) dX7_abouts_99 rfl (by decide) ?_
  refine g_icmp_ne (tgt := 109) (q := 103) dX7_abouts_100 (by decide) rfl (fun _ => ?_) (fun c100 => absurd c100 (by decide))
  refine g_aload_n (q := 110) dX7_abouts_109 rfl rfl ?_
  refine g_aload_n (q := 111) dX7_abouts_110 rfl rfl ?_
  refine gf_X7_204 (q := 114) rfl (by first | assumption | rfl) dX7_abouts_111 rfl ?_
  first | rw [w25, hf] | rw [emW_f (by decide), w25, hf] | rw [uI_n2 (by decide), w25, hf]
  refine g_iconst (q := 115) (v := nI 0) dX7_abouts_114 rfl (by decide) ?_
  refine k_X7_214 (q := 118) rfl (Nat.le_of_ble_eq_true rfl) (by first | assumption | rfl) dX7_abouts_115 rfl (c_ends (U := U) ?_ ?_)
  · first | exact hR2.1 | exact w21 | exact (uI_n2 (by decide)).trans w21
  refine g_goto (q := 235) dX7_abouts_118 (by decide) ?_
  refine g_vret rfl dX7_abouts_235 (Nat.le_refl _) (Nat.le_refl _) ?_
  exact hend _ (AEnd.mk wR wh wF)
