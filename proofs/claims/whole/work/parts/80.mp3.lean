def FrD (I J : Nat → Nat → Int32) : Prop := (∀ p, p ≠ 52 → p ≠ 59 → J p = I p) ∧ ∀ j, j < 7 ∨ 12 < j → J 52 j = I 52 j
theorem FrD.rf {I : Nat → Nat → Int32} : FrD I I := ⟨fun _ _ _ => rfl, fun _ _ => rfl⟩
theorem FrD.tr {I J K : Nat → Nat → Int32} (h1 : FrD I J) (h2 : FrD J K) : FrD I K := ⟨fun p a b => (h2.1 p a b).trans (h1.1 p a b), fun j a => (h2.2 j a).trans (h1.2 j a)⟩
theorem FrX.d {I J : Nat → Nat → Int32} (h : FrX I J) : FrD I J := ⟨fun p a _ => h.1 p a, h.2⟩
theorem FrD.u {I : Nat → Nat → Int32} {j : Nat} {x : Int32} : FrD I (uI I 59 j x) := ⟨fun p _ h => uI_ne h, fun i _ => by rw [uI_ne (by decide)]⟩
theorem RX.u {I : Nat → Nat → Int32} {t : List Nat} {s : Ps} {f0 j : Nat} {x : Int32} (h : RX I t s f0) : RX (uI I 59 j x) t s f0 := h.eq (uI_ne (by decide)) (uI_ne (by decide))
theorem MRep.x {I J : Nat → Nat → Int32} {v : Vv} (h : MRep I 59 0 v) (hF : FrX I J) : MRep J 59 0 v := h.eq (hF.1 59 (by decide))
theorem MRep_ui {I : Nat → Nat → Int32} {v : Vv} {j : Nat} {x : Int32} (h : MRep I 59 0 v) (hv : VOk0 v) (h1 : 2 + 10 * vnm v ≤ j) (h2 : j < 62) : MRep (uI I 59 j x) 59 0 v := by
  obtain ⟨a1, a2, a3, a4⟩ := h
  have e : ∀ i, i ≠ j → uI I 59 j x 59 i = I 59 i := fun i hi => uI_n2 hi
  refine ⟨by rw [e _ (by omega)]; exact a1, by rw [e _ (by omega)]; exact a2, fun m hm => ?_, fun a ha => ?_⟩
  · have hl := (hv.2.2.1 m hm).2.1
    obtain ⟨b1, b2, b3⟩ := a3 m hm
    refine ⟨by rw [e _ (by omega)]; exact b1, by rw [e _ (by omega)]; exact b2, fun i hi => ?_⟩
    rw [e _ (by omega), e _ (by omega)]
    exact b3 i hi
  · obtain ⟨b1, b2⟩ := a4 a ha
    refine ⟨by rw [e _ (by omega)]; exact b1, fun f hf => ?_⟩
    rw [e _ (by omega)]
    exact b2 f hf
def PM (W : Nat → Nat → Int32) (v : Vv) (l : List (Nat × Nat)) : Prop := MRep W 59 0 v ∧ ∀ i, i < l.length → W 59 (2 + 10 * vnm v + 2 + 2 * i) = nI (l.getD i (0, 0)).1 ∧ W 59 (2 + 10 * vnm v + 2 + 2 * i + 1) = nI (l.getD i (0, 0)).2
theorem PM.x {I J : Nat → Nat → Int32} {v : Vv} {l : List (Nat × Nat)} (h : PM I v l) (hF : FrX I J) : PM J v l := by
  unfold PM MRep; rw [hF.1 59 (by decide)]; exact h
theorem PM.put {W : Nat → Nat → Int32} {v : Vv} {l : List (Nat × Nat)} {s x : Nat} (h : PM W v l) (hv : VOk0 v) (hn : vnm v < 6) (hl : l.length < 4) : PM (uI (uI W 59 (2 + 10 * vnm v + 2 + 2 * l.length) (nI s)) 59 (2 + 10 * vnm v + 2 + 2 * l.length + 1) (nI x)) v (l ++ [(s, x)]) := by
  refine ⟨MRep_ui (MRep_ui h.1 hv (by omega) (by omega)) hv (by omega) (by omega), fun i hi => ?_⟩
  rw [List.length_append] at hi
  have hi : i < l.length + 1 := hi
  rw [getD_app]
  by_cases e : i < l.length
  · rw [if_pos e, uI_n2 (by omega), uI_n2 (by omega), uI_n2 (by omega), uI_n2 (by omega)]
    exact h.2 i e
  · have e2 : i = l.length := by omega
    subst e2
    rw [if_neg e, if_pos rfl]
    exact ⟨by rw [uI_n2 (by omega), uI_eq], uI_eq⟩
theorem MRep_addM {W J : Nat → Nat → Int32} {v : Vv} {l : List (Nat × Nat)} {c : Nat} (h : PM W v l) (hv : VOk0 v) (hn : vnm v < 6) (hl : l.length ≤ 4) (e : J = uI (uI (uI W 59 (2 + 10 * vnm v) (nI c)) 59 (2 + 10 * vnm v + 1) (nI l.length)) 59 0 (nI (vnm v + 1))) : MRep J 59 0 (addM v c l) := by
  obtain ⟨⟨a1, a2, a3, a4⟩, h2⟩ := h
  have e0 : J 59 0 = nI (vnm v + 1) := by rw [e, uI_eq]
  have e1 : J 59 (2 + 10 * vnm v) = nI c := by rw [e, uI_n2 (by omega), uI_n2 (by omega), uI_eq]
  have e2 : J 59 (2 + 10 * vnm v + 1) = nI l.length := by rw [e, uI_n2 (by omega), uI_eq]
  have e3 : ∀ i, i ≠ 0 → i ≠ 2 + 10 * vnm v → i ≠ 2 + 10 * vnm v + 1 → J 59 i = W 59 i := fun i h0 h1 h2 => by rw [e, uI_n2 h0, uI_n2 h2, uI_n2 h1]
  refine ⟨e0, by rw [e3 _ (by omega) (by omega) (by omega)]; exact a2, fun m hm => ?_, fun a ha => ?_⟩
  · by_cases em : m = vnm v
    · have q1 : vcl (addM v c l) m = c := if_pos em
      have q2 : vln (addM v c l) m = l.length := if_pos em
      rw [q1, q2]
      refine ⟨by rw [em, Nat.zero_add]; exact e1, by rw [em, Nat.zero_add]; exact e2, fun i hi => ?_⟩
      have q3 : vso (addM v c l) m i = (l.getD i (0, 0)).1 := if_pos em
      have q4 : vop (addM v c l) m i = (l.getD i (0, 0)).2 := if_pos em
      rw [q3, q4, em, e3 _ (by omega) (by omega) (by omega), e3 _ (by omega) (by omega) (by omega), Nat.zero_add, Nat.zero_add]
      exact h2 i hi
    · have hm : m < vnm v := by
        have : m < vnm v + 1 := hm
        omega
      have q1 : vcl (addM v c l) m = vcl v m := if_neg em
      have q2 : vln (addM v c l) m = vln v m := if_neg em
      have hl4 := (hv.2.2.1 m hm).2.1
      obtain ⟨b1, b2, b3⟩ := a3 m hm
      rw [q1, q2]
      refine ⟨by rw [e3 _ (by omega) (by omega) (by omega)]; exact b1, by rw [e3 _ (by omega) (by omega) (by omega)]; exact b2, fun i hi => ?_⟩
      have q3 : vso (addM v c l) m i = vso v m i := if_neg em
      have q4 : vop (addM v c l) m i = vop v m i := if_neg em
      rw [q3, q4, e3 _ (by omega) (by omega) (by omega), e3 _ (by omega) (by omega) (by omega)]
      exact b3 i hi
  · obtain ⟨b1, b2⟩ := a4 a ha
    refine ⟨by rw [e3 _ (by omega) (by omega) (by omega)]; exact b1, fun f hf => ?_⟩
    rw [e3 _ (by omega) (by omega) (by omega)]
    exact b2 f hf
theorem MRep_addA {W J : Nat → Nat → Int32} {v : Vv} {x : Nat → Nat} (h : MRep W 59 0 v) (hv : VOk0 v) (hn : vna v < 5) (e0 : J 59 1 = nI (vna v + 1)) (e1 : J 59 (62 + 6 * vna v) = nI (x 5)) (e2 : ∀ f, f < 5 → J 59 (62 + 6 * vna v + 1 + f) = nI (x f)) (e3 : ∀ i, i ≠ 1 → (i < 62 + 6 * vna v ∨ 62 + 6 * vna v + 5 < i) → J 59 i = W 59 i) : MRep J 59 0 (addA v x) := by
  obtain ⟨a1, a2, a3, a4⟩ := h
  refine ⟨by rw [e3 _ (by omega) (by omega)]; exact a1, e0, fun m hm => ?_, fun a ha => ?_⟩
  · have hl4 := (hv.2.2.1 m hm).2.1
    have hm6 : m < 6 := Nat.lt_of_lt_of_le hm hv.1
    obtain ⟨b1, b2, b3⟩ := a3 m hm
    have hl5 : vln (addA v x) m ≤ 4 := hl4
    refine ⟨by rw [e3 _ (by omega) (by omega)]; exact b1, by rw [e3 _ (by omega) (by omega)]; exact b2, fun i hi => ?_⟩
    rw [e3 _ (by omega) (by omega), e3 _ (by omega) (by omega)]
    exact b3 i hi
  · by_cases ea : a = vna v
    · have q1 : ∀ f, vfa (addA v x) a f = x f := fun f => if_pos ea
      rw [ea, Nat.zero_add]
      refine ⟨by rw [← ea, q1, ea]; exact e1, fun f hf => ?_⟩
      rw [Nat.zero_add, ← ea, q1, ea]
      exact e2 f hf
    · have ha : a < vna v := by
        have : a < vna v + 1 := ha
        omega
      have q1 : ∀ f, vfa (addA v x) a f = vfa v a f := fun f => if_neg ea
      obtain ⟨b1, b2⟩ := a4 a ha
      refine ⟨by rw [e3 _ (by omega) (by omega), q1]; exact b1, fun f hf => ?_⟩
      rw [e3 _ (by omega) (by omega), q1]
      exact b2 f hf

set_option maxRecDepth 100000 in
set_option maxHeartbeats 400000 in
theorem l_mrd {d k : Nat} {I : Nat → Nat → Int32} {Q : Option Int32 → Wd → Prop} {t : List Nat} {f0 cc : Nat} {v : Vv} {its : Int32} (hv : VOk0 v) (hn : vnm v < 6) {fin : Ps × List (Nat × Nat)} (hits : fin.1.1 = 0 → its = nI cc) (h1 : (tkS t (chr t fin.1.2 59) 1 fin.1).1 = 0 → ∀ J, FrD I J → RX J t (tkS t (chr t fin.1.2 59) 1 fin.1) f0 → MRep J 59 0 (addM v cc fin.2) → Q none (J, RR k)) (h0 : ¬ (tkS t (chr t fin.1.2 59) 1 fin.1).1 = 0 → ∀ J, FrD I J → RX J t (tkS t (chr t fin.1.2 59) 1 fin.1) f0 → MRep J 59 0 v → Q none (J, RR k)) : ∀ (n : Nat) (W : Nat → Nat → Int32) (s : Ps) (l : List (Nat × Nat)) (u4 u5 : Value), (s.1 = 0 → l.length + n = 4) → l.length ≤ 4 → stS t n s l = fin → FrD I W → RX W t s f0 → PM W v l → G mX7_readsMethod (rmd (d + 4) 0 0) (Zm Q 68 68 0 0) 68 58 [.ref 52, .int (nI (2 + 10 * vnm v)), .int its, .int (nI l.length), u4, u5] [] 68 (W, RR k) 0 0 := by
  have tail : ∀ (W : Nat → Nat → Int32) (s : Ps) (l : List (Nat × Nat)) (u4 u5 : Value), l.length ≤ 4 → (s, l) = fin → FrD I W → RX W t s f0 → PM W v l → G mX7_readsMethod (rmd (d + 4) 0 0) (Zm Q 68 68 0 0) 68 183 [.ref 52, .int (nI (2 + 10 * vnm v)), .int its, .int (nI l.length), u4, u5] [] 68 (W, RR k) 0 0 := by
    intro W s l u4 u5 hl hf hF hR hP
    subst hf
    obtain ⟨r1, r2, r3, r4, r5, r6, r7⟩ := id hR
    refine g_aload_n (q := 184) dX7_readsMethod_183 rfl rfl ?_
    refine g_aload_n (q := 185) dX7_readsMethod_184 rfl rfl ?_
    refine gf_X7_104 (q := 188) rfl (by first | assumption | rfl) dX7_readsMethod_185 rfl ?_
    refine g_iconst (q := 189) (v := nI 4) dX7_readsMethod_188 rfl (by decide) ?_
    refine g_icmp_ne (tgt := 196) (q := 192) dX7_readsMethod_189 (by decide) rfl (fun c189 => ?_) (fun c189 => ?_)
    · refine g_iconst (q := 197) (v := nI 0) dX7_readsMethod_196 rfl (by decide) ?_
      refine g_iconst (q := 198) (v := nI 1) dX7_readsMethod_197 rfl (by decide) ?_
      refine k_X7_120 (q := 201) rfl (Nat.le_of_ble_eq_true rfl) (by first | assumption | rfl) dX7_readsMethod_198 rfl (c_takes0 hR (by decide) (by decide) (fun J g1 g2 => ?_))
      have gS : RX J t (tkS t (chr t s.2 59) 1 s) f0 := by
        by_cases hs : s.1 = 0
        · have hc : chr t s.2 59 = false := by
            cases hb : chr t s.2 59 with
            | false => rfl
            | true => exact absurd (by rw [(r7 hs).2.2.1, tkK_4.mpr hb]) c189
          rw [hc]; exact g2
        · rw [tkS_n hs] at g2 ⊢; exact g2
      refine g_pop (q := 202) dX7_readsMethod_201 rfl rfl ?_
      refine g_aload_n (q := 203) dX7_readsMethod_202 rfl rfl ?_
      refine k_X7_110 (q := 206) rfl (Nat.le_of_ble_eq_true rfl) (by first | assumption | rfl) dX7_readsMethod_203 rfl (c_X7_isWell gS (fun z203 => ?_) (fun z203 => ?_))
      · have M3 := hP.x g1
        have zf := (tkS_0 (by decide) z203).1
        rw [hits zf]
        refine g_if_eq (tgt := 235) (q := 209) dX7_readsMethod_206 (by decide) rfl (fun c206 => absurd c206 (by decide)) (fun _ => ?_)
        refine g_aload_n (q := 210) dX7_readsMethod_209 rfl rfl ?_
        refine gf_X7_28 (q := 213) rfl (by first | assumption | rfl) (by first | assumption | rfl) dX7_readsMethod_210 rfl ?_
        refine g_iload_n (q := 214) dX7_readsMethod_213 rfl rfl ?_
        refine g_iload_n (q := 215) dX7_readsMethod_214 rfl rfl ?_
        refine g_iastn (q := 216) (by first | assumption | rfl) (by repeat' first | apply nI_a | apply nI_m | exact rfl) (by omega) dX7_readsMethod_215 rfl ?_
        refine g_aload_n (q := 217) dX7_readsMethod_216 rfl rfl ?_
        refine gf_X7_28 (q := 220) rfl (by first | assumption | rfl) (by first | assumption | rfl) dX7_readsMethod_217 rfl ?_
        refine g_iload_n (q := 221) dX7_readsMethod_220 rfl rfl ?_
        refine g_iconst (q := 222) (v := nI 1) dX7_readsMethod_221 rfl (by decide) ?_
        refine g_iadd (q := 223) dX7_readsMethod_222 rfl ?_
        refine g_iload_n (q := 224) dX7_readsMethod_223 rfl rfl ?_
        refine g_iastn (q := 225) (by first | assumption | rfl) (by repeat' first | apply nI_a | apply nI_m | exact rfl) (by omega) dX7_readsMethod_224 rfl ?_
        refine g_aload_n (q := 226) dX7_readsMethod_225 rfl rfl ?_
        refine gf_X7_28 (q := 229) rfl (by first | assumption | rfl) (by first | assumption | rfl) dX7_readsMethod_226 rfl ?_
        refine g_iconst (q := 230) (v := nI 0) dX7_readsMethod_229 rfl (by decide) ?_
        refine g_dup2 (q := 231) dX7_readsMethod_230 rfl rfl rfl ?_
        refine g_ialdn (q := 232) (by first | assumption | rfl) (by repeat' first | apply nI_a | apply nI_m | exact rfl) (by omega) dX7_readsMethod_231 rfl ?_
        rw [uI_n2 (by omega), uI_n2 (by omega), M3.1.nm]
        refine g_iconst (q := 233) (v := nI 1) dX7_readsMethod_232 rfl (by decide) ?_
        refine g_iadd (q := 234) dX7_readsMethod_233 rfl ?_
        rw [nI_add]
        refine g_iastn (q := 235) (by first | assumption | rfl) (by repeat' first | apply nI_a | apply nI_m | exact rfl) (by omega) dX7_readsMethod_234 rfl ?_
        refine g_vret rfl dX7_readsMethod_235 (Nat.le_refl _) (Nat.le_refl _) ?_
        exact h1 z203 _ ((hF.tr g1.d).tr (FrD.u.tr (FrD.u.tr FrD.u))) gS.u.u.u (MRep_addM M3 hv hn hl rfl)
      · refine g_if_eq (tgt := 235) (q := 209) dX7_readsMethod_206 (by decide) rfl (fun _ => ?_) (fun c206 => absurd c206 (by decide))
        refine g_vret rfl dX7_readsMethod_235 (Nat.le_refl _) (Nat.le_refl _) ?_
        exact h0 z203 J (hF.tr g1.d) gS (hP.x g1).1
    · refine g_iconst (q := 193) (v := nI 1) dX7_readsMethod_192 rfl (by decide) ?_
      refine g_goto (q := 197) dX7_readsMethod_193 (by decide) ?_
      refine g_iconst (q := 198) (v := nI 1) dX7_readsMethod_197 rfl (by decide) ?_
      refine k_X7_120 (q := 201) rfl (Nat.le_of_ble_eq_true rfl) (by first | assumption | rfl) dX7_readsMethod_198 rfl (c_takes1 hR (fun J r0 g1 g2 g3 => ?_))
      have gS : RX J t (tkS t (chr t s.2 59) 1 s) f0 := by
        by_cases hs : s.1 = 0
        · have hc : chr t s.2 59 = true := tkK_4.mp ((nI_eq (by have := tkK_lt t s.2; omega) (by decide)).mp ((r7 hs).2.2.1.symm.trans c189))
          rw [hc]; exact g2
        · rw [tkS_n hs] at g2 ⊢; exact g2
      refine g_pop (q := 202) dX7_readsMethod_201 rfl rfl ?_
      refine g_aload_n (q := 203) dX7_readsMethod_202 rfl rfl ?_
      refine k_X7_110 (q := 206) rfl (Nat.le_of_ble_eq_true rfl) (by first | assumption | rfl) dX7_readsMethod_203 rfl (c_X7_isWell gS (fun z203 => ?_) (fun z203 => ?_))
      · have M3 := hP.x g1
        have zf := (tkS_0 (by decide) z203).1
        rw [hits zf]
        refine g_if_eq (tgt := 235) (q := 209) dX7_readsMethod_206 (by decide) rfl (fun c206 => absurd c206 (by decide)) (fun _ => ?_)
        refine g_aload_n (q := 210) dX7_readsMethod_209 rfl rfl ?_
        refine gf_X7_28 (q := 213) rfl (by first | assumption | rfl) (by first | assumption | rfl) dX7_readsMethod_210 rfl ?_
        refine g_iload_n (q := 214) dX7_readsMethod_213 rfl rfl ?_
        refine g_iload_n (q := 215) dX7_readsMethod_214 rfl rfl ?_
        refine g_iastn (q := 216) (by first | assumption | rfl) (by repeat' first | apply nI_a | apply nI_m | exact rfl) (by omega) dX7_readsMethod_215 rfl ?_
        refine g_aload_n (q := 217) dX7_readsMethod_216 rfl rfl ?_
        refine gf_X7_28 (q := 220) rfl (by first | assumption | rfl) (by first | assumption | rfl) dX7_readsMethod_217 rfl ?_
        refine g_iload_n (q := 221) dX7_readsMethod_220 rfl rfl ?_
        refine g_iconst (q := 222) (v := nI 1) dX7_readsMethod_221 rfl (by decide) ?_
        refine g_iadd (q := 223) dX7_readsMethod_222 rfl ?_
        refine g_iload_n (q := 224) dX7_readsMethod_223 rfl rfl ?_
        refine g_iastn (q := 225) (by first | assumption | rfl) (by repeat' first | apply nI_a | apply nI_m | exact rfl) (by omega) dX7_readsMethod_224 rfl ?_
        refine g_aload_n (q := 226) dX7_readsMethod_225 rfl rfl ?_
        refine gf_X7_28 (q := 229) rfl (by first | assumption | rfl) (by first | assumption | rfl) dX7_readsMethod_226 rfl ?_
        refine g_iconst (q := 230) (v := nI 0) dX7_readsMethod_229 rfl (by decide) ?_
        refine g_dup2 (q := 231) dX7_readsMethod_230 rfl rfl rfl ?_
        refine g_ialdn (q := 232) (by first | assumption | rfl) (by repeat' first | apply nI_a | apply nI_m | exact rfl) (by omega) dX7_readsMethod_231 rfl ?_
        rw [uI_n2 (by omega), uI_n2 (by omega), M3.1.nm]
        refine g_iconst (q := 233) (v := nI 1) dX7_readsMethod_232 rfl (by decide) ?_
        refine g_iadd (q := 234) dX7_readsMethod_233 rfl ?_
        rw [nI_add]
        refine g_iastn (q := 235) (by first | assumption | rfl) (by repeat' first | apply nI_a | apply nI_m | exact rfl) (by omega) dX7_readsMethod_234 rfl ?_
        refine g_vret rfl dX7_readsMethod_235 (Nat.le_refl _) (Nat.le_refl _) ?_
        exact h1 z203 _ ((hF.tr g1.d).tr (FrD.u.tr (FrD.u.tr FrD.u))) gS.u.u.u (MRep_addM M3 hv hn hl rfl)
      · refine g_if_eq (tgt := 235) (q := 209) dX7_readsMethod_206 (by decide) rfl (fun _ => ?_) (fun c206 => absurd c206 (by decide))
        refine g_vret rfl dX7_readsMethod_235 (Nat.le_refl _) (Nat.le_refl _) ?_
        exact h0 z203 J (hF.tr g1.d) gS (hP.x g1).1
  intro n
  induction n with
  | zero =>
    intro W s l u4 u5 hfu hl hf hF hR hP
    refine g_aload_n (q := 59) dX7_readsMethod_58 rfl rfl ?_
    refine k_X7_110 (q := 62) rfl (Nat.le_of_ble_eq_true rfl) (by first | assumption | rfl) dX7_readsMethod_59 rfl (c_X7_isWell hR (fun z59 => ?_) (fun z59 => ?_))
    · refine g_if_eq (tgt := 183) (q := 65) dX7_readsMethod_62 (by decide) rfl (fun c62 => absurd c62 (by decide)) (fun _ => ?_)
      refine g_iload_n (q := 66) dX7_readsMethod_65 rfl rfl ?_
      refine g_iconst (q := 67) (v := nI 4) dX7_readsMethod_66 rfl (by decide) ?_
      refine g_icmp_ge (tgt := 183) (q := 70) dX7_readsMethod_67 (by decide) rfl (fun _ => ?_) (fun c67 => absurd (nI_le (by have := hfu z59; omega) (by omega)) c67)
      exact tail W s l _ _ hl hf hF hR hP
    · refine g_if_eq (tgt := 183) (q := 65) dX7_readsMethod_62 (by decide) rfl (fun _ => ?_) (fun c62 => absurd c62 (by decide))
      exact tail W s l _ _ hl (by rw [← hf, stS_n z59]) hF hR hP
  | succ n ih =>
    intro W s l u4 u5 hfu hl hf hF hR hP
    obtain ⟨r1, r2, r3, r4, r5, r6, r7⟩ := id hR
    have hb := r1.b s.2
    refine g_aload_n (q := 59) dX7_readsMethod_58 rfl rfl ?_
    refine k_X7_110 (q := 62) rfl (Nat.le_of_ble_eq_true rfl) (by first | assumption | rfl) dX7_readsMethod_59 rfl (c_X7_isWell hR (fun z59 => ?_) (fun z59 => ?_))
    · refine g_if_eq (tgt := 183) (q := 65) dX7_readsMethod_62 (by decide) rfl (fun c62 => absurd c62 (by decide)) (fun _ => ?_)
      refine g_iload_n (q := 66) dX7_readsMethod_65 rfl rfl ?_
      refine g_iconst (q := 67) (v := nI 4) dX7_readsMethod_66 rfl (by decide) ?_
      refine g_icmp_ge (tgt := 183) (q := 70) dX7_readsMethod_67 (by decide) rfl (fun c67 => ?_) (fun c67 => ?_)
      · exact absurd ((nI_leI (by omega) (by omega)).mp c67) (by have := hfu z59; omega)
      · obtain ⟨q1, q2, q3, q4, q5⟩ := r7 z59
        refine g_aload_n (q := 71) dX7_readsMethod_70 rfl rfl ?_
        refine gf_X7_104 (q := 74) rfl (by first | assumption | rfl) dX7_readsMethod_71 rfl ?_
        rw [q3]
        refine g_iconst (q := 75) (v := nI 1) dX7_readsMethod_74 rfl (by decide) ?_
        refine g_icmp_ne (tgt := 183) (q := 78) dX7_readsMethod_75 (by decide) rfl (fun c75 => ?_) (fun c75 => ?_)
        · have lt_of : soN t s.2 < 3 → kdT t s.2 = 1 ∧ ¬ t.getD s.2 0 = 44 ∧ ¬ t.getD s.2 0 = 59 := fun z => by
            have h5 := soN_1 z
            refine ⟨h5.1, fun y => ?_, fun y => ?_⟩
            · rw [y] at h5; rw [← h5.2] at z; exact absurd z (by decide)
            · rw [y] at h5; rw [← h5.2] at z; exact absurd z (by decide)
          exact tail W s l _ _ hl (by
            rw [← hf, stS, if_neg (fun z => c75 (by rw [tkK_1.mpr (lt_of z.2)]))]) hF hR hP
        · refine g_aload_n (q := 79) dX7_readsMethod_78 rfl rfl ?_
          refine gf_X7_101 (q := 82) rfl (by first | assumption | rfl) dX7_readsMethod_79 rfl ?_
          rw [q4 (tkK_1.mp ((nI_eq (by have := tkK_lt t s.2; omega) (by decide)).mp c75)).1]
          refine k_X7_127 (q := 85) rfl (Nat.le_of_ble_eq_true rfl) dX7_readsMethod_82 rfl (c_X7_sortOf ?_)
          refine lc_X7_56 (q := 87) rfl dX7_readsMethod_85 rfl ?_
          refine g_icmp_eq (tgt := 183) (q := 90) dX7_readsMethod_87 (by decide) rfl (fun c87 => ?_) (fun c87 => ?_)
          · exact tail W s l _ _ hl (by
              rw [← hf, stS, if_neg (fun z => by
              have h5 := soN_1 z.2
              rw [soM_n _ hb, h5.2, if_pos z.2] at c87
              exact nI_none (by omega) c87)]) hF hR hP
          · have lt_of : soN t s.2 < 3 → kdT t s.2 = 1 ∧ ¬ t.getD s.2 0 = 44 ∧ ¬ t.getD s.2 0 = 59 := fun z => by
              have h5 := soN_1 z
              refine ⟨h5.1, fun y => ?_, fun y => ?_⟩
              · rw [y] at h5; rw [← h5.2] at z; exact absurd z (by decide)
              · rw [y] at h5; rw [← h5.2] at z; exact absurd z (by decide)
            have h3 : soN t s.2 < 3 := by
              apply Decidable.byContradiction
              intro z
              have h7 := tkK_1.mp ((nI_eq (by have := tkK_lt t s.2; omega) (by decide)).mp c75)
              rw [soM_n _ hb, if_neg (by unfold soN at z; rw [if_pos h7.1] at z; exact z)] at c87
              exact c87 rfl
            have h5 := soN_1 h3
            have hl4 : l.length < 4 := by
              have : ¬ 4 ≤ l.length := fun z => c67 (nI_le z (by omega))
              omega
            refine g_aload_n (q := 91) dX7_readsMethod_90 rfl rfl ?_
            refine g_iconst (q := 92) (v := nI 1) dX7_readsMethod_91 rfl (by decide) ?_
            refine g_iconst (q := 93) (v := nI 1) dX7_readsMethod_92 rfl (by decide) ?_
            refine k_X7_120 (q := 96) rfl (Nat.le_of_ble_eq_true rfl) (by first | assumption | rfl) dX7_readsMethod_93 rfl (c_takes1 hR (fun J r0 g1 g2 g3 => ?_))
            rw [show tkS t true 1 s = (0, nxt t s.2) by unfold tkS; rw [if_pos z59, if_pos rfl]] at g2
            rw [g3 z59, q4 h5.1]
            refine k_X7_127 (q := 99) rfl (Nat.le_of_ble_eq_true rfl) dX7_readsMethod_96 rfl (c_X7_sortOf ?_)
            rw [soM_n _ hb, h5.2, if_pos h3]
            have e3 : soN t s.2 = 0 ∨ soN t s.2 = 1 ∨ soN t s.2 = 2 := by omega
            rcases e3 with e3 | e3 | e3
            · rw [e3]
              refine g_istore (q := 101) dX7_readsMethod_99 rfl (by decide) rfl rfl ?_
              refine g_iload (q := 103) dX7_readsMethod_101 rfl rfl ?_
              refine g_if_ne (tgt := 116) (q := 106) dX7_readsMethod_103 (by decide) rfl (fun c103 => absurd c103 (by decide)) (fun _ => ?_)
              refine g_aload_n (q := 107) dX7_readsMethod_106 rfl rfl ?_
              refine g_iconst (q := 108) (v := nI 1) dX7_readsMethod_107 rfl (by decide) ?_
              refine g_bipush (q := 110) (v := nI 99) dX7_readsMethod_108 rfl (by decide) ?_
              refine k_X7_124 (q := 113) rfl (Nat.le_of_ble_eq_true rfl) (by first | assumption | rfl) dX7_readsMethod_110 rfl (c_X7_figure g2 (by decide) (by decide) (fun J2 r g4 g5 g6 => ?_))
              refine g_goto (q := 138) dX7_readsMethod_113 (by decide) ?_
              refine g_istore (q := 140) dX7_readsMethod_138 rfl (by decide) rfl rfl ?_
              refine g_aload_n (q := 141) dX7_readsMethod_140 rfl rfl ?_
              refine k_X7_110 (q := 144) rfl (Nat.le_of_ble_eq_true rfl) (by first | assumption | rfl) dX7_readsMethod_141 rfl (c_X7_isWell g5 (fun z141 => ?_) (fun z141 => ?_))
              · rw [g6 z141]
                refine g_if_eq (tgt := 180) (q := 147) dX7_readsMethod_144 (by decide) rfl (fun c144 => absurd c144 (by decide)) (fun _ => ?_)
                refine g_aload_n (q := 148) dX7_readsMethod_147 rfl rfl ?_
                refine gf_X7_28 (q := 151) rfl (by first | assumption | rfl) (by first | assumption | rfl) dX7_readsMethod_148 rfl ?_
                refine g_iload_n (q := 152) dX7_readsMethod_151 rfl rfl ?_
                refine g_iconst (q := 153) (v := nI 2) dX7_readsMethod_152 rfl (by decide) ?_
                refine g_iadd (q := 154) dX7_readsMethod_153 rfl ?_
                refine g_iconst (q := 155) (v := nI 2) dX7_readsMethod_154 rfl (by decide) ?_
                refine g_iload_n (q := 156) dX7_readsMethod_155 rfl rfl ?_
                refine g_imul (q := 157) dX7_readsMethod_156 rfl ?_
                refine g_iadd (q := 158) dX7_readsMethod_157 rfl ?_
                refine g_iload (q := 160) dX7_readsMethod_158 rfl rfl ?_
                refine g_iastn (q := 161) (by first | assumption | rfl) (by repeat' first | apply nI_a | apply nI_m | exact rfl) (by omega) dX7_readsMethod_160 rfl ?_
                refine g_aload_n (q := 162) dX7_readsMethod_161 rfl rfl ?_
                refine gf_X7_28 (q := 165) rfl (by first | assumption | rfl) (by first | assumption | rfl) dX7_readsMethod_162 rfl ?_
                refine g_iload_n (q := 166) dX7_readsMethod_165 rfl rfl ?_
                refine g_iconst (q := 167) (v := nI 2) dX7_readsMethod_166 rfl (by decide) ?_
                refine g_iadd (q := 168) dX7_readsMethod_167 rfl ?_
                refine g_iconst (q := 169) (v := nI 2) dX7_readsMethod_168 rfl (by decide) ?_
                refine g_iload_n (q := 170) dX7_readsMethod_169 rfl rfl ?_
                refine g_imul (q := 171) dX7_readsMethod_170 rfl ?_
                refine g_iadd (q := 172) dX7_readsMethod_171 rfl ?_
                refine g_iconst (q := 173) (v := nI 1) dX7_readsMethod_172 rfl (by decide) ?_
                refine g_iadd (q := 174) dX7_readsMethod_173 rfl ?_
                refine g_iload (q := 176) dX7_readsMethod_174 rfl rfl ?_
                refine g_iastn (q := 177) (by first | assumption | rfl) (by repeat' first | apply nI_a | apply nI_m | exact rfl) (by omega) dX7_readsMethod_176 rfl ?_
                refine g_iincn (q := 180) dX7_readsMethod_177 rfl rfl (by decide) rfl rfl ?_
                refine g_goto (q := 58) dX7_readsMethod_180 (by decide) ?_
                have hlen : l.length + 1 = (l ++ [(0, tkV t (nxt t s.2))]).length := by rw [List.length_append]; rfl
                rw [hlen]
                refine ih _ (s2S t s) (l ++ [(0, tkV t (nxt t s.2))]) _ _ (fun _ => by rw [← hlen]; have := hfu z59; omega) (by rw [← hlen]; omega) ?_ ((((hF.tr g1.d).tr g4.d)).tr (FrD.u.tr FrD.u)) (by unfold s2S; rw [e3]; exact g5.u.u) ?_
                · rw [← hf, stS, if_pos ⟨z59, h3⟩, if_pos (show (s2S t s).1 = 0 by unfold s2S; rw [e3]; exact z141), e3]
                · exact PM.put ((hP.x g1).x g4) hv hn hl4
              · refine g_if_eq (tgt := 180) (q := 147) dX7_readsMethod_144 (by decide) rfl (fun _ => ?_) (fun c144 => absurd c144 (by decide))
                refine g_goto (q := 58) dX7_readsMethod_180 (by decide) ?_
                refine ih J2 (s2S t s) l _ _ (fun z => absurd z (by unfold s2S; rw [e3]; exact z141)) hl ?_ ((hF.tr g1.d).tr g4.d) (by unfold s2S; rw [e3]; exact g5) ((hP.x g1).x g4)
                rw [← hf, stS, if_pos ⟨z59, h3⟩, if_neg (show ¬ (s2S t s).1 = 0 by unfold s2S; rw [e3]; exact z141)]
            · rw [e3]
              refine g_istore (q := 101) dX7_readsMethod_99 rfl (by decide) rfl rfl ?_
              refine g_iload (q := 103) dX7_readsMethod_101 rfl rfl ?_
              refine g_if_ne (tgt := 116) (q := 106) dX7_readsMethod_103 (by decide) rfl (fun _ => ?_) (fun c103 => absurd c103 (by decide))
              refine g_iload (q := 118) dX7_readsMethod_116 rfl rfl ?_
              refine g_iconst (q := 119) (v := nI 1) dX7_readsMethod_118 rfl (by decide) ?_
              refine g_icmp_ne (tgt := 131) (q := 122) dX7_readsMethod_119 (by decide) rfl (fun c119 => absurd c119 (by decide)) (fun _ => ?_)
              refine g_aload_n (q := 123) dX7_readsMethod_122 rfl rfl ?_
              refine g_iconst (q := 124) (v := nI 0) dX7_readsMethod_123 rfl (by decide) ?_
              refine g_iconst (q := 125) (v := nI 5) dX7_readsMethod_124 rfl (by decide) ?_
              refine k_X7_124 (q := 128) rfl (Nat.le_of_ble_eq_true rfl) (by first | assumption | rfl) dX7_readsMethod_125 rfl (c_X7_figure g2 (by decide) (by decide) (fun J2 r g4 g5 g6 => ?_))
              refine g_goto (q := 138) dX7_readsMethod_128 (by decide) ?_
              refine g_istore (q := 140) dX7_readsMethod_138 rfl (by decide) rfl rfl ?_
              refine g_aload_n (q := 141) dX7_readsMethod_140 rfl rfl ?_
              refine k_X7_110 (q := 144) rfl (Nat.le_of_ble_eq_true rfl) (by first | assumption | rfl) dX7_readsMethod_141 rfl (c_X7_isWell g5 (fun z141 => ?_) (fun z141 => ?_))
              · rw [g6 z141]
                refine g_if_eq (tgt := 180) (q := 147) dX7_readsMethod_144 (by decide) rfl (fun c144 => absurd c144 (by decide)) (fun _ => ?_)
                refine g_aload_n (q := 148) dX7_readsMethod_147 rfl rfl ?_
                refine gf_X7_28 (q := 151) rfl (by first | assumption | rfl) (by first | assumption | rfl) dX7_readsMethod_148 rfl ?_
                refine g_iload_n (q := 152) dX7_readsMethod_151 rfl rfl ?_
                refine g_iconst (q := 153) (v := nI 2) dX7_readsMethod_152 rfl (by decide) ?_
                refine g_iadd (q := 154) dX7_readsMethod_153 rfl ?_
                refine g_iconst (q := 155) (v := nI 2) dX7_readsMethod_154 rfl (by decide) ?_
                refine g_iload_n (q := 156) dX7_readsMethod_155 rfl rfl ?_
                refine g_imul (q := 157) dX7_readsMethod_156 rfl ?_
                refine g_iadd (q := 158) dX7_readsMethod_157 rfl ?_
                refine g_iload (q := 160) dX7_readsMethod_158 rfl rfl ?_
                refine g_iastn (q := 161) (by first | assumption | rfl) (by repeat' first | apply nI_a | apply nI_m | exact rfl) (by omega) dX7_readsMethod_160 rfl ?_
                refine g_aload_n (q := 162) dX7_readsMethod_161 rfl rfl ?_
                refine gf_X7_28 (q := 165) rfl (by first | assumption | rfl) (by first | assumption | rfl) dX7_readsMethod_162 rfl ?_
                refine g_iload_n (q := 166) dX7_readsMethod_165 rfl rfl ?_
                refine g_iconst (q := 167) (v := nI 2) dX7_readsMethod_166 rfl (by decide) ?_
                refine g_iadd (q := 168) dX7_readsMethod_167 rfl ?_
                refine g_iconst (q := 169) (v := nI 2) dX7_readsMethod_168 rfl (by decide) ?_
                refine g_iload_n (q := 170) dX7_readsMethod_169 rfl rfl ?_
                refine g_imul (q := 171) dX7_readsMethod_170 rfl ?_
                refine g_iadd (q := 172) dX7_readsMethod_171 rfl ?_
                refine g_iconst (q := 173) (v := nI 1) dX7_readsMethod_172 rfl (by decide) ?_
                refine g_iadd (q := 174) dX7_readsMethod_173 rfl ?_
                refine g_iload (q := 176) dX7_readsMethod_174 rfl rfl ?_
                refine g_iastn (q := 177) (by first | assumption | rfl) (by repeat' first | apply nI_a | apply nI_m | exact rfl) (by omega) dX7_readsMethod_176 rfl ?_
                refine g_iincn (q := 180) dX7_readsMethod_177 rfl rfl (by decide) rfl rfl ?_
                refine g_goto (q := 58) dX7_readsMethod_180 (by decide) ?_
                have hlen : l.length + 1 = (l ++ [(1, tkV t (nxt t s.2))]).length := by rw [List.length_append]; rfl
                rw [hlen]
                refine ih _ (s2S t s) (l ++ [(1, tkV t (nxt t s.2))]) _ _ (fun _ => by rw [← hlen]; have := hfu z59; omega) (by rw [← hlen]; omega) ?_ ((((hF.tr g1.d).tr g4.d)).tr (FrD.u.tr FrD.u)) (by unfold s2S; rw [e3]; exact g5.u.u) ?_
                · rw [← hf, stS, if_pos ⟨z59, h3⟩, if_pos (show (s2S t s).1 = 0 by unfold s2S; rw [e3]; exact z141), e3]
                · exact PM.put ((hP.x g1).x g4) hv hn hl4
              · refine g_if_eq (tgt := 180) (q := 147) dX7_readsMethod_144 (by decide) rfl (fun _ => ?_) (fun c144 => absurd c144 (by decide))
                refine g_goto (q := 58) dX7_readsMethod_180 (by decide) ?_
                refine ih J2 (s2S t s) l _ _ (fun z => absurd z (by unfold s2S; rw [e3]; exact z141)) hl ?_ ((hF.tr g1.d).tr g4.d) (by unfold s2S; rw [e3]; exact g5) ((hP.x g1).x g4)
                rw [← hf, stS, if_pos ⟨z59, h3⟩, if_neg (show ¬ (s2S t s).1 = 0 by unfold s2S; rw [e3]; exact z141)]
            · rw [e3]
              refine g_istore (q := 101) dX7_readsMethod_99 rfl (by decide) rfl rfl ?_
              refine g_iload (q := 103) dX7_readsMethod_101 rfl rfl ?_
              refine g_if_ne (tgt := 116) (q := 106) dX7_readsMethod_103 (by decide) rfl (fun _ => ?_) (fun c103 => absurd c103 (by decide))
              refine g_iload (q := 118) dX7_readsMethod_116 rfl rfl ?_
              refine g_iconst (q := 119) (v := nI 1) dX7_readsMethod_118 rfl (by decide) ?_
              refine g_icmp_ne (tgt := 131) (q := 122) dX7_readsMethod_119 (by decide) rfl (fun _ => ?_) (fun c119 => absurd c119 (by decide))
              refine g_aload_n (q := 132) dX7_readsMethod_131 rfl rfl ?_
              refine g_iconst (q := 133) (v := nI 1) dX7_readsMethod_132 rfl (by decide) ?_
              refine g_bipush (q := 135) (v := nI 9) dX7_readsMethod_133 rfl (by decide) ?_
              refine k_X7_124 (q := 138) rfl (Nat.le_of_ble_eq_true rfl) (by first | assumption | rfl) dX7_readsMethod_135 rfl (c_X7_figure g2 (by decide) (by decide) (fun J2 r g4 g5 g6 => ?_))
              refine g_istore (q := 140) dX7_readsMethod_138 rfl (by decide) rfl rfl ?_
              refine g_aload_n (q := 141) dX7_readsMethod_140 rfl rfl ?_
              refine k_X7_110 (q := 144) rfl (Nat.le_of_ble_eq_true rfl) (by first | assumption | rfl) dX7_readsMethod_141 rfl (c_X7_isWell g5 (fun z141 => ?_) (fun z141 => ?_))
              · rw [g6 z141]
                refine g_if_eq (tgt := 180) (q := 147) dX7_readsMethod_144 (by decide) rfl (fun c144 => absurd c144 (by decide)) (fun _ => ?_)
                refine g_aload_n (q := 148) dX7_readsMethod_147 rfl rfl ?_
                refine gf_X7_28 (q := 151) rfl (by first | assumption | rfl) (by first | assumption | rfl) dX7_readsMethod_148 rfl ?_
                refine g_iload_n (q := 152) dX7_readsMethod_151 rfl rfl ?_
                refine g_iconst (q := 153) (v := nI 2) dX7_readsMethod_152 rfl (by decide) ?_
                refine g_iadd (q := 154) dX7_readsMethod_153 rfl ?_
                refine g_iconst (q := 155) (v := nI 2) dX7_readsMethod_154 rfl (by decide) ?_
                refine g_iload_n (q := 156) dX7_readsMethod_155 rfl rfl ?_
                refine g_imul (q := 157) dX7_readsMethod_156 rfl ?_
                refine g_iadd (q := 158) dX7_readsMethod_157 rfl ?_
                refine g_iload (q := 160) dX7_readsMethod_158 rfl rfl ?_
                refine g_iastn (q := 161) (by first | assumption | rfl) (by repeat' first | apply nI_a | apply nI_m | exact rfl) (by omega) dX7_readsMethod_160 rfl ?_
                refine g_aload_n (q := 162) dX7_readsMethod_161 rfl rfl ?_
                refine gf_X7_28 (q := 165) rfl (by first | assumption | rfl) (by first | assumption | rfl) dX7_readsMethod_162 rfl ?_
                refine g_iload_n (q := 166) dX7_readsMethod_165 rfl rfl ?_
                refine g_iconst (q := 167) (v := nI 2) dX7_readsMethod_166 rfl (by decide) ?_
                refine g_iadd (q := 168) dX7_readsMethod_167 rfl ?_
                refine g_iconst (q := 169) (v := nI 2) dX7_readsMethod_168 rfl (by decide) ?_
                refine g_iload_n (q := 170) dX7_readsMethod_169 rfl rfl ?_
                refine g_imul (q := 171) dX7_readsMethod_170 rfl ?_
                refine g_iadd (q := 172) dX7_readsMethod_171 rfl ?_
                refine g_iconst (q := 173) (v := nI 1) dX7_readsMethod_172 rfl (by decide) ?_
                refine g_iadd (q := 174) dX7_readsMethod_173 rfl ?_
                refine g_iload (q := 176) dX7_readsMethod_174 rfl rfl ?_
                refine g_iastn (q := 177) (by first | assumption | rfl) (by repeat' first | apply nI_a | apply nI_m | exact rfl) (by omega) dX7_readsMethod_176 rfl ?_
                refine g_iincn (q := 180) dX7_readsMethod_177 rfl rfl (by decide) rfl rfl ?_
                refine g_goto (q := 58) dX7_readsMethod_180 (by decide) ?_
                have hlen : l.length + 1 = (l ++ [(2, tkV t (nxt t s.2))]).length := by rw [List.length_append]; rfl
                rw [hlen]
                refine ih _ (s2S t s) (l ++ [(2, tkV t (nxt t s.2))]) _ _ (fun _ => by rw [← hlen]; have := hfu z59; omega) (by rw [← hlen]; omega) ?_ ((((hF.tr g1.d).tr g4.d)).tr (FrD.u.tr FrD.u)) (by unfold s2S; rw [e3]; exact g5.u.u) ?_
                · rw [← hf, stS, if_pos ⟨z59, h3⟩, if_pos (show (s2S t s).1 = 0 by unfold s2S; rw [e3]; exact z141), e3]
                · exact PM.put ((hP.x g1).x g4) hv hn hl4
              · refine g_if_eq (tgt := 180) (q := 147) dX7_readsMethod_144 (by decide) rfl (fun _ => ?_) (fun c144 => absurd c144 (by decide))
                refine g_goto (q := 58) dX7_readsMethod_180 (by decide) ?_
                refine ih J2 (s2S t s) l _ _ (fun z => absurd z (by unfold s2S; rw [e3]; exact z141)) hl ?_ ((hF.tr g1.d).tr g4.d) (by unfold s2S; rw [e3]; exact g5) ((hP.x g1).x g4)
                rw [← hf, stS, if_pos ⟨z59, h3⟩, if_neg (show ¬ (s2S t s).1 = 0 by unfold s2S; rw [e3]; exact z141)]
    · refine g_if_eq (tgt := 183) (q := 65) dX7_readsMethod_62 (by decide) rfl (fun _ => ?_) (fun c62 => absurd c62 (by decide))
      exact tail W s l _ _ hl (by rw [← hf, stS_n z59]) hF hR hP
set_option maxRecDepth 100000 in
set_option maxHeartbeats 400000 in
theorem c_X7_readsMethod {d k : Nat} {I : Nat → Nat → Int32} {Q : Option Int32 → Wd → Prop} {t : List Nat} {s : Ps} {f0 : Nat} {v : Vv} (hR : RX I t s f0) (hs : s.1 = 0) (hM : MRep I 59 0 v) (hv : VOk0 v) (h : ∀ J, FrD I J → RX J t (m4S t (vnm v) s) f0 → MRep J 59 0 (mvS t s v) → Q none (J, RR k)) : Ex (d + 4) 0 0 mX7_readsMethod [.ref 52] 68 (I, RR k) 68 Q := by
  have hn6 := hv.1
  refine ex_intro (L0 := [.ref 52, .null, .null, .null, .null, .null]) (by decide +kernel) rfl rfl (Nat.le_of_ble_eq_true rfl) rfl ?_
  by_cases hn : vnm v < 6
  · refine g_aload_n (q := 1) dX7_readsMethod_0 rfl rfl ?_
    refine g_aload_n (q := 2) dX7_readsMethod_1 rfl rfl ?_
    refine gf_X7_28 (q := 5) rfl (by first | assumption | rfl) (by first | assumption | rfl) dX7_readsMethod_2 rfl ?_
    refine g_iconst (q := 6) (v := nI 0) dX7_readsMethod_5 rfl (by decide) ?_
    refine g_ialdn (q := 7) (by first | assumption | rfl) (by repeat' first | apply nI_a | apply nI_m | exact rfl) (by omega) dX7_readsMethod_6 rfl ?_
    rw [hM.nm]
    refine g_bipush (q := 9) (v := nI 6) dX7_readsMethod_7 rfl (by decide) ?_
    refine g_icmp_ge (tgt := 16) (q := 12) dX7_readsMethod_9 (by decide) rfl (fun c9 => absurd c9 (nI_ge hn (by omega))) (fun _ => ?_)
    refine g_iconst (q := 13) (v := nI 1) dX7_readsMethod_12 rfl (by decide) ?_
    refine g_goto (q := 17) dX7_readsMethod_13 (by decide) ?_
    refine g_iconst (q := 18) (v := nI 3) dX7_readsMethod_17 rfl (by decide) ?_
    refine k_X7_120 (q := 21) rfl (Nat.le_of_ble_eq_true rfl) (by first | assumption | rfl) dX7_readsMethod_18 rfl (c_takes1 hR (fun J r0 g1 g2 g3 => ?_))
    have M1 := hM.x g1
    have e1 : m1S t (vnm v) s = tkS t true 3 s := by unfold m1S; rw [decide_eq_true hn]
    rw [← e1] at g2
    refine g_pop (q := 22) dX7_readsMethod_21 rfl rfl ?_
    refine g_iconst (q := 23) (v := nI 2) dX7_readsMethod_22 rfl (by decide) ?_
    refine g_bipush (q := 25) (v := nI 10) dX7_readsMethod_23 rfl (by decide) ?_
    refine g_aload_n (q := 26) dX7_readsMethod_25 rfl rfl ?_
    refine gf_X7_28 (q := 29) rfl (by first | assumption | rfl) (by first | assumption | rfl) dX7_readsMethod_26 rfl ?_
    refine g_iconst (q := 30) (v := nI 0) dX7_readsMethod_29 rfl (by decide) ?_
    refine g_ialdn (q := 31) (by first | assumption | rfl) (by repeat' first | apply nI_a | apply nI_m | exact rfl) (by omega) dX7_readsMethod_30 rfl ?_
    rw [M1.nm]
    refine g_bipush (q := 33) (v := nI 6) dX7_readsMethod_31 rfl (by decide) ?_
    refine g_icmp_ge (tgt := 45) (q := 36) dX7_readsMethod_33 (by decide) rfl (fun c33 => absurd c33 (nI_ge hn (by omega))) (fun _ => ?_)
    refine g_aload_n (q := 37) dX7_readsMethod_36 rfl rfl ?_
    refine gf_X7_28 (q := 40) rfl (by first | assumption | rfl) (by first | assumption | rfl) dX7_readsMethod_37 rfl ?_
    refine g_iconst (q := 41) (v := nI 0) dX7_readsMethod_40 rfl (by decide) ?_
    refine g_ialdn (q := 42) (by first | assumption | rfl) (by repeat' first | apply nI_a | apply nI_m | exact rfl) (by omega) dX7_readsMethod_41 rfl ?_
    rw [M1.nm]
    refine g_goto (q := 46) dX7_readsMethod_42 (by decide) ?_
    refine g_imul (q := 47) dX7_readsMethod_46 rfl ?_
    refine g_iadd (q := 48) dX7_readsMethod_47 rfl ?_
    rw [show nI 2 + nI 10 * nI (vnm v) = nI (2 + 10 * vnm v) from nI_a rfl (nI_m rfl rfl)]
    refine g_istore_n (q := 49) dX7_readsMethod_48 rfl (by decide) rfl rfl ?_
    refine g_aload_n (q := 50) dX7_readsMethod_49 rfl rfl ?_
    refine g_iconst (q := 51) (v := nI 0) dX7_readsMethod_50 rfl (by decide) ?_
    refine g_iconst (q := 52) (v := nI 3) dX7_readsMethod_51 rfl (by decide) ?_
    refine k_X7_124 (q := 55) rfl (Nat.le_of_ble_eq_true rfl) (by first | assumption | rfl) dX7_readsMethod_52 rfl (c_X7_figure g2 (by decide) (by decide) (fun J2 r g4 g5 g6 => ?_))
    refine g_istore_n (q := 56) dX7_readsMethod_55 rfl (by decide) rfl rfl ?_
    refine g_iconst (q := 57) (v := nI 0) dX7_readsMethod_56 rfl (by decide) ?_
    refine g_istore_n (q := 58) dX7_readsMethod_57 rfl (by decide) rfl rfl ?_
    refine l_mrd (cc := tkV t (m1S t (vnm v) s).2) (fin := m3S t (vnm v) s) hv hn (fun z => g6 (stS_0 _ _ _ z)) (fun z J y1 y2 y3 => h J y1 y2 ?_) (fun z J y1 y2 y3 => h J y1 y2 ?_) 4 J2 (m2S t (vnm v) s) [] _ _ (fun _ => rfl) (by decide) rfl (g1.d.tr g4.d) g5 ⟨M1.x g4, fun i hi => absurd hi (Nat.not_lt_zero _)⟩
    · unfold mvS; rw [if_pos (show (m4S t (vnm v) s).1 = 0 from z)]; exact y3
    · unfold mvS; rw [if_neg (show ¬ (m4S t (vnm v) s).1 = 0 from z)]; exact y3
  · refine g_aload_n (q := 1) dX7_readsMethod_0 rfl rfl ?_
    refine g_aload_n (q := 2) dX7_readsMethod_1 rfl rfl ?_
    refine gf_X7_28 (q := 5) rfl (by first | assumption | rfl) (by first | assumption | rfl) dX7_readsMethod_2 rfl ?_
    refine g_iconst (q := 6) (v := nI 0) dX7_readsMethod_5 rfl (by decide) ?_
    refine g_ialdn (q := 7) (by first | assumption | rfl) (by repeat' first | apply nI_a | apply nI_m | exact rfl) (by omega) dX7_readsMethod_6 rfl ?_
    rw [hM.nm]
    refine g_bipush (q := 9) (v := nI 6) dX7_readsMethod_7 rfl (by decide) ?_
    refine g_icmp_ge (tgt := 16) (q := 12) dX7_readsMethod_9 (by decide) rfl (fun _ => ?_) (fun c9 => absurd (nI_le (Nat.not_lt.mp hn) (by omega)) c9)
    refine g_iconst (q := 17) (v := nI 0) dX7_readsMethod_16 rfl (by decide) ?_
    refine g_iconst (q := 18) (v := nI 3) dX7_readsMethod_17 rfl (by decide) ?_
    refine k_X7_120 (q := 21) rfl (Nat.le_of_ble_eq_true rfl) (by first | assumption | rfl) dX7_readsMethod_18 rfl (c_takes0 hR (by decide) (by decide) (fun J g1 g2 => ?_))
    have M1 := hM.x g1
    have n3 : ¬ ((3, s.2) : Ps).1 = 0 := by show ¬ (3 : Nat) = 0; decide
    rw [show tkS t false 3 s = (3, s.2) by unfold tkS; rw [if_pos hs, if_neg (by decide)]] at g2
    have e4 : m4S t (vnm v) s = (3, s.2) := by
      unfold m4S m3S m2S
      rw [show m1S t (vnm v) s = (3, s.2) by unfold m1S tkS; rw [if_pos hs, if_neg (by simp [hn])], nmS_n n3, stS_n n3, tkS_n n3]
    refine g_pop (q := 22) dX7_readsMethod_21 rfl rfl ?_
    refine g_iconst (q := 23) (v := nI 2) dX7_readsMethod_22 rfl (by decide) ?_
    refine g_bipush (q := 25) (v := nI 10) dX7_readsMethod_23 rfl (by decide) ?_
    refine g_aload_n (q := 26) dX7_readsMethod_25 rfl rfl ?_
    refine gf_X7_28 (q := 29) rfl (by first | assumption | rfl) (by first | assumption | rfl) dX7_readsMethod_26 rfl ?_
    refine g_iconst (q := 30) (v := nI 0) dX7_readsMethod_29 rfl (by decide) ?_
    refine g_ialdn (q := 31) (by first | assumption | rfl) (by repeat' first | apply nI_a | apply nI_m | exact rfl) (by omega) dX7_readsMethod_30 rfl ?_
    rw [M1.nm]
    refine g_bipush (q := 33) (v := nI 6) dX7_readsMethod_31 rfl (by decide) ?_
    refine g_icmp_ge (tgt := 45) (q := 36) dX7_readsMethod_33 (by decide) rfl (fun _ => ?_) (fun c33 => absurd (nI_le (Nat.not_lt.mp hn) (by omega)) c33)
    refine g_iconst (q := 46) (v := nI 0) dX7_readsMethod_45 rfl (by decide) ?_
    refine g_imul (q := 47) dX7_readsMethod_46 rfl ?_
    refine g_iadd (q := 48) dX7_readsMethod_47 rfl ?_
    refine g_istore_n (q := 49) dX7_readsMethod_48 rfl (by decide) rfl rfl ?_
    refine g_aload_n (q := 50) dX7_readsMethod_49 rfl rfl ?_
    refine g_iconst (q := 51) (v := nI 0) dX7_readsMethod_50 rfl (by decide) ?_
    refine g_iconst (q := 52) (v := nI 3) dX7_readsMethod_51 rfl (by decide) ?_
    refine k_X7_124 (q := 55) rfl (Nat.le_of_ble_eq_true rfl) (by first | assumption | rfl) dX7_readsMethod_52 rfl (c_X7_figure g2 (by decide) (by decide) (fun J2 r g4 g5 _ => ?_))
    rw [nmS_n n3] at g5
    refine g_istore_n (q := 56) dX7_readsMethod_55 rfl (by decide) rfl rfl ?_
    refine g_iconst (q := 57) (v := nI 0) dX7_readsMethod_56 rfl (by decide) ?_
    refine g_istore_n (q := 58) dX7_readsMethod_57 rfl (by decide) rfl rfl ?_
    refine g_aload_n (q := 59) dX7_readsMethod_58 rfl rfl ?_
    refine k_X7_110 (q := 62) rfl (Nat.le_of_ble_eq_true rfl) (by first | assumption | rfl) dX7_readsMethod_59 rfl (c_X7_isWell g5 (fun z => absurd z n3) (fun _ => ?_))
    refine g_if_eq (tgt := 183) (q := 65) dX7_readsMethod_62 (by decide) rfl (fun _ => ?_) (fun c62 => absurd c62 (by decide))
    refine g_aload_n (q := 184) dX7_readsMethod_183 rfl rfl ?_
    refine g_aload_n (q := 185) dX7_readsMethod_184 rfl rfl ?_
    refine gf_X7_104 (q := 188) rfl (by first | assumption | rfl) dX7_readsMethod_185 rfl ?_
    refine g_iconst (q := 189) (v := nI 4) dX7_readsMethod_188 rfl (by decide) ?_
    refine g_icmp_ne (tgt := 196) (q := 192) dX7_readsMethod_189 (by decide) rfl (fun c189 => ?_) (fun c189 => ?_)
    · refine g_iconst (q := 197) (v := nI 0) dX7_readsMethod_196 rfl (by decide) ?_
      refine g_iconst (q := 198) (v := nI 1) dX7_readsMethod_197 rfl (by decide) ?_
      refine k_X7_120 (q := 201) rfl (Nat.le_of_ble_eq_true rfl) (by first | assumption | rfl) dX7_readsMethod_198 rfl (c_takes0 g5 (by decide) (by decide) (fun J3 g7 gS => ?_))
      rw [tkS_n n3] at gS
      refine g_pop (q := 202) dX7_readsMethod_201 rfl rfl ?_
      refine g_aload_n (q := 203) dX7_readsMethod_202 rfl rfl ?_
      refine k_X7_110 (q := 206) rfl (Nat.le_of_ble_eq_true rfl) (by first | assumption | rfl) dX7_readsMethod_203 rfl (c_X7_isWell gS (fun z => absurd z n3) (fun _ => ?_))
      refine g_if_eq (tgt := 235) (q := 209) dX7_readsMethod_206 (by decide) rfl (fun _ => ?_) (fun c206 => absurd c206 (by decide))
      refine g_vret rfl dX7_readsMethod_235 (Nat.le_refl _) (Nat.le_refl _) ?_
      refine h J3 ((g1.d.tr g4.d).tr g7.d) (by rw [e4]; exact gS) ?_
      unfold mvS
      rw [if_neg (by rw [e4]; exact n3)]
      exact (M1.x g4).x g7
    · refine g_iconst (q := 193) (v := nI 1) dX7_readsMethod_192 rfl (by decide) ?_
      refine g_goto (q := 197) dX7_readsMethod_193 (by decide) ?_
      refine g_iconst (q := 198) (v := nI 1) dX7_readsMethod_197 rfl (by decide) ?_
      refine k_X7_120 (q := 201) rfl (Nat.le_of_ble_eq_true rfl) (by first | assumption | rfl) dX7_readsMethod_198 rfl (c_takes1 g5 (fun J3 r0 g7 gS _ => ?_))
      rw [tkS_n n3] at gS
      refine g_pop (q := 202) dX7_readsMethod_201 rfl rfl ?_
      refine g_aload_n (q := 203) dX7_readsMethod_202 rfl rfl ?_
      refine k_X7_110 (q := 206) rfl (Nat.le_of_ble_eq_true rfl) (by first | assumption | rfl) dX7_readsMethod_203 rfl (c_X7_isWell gS (fun z => absurd z n3) (fun _ => ?_))
      refine g_if_eq (tgt := 235) (q := 209) dX7_readsMethod_206 (by decide) rfl (fun _ => ?_) (fun c206 => absurd c206 (by decide))
      refine g_vret rfl dX7_readsMethod_235 (Nat.le_refl _) (Nat.le_refl _) ?_
      refine h J3 ((g1.d.tr g4.d).tr g7.d) (by rw [e4]; exact gS) ?_
      unfold mvS
      rw [if_neg (by rw [e4]; exact n3)]
      exact (M1.x g4).x g7
