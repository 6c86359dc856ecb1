set_option maxRecDepth 100000 in
set_option maxHeartbeats 400000 in
theorem goA_end {D k m x g mt p : Nat} {v : Vv} {Q : Option Int32 → Wd → Prop} {I : Nat → Nat → Int32} {acc : Int32} {i : Nat} (hst : ¬ I 19 7 = 0 ∨ ¬ I 19 5 = 0) (h : Q (some acc) (I, RR k)) : G mX3_goAround (rmd (D + 1) 0 0) (Zm Q 68 68 0 0) 68 68 [.ref 19, .int (nI m), .int (nI x), .int (nI g), .int (nI mt), .int (nI p), .int (nI (vfa v p 0)), .int (nI (vfa v p 0 % 3)), .int acc, .int (nI i)] [] 68 (I, RR k) 0 0 := by
  refine g_aload_n (q := 69) dX3_goAround_68 rfl rfl ?_
  refine k_X3_70 (q := 72) rfl (Nat.le_of_ble_eq_true rfl) (by first | assumption | rfl) dX3_goAround_69 rfl (c_X3_isStopped (fun _ => ?_) (fun z1 z2 => absurd hst (fun z => z.elim (fun y => y z1) (fun y => y z2))))
  · refine g_if_ne (tgt := 84) (q := 75) dX3_goAround_72 (by decide) rfl (fun _ => ?_) (fun c72 => absurd c72 (by decide))
    refine g_iload (q := 86) dX3_goAround_84 rfl rfl ?_
    refine g_iret rfl dX3_goAround_86 (Nat.le_refl _) (Nat.le_refl _) ?_
    exact h
set_option maxRecDepth 100000 in
set_option maxHeartbeats 400000 in
theorem goA_stop {D k m x g mt p : Nat} {v : Vv} {Q : Option Int32 → Wd → Prop} {I : Nat → Nat → Int32} {acc : Int32} {i : Nat} (hst : ¬ I 19 7 = 0 ∨ ¬ I 19 5 = 0) (h : Q (some acc) (I, RR k)) : G mX3_goAround (rmd (D + 1) 0 0) (Zm Q 68 68 0 0) 68 31 [.ref 19, .int (nI m), .int (nI x), .int (nI g), .int (nI mt), .int (nI p), .int (nI (vfa v p 0)), .int (nI (vfa v p 0 % 3)), .int acc, .int (nI i)] [] 68 (I, RR k) 0 0 := by
  refine g_iload (q := 33) dX3_goAround_31 rfl rfl ?_
  refine g_iload (q := 35) dX3_goAround_33 rfl rfl ?_
  refine g_icmp_ge (tgt := 68) (q := 38) dX3_goAround_35 (by decide) rfl (fun c35 => ?_) (fun c35 => ?_)
  · exact goA_end hst h
  · refine g_aload_n (q := 39) dX3_goAround_38 rfl rfl ?_
    refine k_X3_70 (q := 42) rfl (Nat.le_of_ble_eq_true rfl) (by first | assumption | rfl) dX3_goAround_39 rfl (c_X3_isStopped (fun _ => ?_) (fun z1 z2 => absurd hst (fun z => z.elim (fun y => y z1) (fun y => y z2))))
    · refine g_if_ne (tgt := 68) (q := 45) dX3_goAround_42 (by decide) rfl (fun _ => ?_) (fun c42 => absurd c42 (by decide))
      exact goA_end hst h
set_option maxRecDepth 100000 in
set_option maxHeartbeats 400000 in
theorem l_goA {D k m x g mt p j : Nat} {v : Vv} {Q : Option Int32 → Wd → Prop} (hk : k = 4 ∨ k = 10) (hV : VOk v) (hO : CO D x j v k) (hp : p + 1 + j = 5) (hmt : mt < 2 ^ vna v) (hn : vfa v p 0 < 100) (hm : m < vnm v) (hg : g < 64) : ∀ (t i : Nat) (I : Nat → Nat → Int32) (s : Rs) (acc : Int32), i + t = vfa v p 0 % 3 → RSt I s 0 → CRep I k v → (∀ I2 r, Fr [19, 20, 21] I I2 → RPost I2 (arF (vfa v p 0) (onF v mt (bo v x m g) j (p + 1)) t s acc) r → Q (some r) (I2, RR k)) → G mX3_goAround (rmd (D + 1) 0 0) (Zm Q 68 68 0 0) 68 31 [.ref 19, .int (nI m), .int (nI x), .int (nI g), .int (nI mt), .int (nI p), .int (nI (vfa v p 0)), .int (nI (vfa v p 0 % 3)), .int acc, .int (nI i)] [] 68 (I, RR k) 0 0 := by
  obtain ⟨hW, hwk, hsk⟩ := kwv hk
  have hp21 := kfr hk
  obtain ⟨v1, v2, v3, v4⟩ := id hV
  intro t
  induction t with
  | zero =>
    intro i I s acc hi SS hC hpost
    refine g_iload (q := 33) dX3_goAround_31 rfl rfl ?_
    refine g_iload (q := 35) dX3_goAround_33 rfl rfl ?_
    refine g_icmp_ge (tgt := 68) (q := 38) dX3_goAround_35 (by decide) rfl (fun _ => ?_) (fun c35 => absurd (nI_le (by omega) (by omega)) c35)
    refine g_aload_n (q := 69) dX3_goAround_68 rfl rfl ?_
    refine k_X3_70 (q := 72) rfl (Nat.le_of_ble_eq_true rfl) (by first | assumption | rfl) dX3_goAround_69 rfl (c_X3_isStopped (fun z => absurd z (by rw [SS.2.2.1, SS.2.2.2.1]; decide)) (fun _ _ => ?_))
    · refine g_if_ne (tgt := 84) (q := 75) dX3_goAround_72 (by decide) rfl (fun c72 => absurd c72 (by decide)) (fun _ => ?_)
      refine g_aload_n (q := 76) dX3_goAround_75 rfl rfl ?_
      refine g_iload (q := 78) dX3_goAround_76 rfl rfl ?_
      refine g_bipush (q := 80) (v := nI 100) dX3_goAround_78 rfl (by decide) ?_
      refine g_iadd (q := 81) dX3_goAround_80 rfl ?_
      rw [nI_add]
      refine k_X3_88 (q := 84) rfl (Nat.le_of_ble_eq_true rfl) (by first | assumption | rfl) dX3_goAround_81 rfl (c_emit SS (fun I2 hF hE => ?_))
      refine g_iload (q := 86) dX3_goAround_84 rfl rfl ?_
      refine g_iret rfl dX3_goAround_86 (Nat.le_refl _) (Nat.le_refl _) ?_
      refine hpost I2 acc hF ?_
      rw [arF]
      cases hr : emF (vfa v p 0 + 100) s with
      | none => rw [hr] at hE; exact hE
      | some s1 => rw [hr] at hE; exact ⟨hE, fun _ => rfl⟩
  | succ t ih =>
    intro i I s acc hi SS hC hpost
    refine g_iload (q := 33) dX3_goAround_31 rfl rfl ?_
    refine g_iload (q := 35) dX3_goAround_33 rfl rfl ?_
    refine g_icmp_ge (tgt := 68) (q := 38) dX3_goAround_35 (by decide) rfl (fun c35 => absurd c35 (nI_ge (by omega) (by omega))) (fun _ => ?_)
    refine g_aload_n (q := 39) dX3_goAround_38 rfl rfl ?_
    refine k_X3_70 (q := 42) rfl (Nat.le_of_ble_eq_true rfl) (by first | assumption | rfl) dX3_goAround_39 rfl (c_X3_isStopped (fun z => absurd z (by rw [SS.2.2.1, SS.2.2.2.1]; decide)) (fun _ _ => ?_))
    · refine g_if_ne (tgt := 68) (q := 45) dX3_goAround_42 (by decide) rfl (fun c42 => absurd c42 (by decide)) (fun _ => ?_)
      refine g_aload_n (q := 46) dX3_goAround_45 rfl rfl ?_
      refine g_iload_n (q := 47) dX3_goAround_46 rfl rfl ?_
      refine g_iload_n (q := 48) dX3_goAround_47 rfl rfl ?_
      refine g_iload_n (q := 49) dX3_goAround_48 rfl rfl ?_
      refine g_iload (q := 51) dX3_goAround_49 rfl rfl ?_
      refine g_iload (q := 53) dX3_goAround_51 rfl rfl ?_
      refine g_iconst (q := 54) (v := nI 1) dX3_goAround_53 rfl (by decide) ?_
      refine g_iadd (q := 55) dX3_goAround_54 rfl ?_
      rw [nI_add]
      refine k_X3_66 (q := 58) rfl (Nat.le_of_ble_eq_true rfl) (by first | assumption | rfl) dX3_goAround_55 rfl (hO I s m g mt (p + 1) _ (by omega) hmt SS hC hm hg (fun I2 r hF hE => ?_))
      have hC2 := hC.fr hF hp21
      refine g_iconst (q := 59) (v := nI 1) dX3_goAround_58 rfl (by decide) ?_
      refine g_iadd (q := 60) dX3_goAround_59 rfl ?_
      refine g_istore (q := 62) dX3_goAround_60 rfl (by decide) rfl rfl ?_
      refine g_iincn (q := 65) dX3_goAround_62 rfl rfl (by decide) rfl rfl ?_
      refine g_goto (q := 31) dX3_goAround_65 (by decide) ?_
      cases hr : onF v mt (bo v x m g) j (p + 1) s with
      | none =>
        rw [hr] at hE
        refine goA_stop (Or.inl (by rw [show I2 19 7 = nI 1 from hE]; decide)) ?_
        refine hpost I2 _ hF ?_
        rw [arF, hr]
        exact hE
      | some q =>
        rw [hr] at hE
        obtain ⟨hE1, hE2⟩ := hE
        by_cases hf : q.2.1 = 0
        · rw [hf] at hE1
          refine ih (i + 1) I2 q.1 (r + nI 1) (by omega) hE1 hC2 (fun I3 r3 hF3 hP => hpost I3 r3 (hF.tr hF3) ?_)
          rw [arF, hr]
          show RPost I3 (if q.2.1 = 0 then _ else _) r3
          rw [if_pos hf, ← hE2 hf]
          exact hP
        · refine goA_stop (Or.inr (by rw [hE1.2.2.1]; exact fun z => hf ((nI_eq (b := 0) (by have := hE1.2.2.2.2.2.2.2.2.2; omega) (by omega)).mp z))) ?_
          refine hpost I2 _ hF ?_
          rw [arF, hr]
          show RPost I2 (if q.2.1 = 0 then _ else _) _
          rw [if_neg hf]
          exact ⟨hE1, fun z => absurd z hf⟩
set_option maxRecDepth 100000 in
set_option maxHeartbeats 400000 in
theorem CA_of {D k x j : Nat} {v : Vv} (hk : k = 4 ∨ k = 10) (hV : VOk v) (hO : CO D x j v k) : CA (D + 1) x j v k := by
  intro I s m g mt p Q hp hpa hmt hkd SS hC hm hg hpost
  obtain ⟨hW, hwk, hsk⟩ := kwv hk
  have hp21 := kfr hk
  obtain ⟨v1, v2, v3, v4⟩ := id hV
  have hf0 := hC.2.2.2 p hpa 0 (by omega)
  obtain ⟨w1, w2, w3, w4, w5, w6, w7, w8⟩ := v4 p hpa
  refine ex_intro (L0 := [.ref 19, .int (nI m), .int (nI x), .int (nI g), .int (nI mt), .int (nI p), .null, .null, .null, .null]) (by decide +kernel) rfl rfl (Nat.le_of_ble_eq_true rfl) rfl ?_
  refine g_aload_n (q := 1) dX3_goAround_0 rfl rfl ?_
  refine gf_X3_35 (q := 4) rfl (by first | assumption | rfl) (by first | assumption | rfl) dX3_goAround_1 rfl ?_
  refine g_iload (q := 6) dX3_goAround_4 rfl rfl ?_
  refine g_iconst (q := 7) (v := nI 0) dX3_goAround_6 rfl (by decide) ?_
  refine k_X3_81 (q := 10) rfl (Nat.le_of_ble_eq_true rfl) (by first | assumption | rfl) dX3_goAround_7 rfl (c_X5_fact hW (by omega) (by omega) ?_)
  rw [hf0]
  refine g_istore (q := 12) dX3_goAround_10 rfl (by decide) rfl rfl ?_
  refine g_iload (q := 14) dX3_goAround_12 rfl rfl ?_
  refine g_iconst (q := 15) (v := nI 3) dX3_goAround_14 rfl (by decide) ?_
  refine g_irem (q := 16) dX3_goAround_15 rfl (by decide) ?_
  rw [rem3 _ w2]
  refine g_istore (q := 18) dX3_goAround_16 rfl (by decide) rfl rfl ?_
  refine g_iload (q := 20) dX3_goAround_18 rfl rfl ?_
  refine g_istore (q := 22) dX3_goAround_20 rfl (by decide) rfl rfl ?_
  refine g_aload_n (q := 23) dX3_goAround_22 rfl rfl ?_
  refine g_iload (q := 25) dX3_goAround_23 rfl rfl ?_
  refine k_X3_88 (q := 28) rfl (Nat.le_of_ble_eq_true rfl) (by first | assumption | rfl) dX3_goAround_25 rfl (c_emit SS (fun I2 hF hE => ?_))
  have hC2 := hC.fr hF hp21
  refine g_iconst (q := 29) (v := nI 0) dX3_goAround_28 rfl (by decide) ?_
  refine g_istore (q := 31) dX3_goAround_29 rfl (by decide) rfl rfl ?_
  rw [hkd, advF, if_pos rfl] at hpost
  cases hr : emF (vfa v p 0) s with
  | none =>
    rw [hr] at hE hpost
    exact goA_stop (Or.inl (by rw [show I2 19 7 = nI 1 from hE]; decide)) (hpost I2 _ hF hE)
  | some s1 =>
    rw [hr] at hE hpost
    exact l_goA hk hV hO hp hmt w2 hm hg (vfa v p 0 % 3) 0 I2 s1 _ (by omega) hE hC2 (fun I3 r hF3 hP => hpost I3 r (hF.tr hF3) hP)
set_option maxRecDepth 100000 in
set_option maxHeartbeats 400000 in
theorem c_goOn_stop {d k : Nat} {I : Nat → Nat → Int32} {Q : Option Int32 → Wd → Prop} {m x g mt p : Nat} (hst : ¬ I 19 7 = 0 ∨ ¬ I 19 5 = 0) (h : Q (some (nI 0)) (I, RR k)) : Ex (d + 1) 0 0 mX3_goOn [.ref 19, .int (nI m), .int (nI x), .int (nI g), .int (nI mt), .int (nI p)] 68 (I, RR k) 68 Q := by
  refine ex_intro (L0 := [.ref 19, .int (nI m), .int (nI x), .int (nI g), .int (nI mt), .int (nI p), .null, .null, .null, .null]) (by decide +kernel) rfl rfl (Nat.le_of_ble_eq_true rfl) rfl ?_
  refine g_aload_n (q := 1) dX3_goOn_0 rfl rfl ?_
  refine k_X3_70 (q := 4) rfl (Nat.le_of_ble_eq_true rfl) (by first | assumption | rfl) dX3_goOn_1 rfl (c_X3_isStopped (fun _ => ?_) (fun z1 z2 => absurd hst (fun z => z.elim (fun y => y z1) (fun y => y z2))))
  · refine g_if_eq (tgt := 9) (q := 7) dX3_goOn_4 (by decide) rfl (fun c4 => absurd c4 (by decide)) (fun _ => ?_)
    refine g_iconst (q := 8) (v := nI 0) dX3_goOn_7 rfl (by decide) ?_
    refine g_iret rfl dX3_goOn_8 (Nat.le_refl _) (Nat.le_refl _) ?_
    exact h
set_option maxRecDepth 100000 in
set_option maxHeartbeats 400000 in
theorem goO_tailF {D k m x g mt fr p num kd : Nat} {Q : Option Int32 → Wd → Prop} {I : Nat → Nat → Int32} {r : Int32} (hst : I 19 7 = nI 1) (h : ∀ I3, Fr [19, 20, 21] I I3 → I3 19 7 = nI 1 → Q (some r) (I3, RR k)) : G mX3_goOn (rmd (D + 1) 0 0) (Zm Q 68 68 0 0) 68 132 [.ref 19, .int (nI m), .int (nI x), .int (nI g), .int (nI mt), .int (nI fr), .int (nI p), .int (nI num), .int (nI kd), .int r] [] 68 (I, RR k) 0 0 := by
  refine g_iload (q := 134) dX3_goOn_132 rfl rfl ?_
  refine g_iconst (q := 135) (v := nI 1) dX3_goOn_134 rfl (by decide) ?_
  refine g_icmp_eq (tgt := 155) (q := 138) dX3_goOn_135 (by decide) rfl (fun c135 => ?_) (fun c135 => ?_)
  · refine g_aload_n (q := 156) dX3_goOn_155 rfl rfl ?_
    refine g_iload (q := 158) dX3_goOn_156 rfl rfl ?_
    refine k_X3_88 (q := 161) rfl (Nat.le_of_ble_eq_true rfl) (by first | assumption | rfl) dX3_goOn_158 rfl (c_emit_full hst (fun I3 hF h3 => ?_))
    refine g_iload (q := 163) dX3_goOn_161 rfl rfl ?_
    refine g_iret rfl dX3_goOn_163 (Nat.le_refl _) (Nat.le_refl _) ?_
    first | exact h I3 hF h3 | exact h I Fr.rf hst
  · refine g_iload (q := 140) dX3_goOn_138 rfl rfl ?_
    refine g_aload_n (q := 141) dX3_goOn_140 rfl rfl ?_
    refine gf_X3_25 (q := 144) rfl (by first | assumption | rfl) dX3_goOn_141 rfl ?_
    refine g_if_ne (tgt := 151) (q := 147) dX3_goOn_144 (by decide) rfl (fun c144 => ?_) (fun c144 => ?_)
    · refine g_iconst (q := 152) (v := nI 3) dX3_goOn_151 rfl (by decide) ?_
      refine g_icmp_ne (tgt := 161) (q := 155) dX3_goOn_152 (by decide) rfl (fun c152 => ?_) (fun c152 => ?_)
      · refine g_iload (q := 163) dX3_goOn_161 rfl rfl ?_
        refine g_iret rfl dX3_goOn_163 (Nat.le_refl _) (Nat.le_refl _) ?_
        first | exact h I3 hF h3 | exact h I Fr.rf hst
      · refine g_aload_n (q := 156) dX3_goOn_155 rfl rfl ?_
        refine g_iload (q := 158) dX3_goOn_156 rfl rfl ?_
        refine k_X3_88 (q := 161) rfl (Nat.le_of_ble_eq_true rfl) (by first | assumption | rfl) dX3_goOn_158 rfl (c_emit_full hst (fun I3 hF h3 => ?_))
        refine g_iload (q := 163) dX3_goOn_161 rfl rfl ?_
        refine g_iret rfl dX3_goOn_163 (Nat.le_refl _) (Nat.le_refl _) ?_
        first | exact h I3 hF h3 | exact h I Fr.rf hst
    · refine g_iconst (q := 148) (v := nI 2) dX3_goOn_147 rfl (by decide) ?_
      refine g_goto (q := 152) dX3_goOn_148 (by decide) ?_
      refine g_icmp_ne (tgt := 161) (q := 155) dX3_goOn_152 (by decide) rfl (fun c152 => ?_) (fun c152 => ?_)
      · refine g_iload (q := 163) dX3_goOn_161 rfl rfl ?_
        refine g_iret rfl dX3_goOn_163 (Nat.le_refl _) (Nat.le_refl _) ?_
        first | exact h I3 hF h3 | exact h I Fr.rf hst
      · refine g_aload_n (q := 156) dX3_goOn_155 rfl rfl ?_
        refine g_iload (q := 158) dX3_goOn_156 rfl rfl ?_
        refine k_X3_88 (q := 161) rfl (Nat.le_of_ble_eq_true rfl) (by first | assumption | rfl) dX3_goOn_158 rfl (c_emit_full hst (fun I3 hF h3 => ?_))
        refine g_iload (q := 163) dX3_goOn_161 rfl rfl ?_
        refine g_iret rfl dX3_goOn_163 (Nat.le_refl _) (Nat.le_refl _) ?_
        first | exact h I3 hF h3 | exact h I Fr.rf hst
set_option maxRecDepth 100000 in
set_option maxHeartbeats 400000 in
theorem goO_tail {D k m x g mt fr p num kd f : Nat} {Q : Option Int32 → Wd → Prop} {I : Nat → Nat → Int32} {s : Rs} {r : Int32} (SS : RSt I s f) (h1 : 1 ≤ kd) (h3 : kd < 4) (h : ∀ I3, Fr [19, 20, 21] I I3 → EPost I3 (if (kd = 1 ∨ (kd = 2 ∧ f = 0) ∨ (kd = 3 ∧ ¬ f = 0)) then emF num s else some s) f → Q (some r) (I3, RR k)) : G mX3_goOn (rmd (D + 1) 0 0) (Zm Q 68 68 0 0) 68 132 [.ref 19, .int (nI m), .int (nI x), .int (nI g), .int (nI mt), .int (nI fr), .int (nI p), .int (nI num), .int (nI kd), .int r] [] 68 (I, RR k) 0 0 := by
  have hf9 := SS.2.2.2.2.2.2.2.2.2
  have q1 := nI_eq (a := kd) (b := 1) (by omega) (by omega)
  have q2 := nI_eq (a := kd) (b := 2) (by omega) (by omega)
  have q3 := nI_eq (a := kd) (b := 3) (by omega) (by omega)
  have q0 := nI_eq (a := f) (b := 0) (by omega) (by omega)
  refine g_iload (q := 134) dX3_goOn_132 rfl rfl ?_
  refine g_iconst (q := 135) (v := nI 1) dX3_goOn_134 rfl (by decide) ?_
  refine g_icmp_eq (tgt := 155) (q := 138) dX3_goOn_135 (by decide) rfl (fun c135 => ?_) (fun c135 => ?_)
  · refine g_aload_n (q := 156) dX3_goOn_155 rfl rfl ?_
    refine g_iload (q := 158) dX3_goOn_156 rfl rfl ?_
    refine k_X3_88 (q := 161) rfl (Nat.le_of_ble_eq_true rfl) (by first | assumption | rfl) dX3_goOn_158 rfl (c_emit SS (fun I3 hF hE => ?_))
    refine g_iload (q := 163) dX3_goOn_161 rfl rfl ?_
    refine g_iret rfl dX3_goOn_163 (Nat.le_refl _) (Nat.le_refl _) ?_
    rw [if_pos (Or.inl (q1.mp c135))] at h
    exact h I3 hF hE
  · refine g_iload (q := 140) dX3_goOn_138 rfl rfl ?_
    refine g_aload_n (q := 141) dX3_goOn_140 rfl rfl ?_
    refine gf_X3_25 (q := 144) rfl (by first | assumption | rfl) dX3_goOn_141 rfl ?_
    rw [SS.2.2.1]
    refine g_if_ne (tgt := 151) (q := 147) dX3_goOn_144 (by decide) rfl (fun c144 => ?_) (fun c144 => ?_)
    · refine g_iconst (q := 152) (v := nI 3) dX3_goOn_151 rfl (by decide) ?_
      refine g_icmp_ne (tgt := 161) (q := 155) dX3_goOn_152 (by decide) rfl (fun c152 => ?_) (fun c152 => ?_)
      · refine g_iload (q := 163) dX3_goOn_161 rfl rfl ?_
        refine g_iret rfl dX3_goOn_163 (Nat.le_refl _) (Nat.le_refl _) ?_
        rw [if_neg (fun z => z.elim (fun y => c135 (q1.mpr y)) (fun z => z.elim (fun y => c144 (q0.mpr y.2)) (fun y => c152 (q3.mpr y.1))))] at h
        exact h I Fr.rf SS
      · refine g_aload_n (q := 156) dX3_goOn_155 rfl rfl ?_
        refine g_iload (q := 158) dX3_goOn_156 rfl rfl ?_
        refine k_X3_88 (q := 161) rfl (Nat.le_of_ble_eq_true rfl) (by first | assumption | rfl) dX3_goOn_158 rfl (c_emit SS (fun I3 hF hE => ?_))
        refine g_iload (q := 163) dX3_goOn_161 rfl rfl ?_
        refine g_iret rfl dX3_goOn_163 (Nat.le_refl _) (Nat.le_refl _) ?_
        rw [if_pos (Or.inr (Or.inr ⟨q3.mp c152, fun z => c144 (q0.mpr z)⟩))] at h
        exact h I3 hF hE
    · refine g_iconst (q := 148) (v := nI 2) dX3_goOn_147 rfl (by decide) ?_
      refine g_goto (q := 152) dX3_goOn_148 (by decide) ?_
      refine g_icmp_ne (tgt := 161) (q := 155) dX3_goOn_152 (by decide) rfl (fun c152 => ?_) (fun c152 => ?_)
      · refine g_iload (q := 163) dX3_goOn_161 rfl rfl ?_
        refine g_iret rfl dX3_goOn_163 (Nat.le_refl _) (Nat.le_refl _) ?_
        rw [if_neg (fun z => z.elim (fun y => c135 (q1.mpr y)) (fun z => z.elim (fun y => c152 (q2.mpr y.1)) (fun y => y.2 (q0.mp c144))))] at h
        exact h I Fr.rf SS
      · refine g_aload_n (q := 156) dX3_goOn_155 rfl rfl ?_
        refine g_iload (q := 158) dX3_goOn_156 rfl rfl ?_
        refine k_X3_88 (q := 161) rfl (Nat.le_of_ble_eq_true rfl) (by first | assumption | rfl) dX3_goOn_158 rfl (c_emit SS (fun I3 hF hE => ?_))
        refine g_iload (q := 163) dX3_goOn_161 rfl rfl ?_
        refine g_iret rfl dX3_goOn_163 (Nat.le_refl _) (Nat.le_refl _) ?_
        rw [if_pos (Or.inr (Or.inl ⟨q2.mp c152, q0.mp c144⟩))] at h
        exact h I3 hF hE
theorem goO_post {I : Nat → Nat → Int32} {c : Prop} [Decidable c] {num : Nat} {q : Rs × Nat × Int32} {r : Int32} (h : EPost I (if c then emF num q.1 else some q.1) q.2.1) (hr : q.2.1 = 0 → r = q.2.2) : RPost I (if c then (emF num q.1).bind (fun s2 => some (s2, q.2)) else some q) r := by
  by_cases hc : c
  · rw [if_pos hc] at h ⊢
    cases he : emF num q.1 with
    | none => rw [he] at h; exact h
    | some s2 => rw [he] at h; exact ⟨h, hr⟩
  · rw [if_neg hc] at h ⊢
    exact ⟨h, hr⟩
set_option maxRecDepth 100000 in
set_option maxHeartbeats 400000 in
theorem l_goO {D k m x g mt fr : Nat} {v : Vv} {Q : Option Int32 → Wd → Prop} (hk : k = 4 ∨ k = 10) (hV : VOk v) (hD : 0 < D) (hT : CT D x v k) (hmt : mt < 2 ^ vna v) (hm : m < vnm v) (hg : g < 64) (I : Nat → Nat → Int32) (s : Rs) (SS : RSt I s 0) (hC : CRep I k v) : ∀ (j : Nat), (∀ j2, j2 < j → CO D x j2 v k ∧ CA D x j2 v k) → ∀ (p : Nat), p + j = 5 → (∀ I2 r, Fr [19, 20, 21] I I2 → RPost I2 (onF v mt (bo v x m g) j p s) r → Q (some r) (I2, RR k)) → G mX3_goOn (rmd (D + 1) 0 0) (Zm Q 68 68 0 0) 68 13 [.ref 19, .int (nI m), .int (nI x), .int (nI g), .int (nI mt), .int (nI fr), .int (nI p), .null, .null, .null] [] 68 (I, RR k) 0 0 := by
  obtain ⟨hW, hwk, hsk⟩ := kwv hk
  have hp21 := kfr hk
  obtain ⟨v1, v2, v3, v4⟩ := id hV
  have hm64 : mt < 64 := Nat.lt_of_lt_of_le hmt (Nat.le_trans (Nat.pow_le_pow_right (by decide) v2) (by decide))
  intro j
  induction j with
  | zero =>
    intro hj p hp hpost
    have hp : p = 5 := by omega
    subst hp
    refine g_iload (q := 15) dX3_goOn_13 rfl rfl ?_
    refine g_iconst (q := 16) (v := nI 5) dX3_goOn_15 rfl (by decide) ?_
    refine g_icmp_ge (tgt := 35) (q := 19) dX3_goOn_16 (by decide) rfl (fun _ => ?_) (fun c16 => absurd (nI_le (by omega) (by omega)) c16)
    refine g_iload (q := 37) dX3_goOn_35 rfl rfl ?_
    refine g_iconst (q := 38) (v := nI 5) dX3_goOn_37 rfl (by decide) ?_
    refine g_icmp_lt (tgt := 49) (q := 41) dX3_goOn_38 (by decide) rfl (fun c38 => absurd c38 (nI_nlt (by omega) (by omega))) (fun _ => ?_)
    refine g_aload_n (q := 42) dX3_goOn_41 rfl rfl ?_
    refine g_iload_n (q := 43) dX3_goOn_42 rfl rfl ?_
    refine g_iload_n (q := 44) dX3_goOn_43 rfl rfl ?_
    refine g_iload_n (q := 45) dX3_goOn_44 rfl rfl ?_
    refine k_X3_78 (q := 48) rfl (Nat.le_of_ble_eq_true rfl) (by first | assumption | rfl) dX3_goOn_45 rfl (hT I s m g _ SS hC hm hg (fun I2 r hF hP => ?_))
    refine g_iret rfl dX3_goOn_48 (Nat.le_refl _) (Nat.le_refl _) ?_
    exact hpost I2 r hF hP
  | succ j ih =>
    intro hj p hp hpost
    obtain ⟨hO, hA⟩ := hj j (by omega)
    have hb : mt.testBit p = true → p < vna v := fun z => by
      apply Decidable.byContradiction
      intro hz
      have := Nat.testBit_lt_two_pow (x := mt) (i := p) (Nat.lt_of_lt_of_le hmt (Nat.pow_le_pow_right (by decide) (by omega)))
      rw [z] at this
      cases this
    refine g_iload (q := 15) dX3_goOn_13 rfl rfl ?_
    refine g_iconst (q := 16) (v := nI 5) dX3_goOn_15 rfl (by decide) ?_
    refine g_icmp_ge (tgt := 35) (q := 19) dX3_goOn_16 (by decide) rfl (fun c16 => absurd c16 (nI_ge (by omega) (by omega))) (fun _ => ?_)
    refine g_iload (q := 21) dX3_goOn_19 rfl rfl ?_
    refine g_iload (q := 23) dX3_goOn_21 rfl rfl ?_
    refine k_X3_74 (q := 26) rfl (Nat.le_of_ble_eq_true rfl) dX3_goOn_23 rfl (c_X6_hasBit hm64 (by omega) (fun z23 => ?_) (fun z23 => ?_))
    · refine g_if_ne (tgt := 35) (q := 29) dX3_goOn_26 (by decide) rfl (fun _ => ?_) (fun c26 => absurd c26 (by decide))
      have hpa := hb z23
      have hf0 := hC.2.2.2 p hpa 0 (by omega)
      have hf5 := hC.2.2.2 p hpa 5 (by omega)
      obtain ⟨w1, w2, w3, w4, w5, w6, w7, w8⟩ := v4 p hpa
      rw [onF, if_pos z23] at hpost
      refine g_iload (q := 37) dX3_goOn_35 rfl rfl ?_
      refine g_iconst (q := 38) (v := nI 5) dX3_goOn_37 rfl (by decide) ?_
      refine g_icmp_lt (tgt := 49) (q := 41) dX3_goOn_38 (by decide) rfl (fun _ => ?_) (fun c38 => absurd (nI_lt (by omega) (by omega)) c38)
      refine g_aload_n (q := 50) dX3_goOn_49 rfl rfl ?_
      refine gf_X3_35 (q := 53) rfl (by first | assumption | rfl) (by first | assumption | rfl) dX3_goOn_50 rfl ?_
      refine g_iload (q := 55) dX3_goOn_53 rfl rfl ?_
      refine g_iconst (q := 56) (v := nI 0) dX3_goOn_55 rfl (by decide) ?_
      refine k_X3_81 (q := 59) rfl (Nat.le_of_ble_eq_true rfl) (by first | assumption | rfl) dX3_goOn_56 rfl (c_X5_fact hW (by omega) (by omega) ?_)
      rw [hf0]
      refine g_istore (q := 61) dX3_goOn_59 rfl (by decide) rfl rfl ?_
      refine g_aload_n (q := 62) dX3_goOn_61 rfl rfl ?_
      refine gf_X3_35 (q := 65) rfl (by first | assumption | rfl) (by first | assumption | rfl) dX3_goOn_62 rfl ?_
      refine g_iload (q := 67) dX3_goOn_65 rfl rfl ?_
      refine g_iconst (q := 68) (v := nI 5) dX3_goOn_67 rfl (by decide) ?_
      refine k_X3_81 (q := 71) rfl (Nat.le_of_ble_eq_true rfl) (by first | assumption | rfl) dX3_goOn_68 rfl (c_X5_fact hW (by omega) (by omega) ?_)
      rw [hf5]
      refine g_istore (q := 73) dX3_goOn_71 rfl (by decide) rfl rfl ?_
      refine g_iload (q := 75) dX3_goOn_73 rfl rfl ?_
      refine g_iconst (q := 76) (v := nI 4) dX3_goOn_75 rfl (by decide) ?_
      refine g_icmp_ne (tgt := 91) (q := 79) dX3_goOn_76 (by decide) rfl (fun c76 => ?_) (fun c76 => ?_)
      · refine g_iload (q := 93) dX3_goOn_91 rfl rfl ?_
        refine g_iconst (q := 94) (v := nI 5) dX3_goOn_93 rfl (by decide) ?_
        refine g_icmp_ne (tgt := 117) (q := 97) dX3_goOn_94 (by decide) rfl (fun c94 => ?_) (fun c94 => ?_)
        · refine g_aload_n (q := 118) dX3_goOn_117 rfl rfl ?_
          refine g_iload_n (q := 119) dX3_goOn_118 rfl rfl ?_
          refine g_iload_n (q := 120) dX3_goOn_119 rfl rfl ?_
          refine g_iload_n (q := 121) dX3_goOn_120 rfl rfl ?_
          refine g_iload (q := 123) dX3_goOn_121 rfl rfl ?_
          refine g_iload (q := 125) dX3_goOn_123 rfl rfl ?_
          refine g_iconst (q := 126) (v := nI 1) dX3_goOn_125 rfl (by decide) ?_
          refine g_iadd (q := 127) dX3_goOn_126 rfl ?_
          rw [nI_add]
          refine k_X3_66 (q := 130) rfl (Nat.le_of_ble_eq_true rfl) (by first | assumption | rfl) dX3_goOn_127 rfl (hO I s m g mt (p + 1) _ (by omega) hmt SS hC hm hg (fun I2 r hF hE => ?_))
          have hC2 := hC.fr hF hp21
          have n4 : ¬ vfa v p 5 = 4 := fun z => c76 (by rw [z])
          have n5 : ¬ vfa v p 5 = 5 := fun z => c94 (by rw [z])
          rw [advF, if_neg n4, if_neg n5] at hpost
          refine g_istore (q := 132) dX3_goOn_130 rfl (by decide) rfl rfl ?_
          cases hr : onF v mt (bo v x m g) j (p + 1) s with
          | none =>
            rw [hr] at hE hpost
            exact goO_tailF (show I2 19 7 = nI 1 from hE) (fun I3 hF3 h3 => hpost I3 _ (hF.tr hF3) h3)
          | some q =>
            rw [hr] at hE hpost
            obtain ⟨hE1, hE2⟩ := hE
            refine goO_tail hE1 w7 (by omega) (fun I3 hF3 h3 => hpost I3 _ (hF.tr hF3) ?_)
            exact goO_post h3 hE2
        · refine g_aload_n (q := 98) dX3_goOn_97 rfl rfl ?_
          refine g_iload (q := 100) dX3_goOn_98 rfl rfl ?_
          refine k_X3_88 (q := 103) rfl (Nat.le_of_ble_eq_true rfl) (by first | assumption | rfl) dX3_goOn_100 rfl (c_emit SS (fun I2 hF hE => ?_))
          have hC2 := hC.fr hF hp21
          have k5 : vfa v p 5 = 5 := (nI_eq (by omega) (by omega)).mp c94
          rw [advF, if_neg (by omega), if_pos k5] at hpost
          refine g_aload_n (q := 104) dX3_goOn_103 rfl rfl ?_
          refine g_iload_n (q := 105) dX3_goOn_104 rfl rfl ?_
          refine g_iload_n (q := 106) dX3_goOn_105 rfl rfl ?_
          refine g_iload_n (q := 107) dX3_goOn_106 rfl rfl ?_
          refine g_iload (q := 109) dX3_goOn_107 rfl rfl ?_
          refine g_iload (q := 111) dX3_goOn_109 rfl rfl ?_
          refine g_iconst (q := 112) (v := nI 1) dX3_goOn_111 rfl (by decide) ?_
          refine g_iadd (q := 113) dX3_goOn_112 rfl ?_
          rw [nI_add]
          refine k_X3_66 (q := 116) rfl (Nat.le_of_ble_eq_true rfl) (by first | assumption | rfl) dX3_goOn_113 rfl (?_)
          cases hr : emF (vfa v p 0) s with
          | none =>
            rw [hr] at hE hpost
            obtain ⟨D2, rfl⟩ : ∃ D2, D = D2 + 1 := ⟨D - 1, by omega⟩
            refine c_goOn_stop (Or.inl (by rw [show I2 19 7 = nI 1 from hE]; decide)) ?_
            refine g_iret rfl dX3_goOn_116 (Nat.le_refl _) (Nat.le_refl _) ?_
            exact hpost I2 _ hF hE
          | some s1 =>
            rw [hr] at hE hpost
            refine hO I2 s1 m g mt (p + 1) _ (by omega) hmt hE hC2 hm hg (fun I3 r hF3 hP => ?_)
            refine g_iret rfl dX3_goOn_116 (Nat.le_refl _) (Nat.le_refl _) ?_
            exact hpost I3 r (hF.tr hF3) hP
      · refine g_aload_n (q := 80) dX3_goOn_79 rfl rfl ?_
        refine g_iload_n (q := 81) dX3_goOn_80 rfl rfl ?_
        refine g_iload_n (q := 82) dX3_goOn_81 rfl rfl ?_
        refine g_iload_n (q := 83) dX3_goOn_82 rfl rfl ?_
        refine g_iload (q := 85) dX3_goOn_83 rfl rfl ?_
        refine g_iload (q := 87) dX3_goOn_85 rfl rfl ?_
        refine k_X3_85 (q := 90) rfl (Nat.le_of_ble_eq_true rfl) (by first | assumption | rfl) dX3_goOn_87 rfl (hA I s m g mt p _ (by omega) hpa hmt ((nI_eq (by omega) (by omega)).mp c76) SS hC hm hg (fun I2 r hF hE => ?_))
        refine g_iret rfl dX3_goOn_90 (Nat.le_refl _) (Nat.le_refl _) ?_
        exact hpost I2 r hF hE
    · refine g_if_ne (tgt := 35) (q := 29) dX3_goOn_26 (by decide) rfl (fun c26 => absurd c26 (by decide)) (fun _ => ?_)
      refine g_iincn (q := 32) dX3_goOn_29 rfl rfl (by decide) rfl rfl ?_
      refine g_goto (q := 13) dX3_goOn_32 (by decide) ?_
      rw [onF, if_neg (by rw [z23]; decide)] at hpost
      exact ih (fun j2 h2 => hj j2 (by omega)) (p + 1) (by omega) hpost
set_option maxRecDepth 100000 in
set_option maxHeartbeats 400000 in
theorem CO_of {D k x j : Nat} {v : Vv} (hk : k = 4 ∨ k = 10) (hV : VOk v) (hD : 0 < D) (hT : CT D x v k) (hj : ∀ j2, j2 < j → CO D x j2 v k ∧ CA D x j2 v k) : CO (D + 1) x j v k := by
  intro I s m g mt p Q hp hmt SS hC hm hg hpost
  refine ex_intro (L0 := [.ref 19, .int (nI m), .int (nI x), .int (nI g), .int (nI mt), .int (nI p), .null, .null, .null, .null]) (by decide +kernel) rfl rfl (Nat.le_of_ble_eq_true rfl) rfl ?_
  refine g_aload_n (q := 1) dX3_goOn_0 rfl rfl ?_
  refine k_X3_70 (q := 4) rfl (Nat.le_of_ble_eq_true rfl) (by first | assumption | rfl) dX3_goOn_1 rfl (c_X3_isStopped (fun z => absurd z (by rw [SS.2.2.1, SS.2.2.2.1]; decide)) (fun _ _ => ?_))
  · refine g_if_eq (tgt := 9) (q := 7) dX3_goOn_4 (by decide) rfl (fun _ => ?_) (fun c4 => absurd c4 (by decide))
    refine g_iload (q := 11) dX3_goOn_9 rfl rfl ?_
    refine g_istore (q := 13) dX3_goOn_11 rfl (by decide) rfl rfl ?_
    exact l_goO hk hV hD hT hmt hm hg I s SS hC j hj p hp hpost
theorem gor_lt {g m : Nat} (hg : g < 64) (hm : m < 6) : g ||| 1 <<< m < 64 := Nat.or_lt_two_pow (n := 6) hg (sh_lt m hm)
theorem enF_eq (v : Vv) (x m g : Nat) (s : Rs) : enF v x m g s = if 300 ≤ s.2.1 then none else onF v (meantF v m x (g ||| 1 <<< m)) (bo v x m (g ||| 1 <<< m)) 5 0 (s.1, s.2.1 + 1, fun z => if z = m then s.2.2 m + 1 else s.2.2 z) := by
  cases x with
  | zero => rfl
  | succ x => rfl
theorem meant_na {v : Vv} {m x g : Nat} : meantF v m x g < 2 ^ vna v := by
  refine orN_lt (n := vna v) _ _ (fun i hi => ?_)
  unfold mbit
  split
  · rw [Nat.one_shiftLeft]; exact Nat.pow_lt_pow_right (by decide) hi
  · exact Nat.two_pow_pos _
set_option maxRecDepth 100000 in
set_option maxHeartbeats 400000 in
theorem CE_of {D k x : Nat} {v : Vv} (hk : k = 4 ∨ k = 10) (hV : VOk v) (hx : x < 10) (hO : CO (D + 2) x 5 v k) : CE (D + 3) x v k := by
  intro I s m g Q SS hC hm hg hpost
  obtain ⟨hW, hwk, hsk⟩ := kwv hk
  have hp21 := kfr hk
  obtain ⟨v1, v2, v3, v4⟩ := id hV
  obtain ⟨h1, h2, h3, h4, h5, h6, h7, h8, h9, h10⟩ := id SS
  have hg2 := gor_lt hg (show m < 6 by omega)
  have hr := enF_eq v x m g s
  have hcm := h9 m (by omega)
  refine ex_intro (L0 := [.ref 19, .int (nI m), .int (nI x), .int (nI g), .null]) (by decide +kernel) rfl rfl (Nat.le_of_ble_eq_true rfl) rfl ?_
  refine g_aload_n (q := 1) dX3_enter_0 rfl rfl ?_
  refine gf_X3_22 (q := 4) rfl (by first | assumption | rfl) dX3_enter_1 rfl ?_
  rw [h2]
  refine g_sipush (q := 7) (v := nI 300) dX3_enter_4 rfl (by decide) ?_
  refine g_icmp_lt (tgt := 17) (q := 10) dX3_enter_7 (by decide) rfl (fun c7 => ?_) (fun c7 => ?_)
  · refine g_aload_n (q := 18) dX3_enter_17 rfl rfl ?_
    refine g_dup (q := 19) dX3_enter_18 rfl rfl ?_
    refine gf_X3_22 (q := 22) rfl (by first | assumption | rfl) dX3_enter_19 rfl ?_
    rw [h2]
    refine g_iconst (q := 23) (v := nI 1) dX3_enter_22 rfl (by decide) ?_
    refine g_iadd (q := 24) dX3_enter_23 rfl ?_
    rw [nI_add]
    refine pf_X3_22 (q := 27) rfl (by first | assumption | rfl) dX3_enter_24 rfl ?_
    refine g_aload_n (q := 28) dX3_enter_27 rfl rfl ?_
    refine gf_X3_15 (q := 31) rfl (by first | assumption | rfl) (by first | assumption | rfl) dX3_enter_28 rfl ?_
    refine g_iload_n (q := 32) dX3_enter_31 rfl rfl ?_
    refine g_dup2 (q := 33) dX3_enter_32 rfl rfl rfl ?_
    refine g_ialdn (q := 34) (by first | assumption | rfl) (by repeat' first | apply nI_a | apply nI_m | exact rfl) (by omega) dX3_enter_33 rfl ?_
    rw [uI_ne (show 21 ≠ 19 by decide), h6 m (by omega)]
    refine g_iconst (q := 35) (v := nI 1) dX3_enter_34 rfl (by decide) ?_
    refine g_iadd (q := 36) dX3_enter_35 rfl ?_
    rw [nI_add]
    refine g_iastn (q := 37) (by first | assumption | rfl) (by repeat' first | apply nI_a | apply nI_m | exact rfl) (by omega) dX3_enter_36 rfl ?_
    have hFr : Fr [19, 20, 21] I (uI (uI I 19 4 (nI (s.2.1 + 1))) 21 m (nI (s.2.2 m + 1))) := Fr.tr (Fr.ui (by decide)) (Fr.ui (by decide))
    have hC2 := hC.fr hFr hp21
    have hlt : s.2.1 < 300 := by have := mt (nI_ltI (a := s.2.1) (b := 300) (by omega) (by omega)).mp; have := (nI_ltI (a := s.2.1) (b := 300) (by omega) (by omega)).mp c7; exact this
    have hS2 : RSt (uI (uI I 19 4 (nI (s.2.1 + 1))) 21 m (nI (s.2.2 m + 1))) (s.1, s.2.1 + 1, fun z => if z = m then s.2.2 m + 1 else s.2.2 z) 0 := by
      refine ⟨by simp [uI, h1], by simp [uI], by simp [uI, h3], by simp [uI, h4], fun z hz => by simp [uI, h5 z hz], fun z hz => ?_, h7, by show s.2.1 + 1 ≤ 300; omega, fun z hz => ?_, by decide⟩
      · by_cases e : z = m
        · subst e; simp [uI]
        · simp [uI, e, h6 z hz]
      · show (if z = m then s.2.2 m + 1 else s.2.2 z) ≤ s.2.1 + 1
        have := h9 z hz
        split <;> omega
    refine g_iload_n (q := 38) dX3_enter_37 rfl rfl ?_
    refine g_iconst (q := 39) (v := nI 1) dX3_enter_38 rfl (by decide) ?_
    refine g_iload_n (q := 40) dX3_enter_39 rfl rfl ?_
    refine g_ishl (q := 41) dX3_enter_40 rfl ?_
    rw [bit_sh _ (by omega)]
    refine g_ior (q := 42) dX3_enter_41 rfl ?_
    rw [bit_or _ hg _ (sh_lt m (by omega))]
    refine g_istore (q := 44) dX3_enter_42 rfl (by decide) rfl rfl ?_
    refine g_aload_n (q := 45) dX3_enter_44 rfl rfl ?_
    refine g_iload_n (q := 46) dX3_enter_45 rfl rfl ?_
    refine g_iload_n (q := 47) dX3_enter_46 rfl rfl ?_
    refine g_iload (q := 49) dX3_enter_47 rfl rfl ?_
    refine g_aload_n (q := 50) dX3_enter_49 rfl rfl ?_
    refine gf_X3_35 (q := 53) rfl (by first | assumption | rfl) (by first | assumption | rfl) dX3_enter_50 rfl ?_
    refine g_iload_n (q := 54) dX3_enter_53 rfl rfl ?_
    refine g_iload_n (q := 55) dX3_enter_54 rfl rfl ?_
    refine g_iload (q := 57) dX3_enter_55 rfl rfl ?_
    refine k_X3_63 (q := 60) rfl (Nat.le_of_ble_eq_true rfl) (by first | assumption | rfl) dX3_enter_57 rfl (c_X5_meantAt hW hC2 hV hm hx hg2 ?_)
    refine g_iconst (q := 61) (v := nI 0) dX3_enter_60 rfl (by decide) ?_
    refine k_X3_66 (q := 64) rfl (Nat.le_of_ble_eq_true rfl) (by first | assumption | rfl) dX3_enter_61 rfl (hO _ (s.1, s.2.1 + 1, fun z => if z = m then s.2.2 m + 1 else s.2.2 z) m _ _ 0 _ rfl meant_na hS2 hC2 hm hg2 (fun I2 r hF hP => ?_))
    refine g_iret rfl dX3_enter_64 (Nat.le_refl _) (Nat.le_refl _) ?_
    rw [hr, if_neg (by omega)] at hpost
    exact hpost I2 r (hFr.tr hF) hP
  · refine g_aload_n (q := 11) dX3_enter_10 rfl rfl ?_
    refine g_iconst (q := 12) (v := nI 1) dX3_enter_11 rfl (by decide) ?_
    refine pf_X3_31 (q := 15) rfl (by decide) (by decide) (by first | assumption | rfl) dX3_enter_12 rfl ?_
    refine g_iconst (q := 16) (v := nI 0) dX3_enter_15 rfl (by decide) ?_
    refine g_iret rfl dX3_enter_16 (Nat.le_refl _) (Nat.le_refl _) ?_
    rw [hr, if_pos (by have := mt (nI_ltI (a := s.2.1) (b := 300) (by omega) (by omega)).mpr c7; omega)] at hpost
    exact hpost _ _ (Fr.ui (by decide)) uI_eq
/-- all depths, all arguments -/
theorem CO_all {B k x : Nat} {v : Vv} (hk : k = 4 ∨ k = 10) (hV : VOk v) (hT : ∀ d, CT (d + B + 1) x v k) : ∀ (j d : Nat), CO (d + B + 2 * j + 2) x j v k := by
  intro j
  induction j using Nat.strongRecOn with
  | ind j ih =>
    intro d
    refine CO_of (D := d + B + 2 * j + 1) hk hV (by omega) (by have := hT (d + 2 * j); rwa [show d + 2 * j + B + 1 = d + B + 2 * j + 1 by omega] at this) (fun j2 h2 => ⟨?_, ?_⟩)
    · have := ih j2 h2 (d + 2 * (j - j2) - 1)
      rwa [show d + 2 * (j - j2) - 1 + B + 2 * j2 + 2 = d + B + 2 * j + 1 by omega] at this
    · have := CA_of hk hV (ih j2 h2 (d + 2 * (j - j2) - 2))
      rwa [show d + 2 * (j - j2) - 2 + B + 2 * j2 + 2 + 1 = d + B + 2 * j + 1 by omega] at this
theorem CE_all {k : Nat} {v : Vv} (hk : k = 4 ∨ k = 10) (hV : VOk v) : ∀ (x : Nat), x < 10 → ∀ d, CE (d + 13 * x + 14) x v k := by
  intro x
  induction x with
  | zero =>
    intro _ d
    have hO := CO_all (B := 1) hk hV (fun d => CT_0 (D := d + 1) hk hV) 5 d
    have := CE_of (D := d + 11) hk hV (by omega) hO
    exact this
  | succ x ih =>
    intro hx d
    have hT : ∀ d, CT (d + (13 * x + 14) + 1) (x + 1) v k := fun d => CT_s hk hV (by have := ih (by omega) d; rwa [show d + 13 * x + 14 = d + (13 * x + 14) by omega] at this) (by omega)
    have hO := CO_all (B := 13 * x + 14) hk hV hT 5 d
    have := CE_of (D := d + (13 * x + 14) + 10) hk hV hx hO
    rwa [show d + (13 * x + 14) + 10 + 3 = d + 13 * (x + 1) + 14 by omega] at this
