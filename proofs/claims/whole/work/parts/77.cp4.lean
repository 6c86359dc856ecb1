set_option maxRecDepth 100000 in
set_option maxHeartbeats 400000 in
theorem c_X4_read {d k : Nat} {I : Nat → Nat → Int32} {Q : Option Int32 → Wd → Prop} {t : List Nat} (hT : RTape I t) (h : ∀ J, FrP I J → RTape J [] → J 2 2 = nI (w5S t).2 → (w5S t).1 < 5 → ((w5S t).1 = 0 → CRep J 10 (w3S t).2) → Q (some (nI (w5S t).1)) (J, RR k)) : Ex (d + 8) 0 0 mX4_read [.ref 2, .ref 10] 68 (I, RR k) 68 Q := by
  have hW := wv10 k
  have h3ok := w3S_ok t
  have fin : ∀ (W : Nat → Nat → Int32) (fz : Value), FrP I W → RC W t (w5S t) → ((w5S t).1 = 0 → CRep W 10 (w3S t).2) → G mX4_read (rmd (d + 8) 0 0) (Zm Q 68 68 0 0) 68 128 [.ref 2, .ref 10, fz] [] 68 (W, RR k) 0 0 := by
    intro W fz hF hR hC
    obtain ⟨r1, r2, r3, r4, r5, r6⟩ := hR
    refine g_aload_n (q := 129) dX4_read_128 rfl rfl ?_
    refine g_iconst (q := 130) (v := nI 0) dX4_read_129 rfl (by decide) ?_
    refine pf_X4_15 (q := 133) rfl (by first | assumption | rfl) dX4_read_130 rfl ?_
    refine g_aload_n (q := 134) dX4_read_133 rfl rfl ?_
    refine gf_X4_31 (q := 137) rfl (by first | assumption | rfl) dX4_read_134 rfl ?_
    rw [uI_n2 (by decide), r3]
    refine g_iret rfl dX4_read_137 (Nat.le_refl _) (Nat.le_refl _) ?_
    refine h _ (hF.tr (FrP.o Fr2.u)) ⟨uI_eq, by simp, fun j hj => absurd hj (by simp)⟩ ((uI_n2 (by decide)).trans r2) r4 (fun z => (hC z).f2 Fr2.u)
  refine ex_intro (L0 := [.ref 2, .ref 10, .null]) (by decide +kernel) rfl rfl (Nat.le_of_ble_eq_true rfl) rfl ?_
  refine g_aload_n (q := 1) dX4_read_0 rfl rfl ?_
  refine k_X4_34 (q := 4) rfl (Nat.le_of_ble_eq_true rfl) (by first | assumption | rfl) dX4_read_1 rfl (c_X5_clear hW ?_)
  refine g_aload_n (q := 5) dX4_read_4 rfl rfl ?_
  refine g_iconst (q := 6) (v := nI 0) dX4_read_5 rfl (by decide) ?_
  refine pf_X4_31 (q := 9) rfl (by first | assumption | rfl) dX4_read_6 rfl ?_
  refine g_aload_n (q := 10) dX4_read_9 rfl rfl ?_
  refine g_iconst (q := 11) (v := nI 0) dX4_read_10 rfl (by decide) ?_
  refine pf_X4_22 (q := 14) rfl (by first | assumption | rfl) dX4_read_11 rfl ?_
  have wF : FrP I (uI (uI (uI (uI I 10 5 (nI 0)) 10 6 (nI 0)) 2 6 (nI 0)) 2 3 (nI 0)) := (FrP.u (by decide) (by decide)).tr ((FrP.u (by decide) (by decide)).tr ((FrP.o Fr2.u).tr (FrP.o Fr2.u)))
  have wT : RTape (uI (uI (uI (uI I 10 5 (nI 0)) 10 6 (nI 0)) 2 6 (nI 0)) 2 3 (nI 0)) t := ⟨by rw [uI_n2 (by decide), uI_n2 (by decide), uI_ne (by decide), uI_ne (by decide)]; exact hT.1, hT.2.1, fun j hj => by rw [uI_ne (by decide), uI_ne (by decide), uI_ne (by decide), uI_ne (by decide)]; exact hT.2.2 j hj⟩
  have wC : CRep (uI (uI (uI (uI I 10 5 (nI 0)) 10 6 (nI 0)) 2 6 (nI 0)) 2 3 (nI 0)) 10 v0 := ⟨by rw [uI_ne (by decide), uI_ne (by decide), uI_n2 (by decide), uI_eq]; rfl, by rw [uI_ne (by decide), uI_ne (by decide), uI_eq]; rfl, fun m hm => absurd hm (Nat.not_lt_zero _), fun a ha => absurd ha (Nat.not_lt_zero _)⟩
  refine g_aload_n (q := 15) dX4_read_14 rfl rfl ?_
  refine k_X4_39 (q := 18) rfl (Nat.le_of_ble_eq_true rfl) (by first | assumption | rfl) dX4_read_15 rfl (c_X4_step (t := t) (q := 0) wT (Nat.zero_le _) uI_eq ((uI_n2 (by decide)).trans uI_eq) (fun J1 f1 R1 => ?_))
  have C1 := wC.f2 f1
  have p1 := wF.tr (FrP.o f1)
  refine g_iconst (q := 19) (v := nI 0) dX4_read_18 rfl (by decide) ?_
  refine g_istore_n (q := 20) dX4_read_19 rfl (by decide) rfl rfl ?_
  refine l_rms0 R1 C1 (fun J2 fz f2 R2 C2 => ?_)
  have p2 := p1.tr f2
  refine g_iconst (q := 58) (v := nI 0) dX4_read_57 rfl (by decide) ?_
  refine g_istore_n (q := 59) dX4_read_58 rfl (by decide) rfl rfl ?_
  refine l_raa (fin := w3S t) (fun J3 fz f3 R3 C3 => ?_) 6 0 J2 _ _ rfl rfl FrP.rf R2 (msS_ok _ _ _ v0_ok) C2
  have p3 := p2.tr f3
  refine g_aload_n (q := 93) dX4_read_92 rfl rfl ?_
  refine gf_X4_25 (q := 96) rfl (by first | assumption | rfl) dX4_read_93 rfl ?_
  refine g_bipush (q := 98) (v := (-2)) dX4_read_96 rfl (by decide) ?_
  refine g_icmp_eq (tgt := 109) (q := 101) dX4_read_98 (by decide) rfl (fun c98 => ?_) (fun c98 => ?_)
  · refine g_aload_n (q := 110) dX4_read_109 rfl rfl ?_
    refine gf_X4_31 (q := 113) rfl (by first | assumption | rfl) dX4_read_110 rfl ?_
    rw [R3.2.2.1]
    refine g_if_ne (tgt := 128) (q := 116) dX4_read_113 (by decide) rfl (fun c113 => ?_) (fun c113 => ?_)
    · have hs : ¬ (w3S t).1.1 = 0 := fun z => c113 (by rw [z]; rfl)
      have e5 : w5S t = (w3S t).1 := by unfold w5S w4S; rw [muS_n hs, muS_n hs]
      have R3' := R3
      rw [← e5] at R3'
      exact fin J3 _ p3 R3' (fun z => by rw [e5] at z; exact absurd z hs)
    · have hs : (w3S t).1.1 = 0 := (nI_eq (b := 0) (by have := R3.2.2.2.1; omega) (by decide)).mp c113
      have hk : kdT t (w3S t).1.2 = 0 := (tkJ_end (R3.1.b _)).mp ((R3.2.2.2.2.2 hs).2.1.symm.trans c98)
      have e4 : w4S t = (w3S t).1 := by unfold w4S muS; rw [decide_eq_true hk, if_neg (fun z => by cases z.2)]
      refine g_aload_n (q := 117) dX4_read_116 rfl rfl ?_
      refine k_X4_57 (q := 120) rfl (Nat.le_of_ble_eq_true rfl) (by first | assumption | rfl) dX4_read_117 rfl (c_X5_callsOnlyWhatIsThere hW (C3 hs) h3ok (fun z117 => ?_) (fun z117 => ?_))
      · refine g_if_ne (tgt := 128) (q := 123) dX4_read_120 (by decide) rfl (fun _ => ?_) (fun c120 => absurd c120 (by decide))
        have e5 : w5S t = (w3S t).1 := by unfold w5S muS; rw [(thB_iff h3ok).mpr z117, if_neg (fun z => by cases z.2), e4]
        have R3' := R3
        rw [← e5] at R3'
        exact fin J3 _ p3 R3' (fun _ => C3 hs)
      · refine g_if_ne (tgt := 128) (q := 123) dX4_read_120 (by decide) rfl (fun c120 => absurd c120 (by decide)) (fun _ => ?_)
        refine g_aload_n (q := 124) dX4_read_123 rfl rfl ?_
        refine g_iconst (q := 125) (v := nI 4) dX4_read_124 rfl (by decide) ?_
        refine k_X4_53 (q := 128) rfl (Nat.le_of_ble_eq_true rfl) (by first | assumption | rfl) dX4_read_125 rfl (c_X4_faultBy R3 (by decide) (fun J4 f4 R4 => ?_))
        have hno : thB (w3S t).2 = false := by
          cases hb : thB (w3S t).2 with
          | false => rfl
          | true => exact absurd ((thB_iff h3ok).mp hb) z117
        have e5 : w5S t = muS false 4 (w3S t).1 := by unfold w5S; rw [hno, e4]
        rw [← e5] at R4
        exact fin J4 _ (p3.tr (FrP.o f4)) R4 (fun z => by rw [e5] at z; exact absurd (muS_0 (by decide) z).2 (by decide))
  · refine g_aload_n (q := 102) dX4_read_101 rfl rfl ?_
    refine g_iconst (q := 103) (v := nI 1) dX4_read_102 rfl (by decide) ?_
    refine k_X4_53 (q := 106) rfl (Nat.le_of_ble_eq_true rfl) (by first | assumption | rfl) dX4_read_103 rfl (c_X4_faultBy R3 (by decide) (fun J4 f4 R4 => ?_))
    refine g_goto (q := 128) dX4_read_106 (by decide) ?_
    have e5 : w5S t = muS false 1 (w3S t).1 := by
      by_cases hs : (w3S t).1.1 = 0
      · have hk : ¬ kdT t (w3S t).1.2 = 0 := fun z => c98 (by rw [(R3.2.2.2.2.2 hs).2.1]; exact tkJ_0 z)
        have e4 : w4S t = muS false 1 (w3S t).1 := by unfold w4S; rw [decide_eq_false hk]
        unfold w5S
        rw [e4, show muS false 1 (w3S t).1 = (1, (w3S t).1.2) from if_pos ⟨hs, rfl⟩]
        exact muS_n Nat.one_ne_zero
      · unfold w5S w4S
        rw [muS_n hs, muS_n hs, muS_n hs]
    rw [← e5] at R4
    exact fin J4 _ (p3.tr (FrP.o f4)) R4 (fun z => by rw [e5] at z; exact absurd (muS_0 (by decide) z).2 (by decide))
set_option maxRecDepth 100000 in
set_option maxHeartbeats 400000 in
theorem c_X4_faultPlace {d k : Nat} {I : Nat → Nat → Int32} {Q : Option Int32 → Wd → Prop}  (h : Q (some (I 2 2)) (I, RR k)) : Ex d 0 0 mX4_faultPlace [.ref 2] 68 (I, RR k) 68 Q := by
  refine ex_intro (L0 := [.ref 2]) (by decide +kernel) rfl rfl (Nat.le_of_ble_eq_true rfl) rfl ?_
  refine g_aload_n (q := 1) dX4_faultPlace_0 rfl rfl ?_
  refine gf_X4_19 (q := 4) rfl (by first | assumption | rfl) dX4_faultPlace_1 rfl ?_
  refine g_iret rfl dX4_faultPlace_4 (Nat.le_refl _) (Nat.le_refl _) ?_
  exact h
theorem RepC.tape {I J : Nat → Nat → Int32} {S : Sg} {t : List Nat} (h : RepC I S) (ht : RTape J t) (e : ∀ p, p ≠ 2 → p ≠ 3 → (p < 10 ∨ 15 < p) → J p = I p) : RepC J (S.1, S.2.1, t, S.2.2.2) := by
  obtain ⟨h1, h2, h3, h4, h5, h6, h7, h8⟩ := h
  have e0 := e 0 (by decide) (by decide) (by decide)
  exact ⟨h1.eq (fun p _ _ => e p (by omega) (by omega) (by omega)), by rw [e0]; exact h2, ht, by rw [e0]; exact h4, ⟨h5.1.eq (fun i hi => e _ (by omega) (by omega) (by omega)), h5.2⟩, h6.eq (e 17 (by decide) (by decide) (by decide)) (e 18 (by decide) (by decide) (by decide)), h7.eq (fun p _ _ => e p (by omega) (by omega) (by omega)), h8.eq (e 22 (by decide) (by decide) (by decide)) (e 23 (by decide) (by decide) (by decide))⟩
theorem RepC.flt {I : Nat → Nat → Int32} {S : Sg} (h : RepC I S) {x : Nat} (hx : x < 5) : RepC (uI I 0 8 (nI x)) (S.1, S.2.1, S.2.2.1, x, S.2.2.2.2) := by
  obtain ⟨h1, h2, h3, h4, h5, h6, h7, h8⟩ := h
  have e : ∀ p, p ≠ 0 → uI I 0 8 (nI x) p = I p := fun p hp => uI_ne hp
  exact ⟨h1.eq (fun p _ _ => e p (by omega)), ⟨(uI_n2 (by decide)).trans h2.1, h2.2⟩, h3.eq (e 2 (by decide)) (e 3 (by decide)), ⟨uI_eq, hx⟩, ⟨h5.1.eq (fun i hi => e _ (by omega)), h5.2⟩, h6.eq (e 17 (by decide)) (e 18 (by decide)), h7.eq (fun p _ _ => e p (by omega)), h8.eq (e 22 (by decide)) (e 23 (by decide))⟩
set_option maxRecDepth 100000 in
set_option maxHeartbeats 400000 in
theorem c_X6_feed {d k : Nat} {I : Nat → Nat → Int32} {Q : Option Int32 → Wd → Prop} {S : Sg} {x : Int32} (hk : k = 4 ∨ k = 10) (hr : RepC I S) (h : ∀ I2 k2, RepC I2 (feedS S x).2 → FrC I I2 → (k2 = 4 ∨ k2 = 10) → Q (some (feedS S x).1) (I2, RR k2)) : Ex (d + 1) 0 0 mX6_feed [.ref 0, .int x] 68 (I, RR k) 68 Q := by
  refine ex_intro (L0 := [.ref 0, .int x]) (by decide +kernel) rfl rfl (Nat.le_of_ble_eq_true rfl) rfl ?_
  refine g_iload_n (q := 1) dX6_feed_0 rfl rfl ?_
  refine g_iconst (q := 2) (v := nI 0) dX6_feed_1 rfl (by decide) ?_
  refine g_sipush (q := 5) (v := nI 255) dX6_feed_2 rfl (by decide) ?_
  refine k_X6_71 (q := 8) rfl (Nat.le_of_ble_eq_true rfl) dX6_feed_5 rfl (c_X6_isWithin (fun z51 z52 => ?_) (fun z5 => ?_))
  · have z5 := And.intro z51 z52
    refine g_if_ne (tgt := 14) (q := 11) dX6_feed_8 (by decide) rfl (fun _ => ?_) (fun c8 => absurd c8 (by decide))
    have y5 := z5
    obtain ⟨x, hx, rfl⟩ := inR_nat (by decide) z5
    rw [feedS, if_pos y5, nI_clamp (by omega)] at h
    refine g_aload_n (q := 15) dX6_feed_14 rfl rfl ?_
    refine gf_X6_18 (q := 18) rfl (by first | assumption | rfl) (by first | assumption | rfl) dX6_feed_15 rfl ?_
    refine g_iload_n (q := 19) dX6_feed_18 rfl rfl ?_
    refine k_X6_113 (q := 22) rfl (Nat.le_of_ble_eq_true rfl) (by first | assumption | rfl) dX6_feed_19 rfl (c_X4_add hr.2.2.1 (by omega) (fun y1 J y2 y3 => ?_) (fun y1 => ?_))
    · rw [if_pos y1] at h
      refine g_if_eq (tgt := 35) (q := 25) dX6_feed_22 (by decide) rfl (fun c22 => absurd c22 (by decide)) (fun _ => ?_)
      refine g_aload_n (q := 26) dX6_feed_25 rfl rfl ?_
      refine gf_X6_18 (q := 29) rfl (by first | assumption | rfl) (by first | assumption | rfl) dX6_feed_26 rfl ?_
      refine k_X6_116 (q := 32) rfl (Nat.le_of_ble_eq_true rfl) (by first | assumption | rfl) dX6_feed_29 rfl (c_X4_size ?_)
      rw [y3.1, List.length_append]
      refine g_goto (q := 37) dX6_feed_32 (by decide) ?_
      refine g_iret rfl dX6_feed_37 (Nat.le_refl _) (Nat.le_refl _) ?_
      exact h J k (hr.tape y3 (fun p a b _ => y2 p (by simp [a, b]))) (fun p hp => y2 p (by simp; omega)) hk
    · rw [if_neg y1] at h
      refine g_if_eq (tgt := 35) (q := 25) dX6_feed_22 (by decide) rfl (fun _ => ?_) (fun c22 => absurd c22 (by decide))
      refine lc_X6_117 (q := 37) rfl dX6_feed_35 rfl ?_
      refine g_iret rfl dX6_feed_37 (Nat.le_refl _) (Nat.le_refl _) ?_
      exact h I k hr FrC.rf hk
  · refine g_if_ne (tgt := 14) (q := 11) dX6_feed_8 (by decide) rfl (fun c8 => absurd c8 (by decide)) (fun _ => ?_)
    refine lc_X6_75 (q := 13) rfl dX6_feed_11 rfl ?_
    refine g_iret rfl dX6_feed_13 (Nat.le_refl _) (Nat.le_refl _) ?_
    rw [feedS, if_neg z5] at h
    exact h I k hr FrC.rf hk
set_option maxRecDepth 100000 in
set_option maxHeartbeats 400000 in
theorem c_X6_weave {d k : Nat} {I : Nat → Nat → Int32} {Q : Option Int32 → Wd → Prop} {S : Sg} (hk : k = 4 ∨ k = 10) (hr : RepC I S) (h : ∀ I2 k2, RepC I2 (weaveS S).2 → FrC I I2 → (k2 = 4 ∨ k2 = 10) → Q (some (weaveS S).1) (I2, RR k2)) : Ex (d + 9) 0 0 mX6_weave [.ref 0] 68 (I, RR k) 68 Q := by
  refine ex_intro (L0 := [.ref 0, .null]) (by decide +kernel) rfl rfl (Nat.le_of_ble_eq_true rfl) rfl ?_
  refine g_aload_n (q := 1) dX6_weave_0 rfl rfl ?_
  refine gf_X6_18 (q := 4) rfl (by first | assumption | rfl) (by first | assumption | rfl) dX6_weave_1 rfl ?_
  refine g_aload_n (q := 5) dX6_weave_4 rfl rfl ?_
  refine gf_X6_29 (q := 8) rfl (by first | assumption | rfl) (by first | assumption | rfl) dX6_weave_5 rfl ?_
  refine k_X6_118 (q := 11) rfl (Nat.le_of_ble_eq_true rfl) (by first | assumption | rfl) dX6_weave_8 rfl (c_X4_read hr.2.2.1 (fun J f0 t0 s0 l0 c0 => ?_))
  have hr0 := hr.tape t0 (fun p a b c => f0 p a c)
  have fc0 : FrC I J := fun p hp => f0 p (by omega) (by omega)
  refine g_istore_n (q := 12) dX6_weave_11 rfl (by decide) rfl rfl ?_
  refine g_iload_n (q := 13) dX6_weave_12 rfl rfl ?_
  refine g_if_eq (tgt := 32) (q := 16) dX6_weave_13 (by decide) rfl (fun c13 => ?_) (fun c13 => ?_)
  · have hz : (w5S S.2.2.1).1 = 0 := (nI_eq (b := 0) (by omega) (by decide)).mp c13
    have hV : VOk (w3S S.2.2.1).2 := (w3S_ok _).ok (muS_0 (by decide) hz).2
    refine g_aload_n (q := 33) dX6_weave_32 rfl rfl ?_
    refine gf_X6_25 (q := 36) rfl (by first | assumption | rfl) (by first | assumption | rfl) dX6_weave_33 rfl ?_
    refine g_aload_n (q := 37) dX6_weave_36 rfl rfl ?_
    refine gf_X6_29 (q := 40) rfl (by first | assumption | rfl) (by first | assumption | rfl) dX6_weave_37 rfl ?_
    refine k_X6_126 (q := 43) rfl (Nat.le_of_ble_eq_true rfl) (by first | assumption | rfl) dX6_weave_40 rfl (c_X5_take (wv4 k) (wv10 k) (by omega) ?_)
    refine g_aload_n (q := 44) dX6_weave_43 rfl rfl ?_
    refine gf_X6_39 (q := 47) rfl (by first | assumption | rfl) (by first | assumption | rfl) dX6_weave_44 rfl ?_
    refine k_X6_128 (q := 50) rfl (Nat.le_of_ble_eq_true rfl) (by first | assumption | rfl) dX6_weave_47 rfl (c_X0_forget ?_)
    refine g_aload_n (q := 51) dX6_weave_50 rfl rfl ?_
    refine gf_X6_25 (q := 54) rfl (by first | assumption | rfl) (by first | assumption | rfl) dX6_weave_51 rfl ?_
    refine k_X6_131 (q := 57) rfl (Nat.le_of_ble_eq_true rfl) (by first | assumption | rfl) dX6_weave_54 rfl (c_X5_methods (wv4 k) ?_)
    rw [uI_ne (by decide), (CRep_tkI (c0 hz) hV (by omega)).1]
    refine g_iret rfl dX6_weave_57 (Nat.le_refl _) (Nat.le_refl _) ?_
    rw [weaveS, if_pos hz] at h
    have ne : ∀ p, p < 4 ∨ 10 ≤ p → p ≠ 17 → uI (tkI J 4 10) 17 1 (nI 0) p = J p := fun p hp h7 => (uI_ne h7).trans (tkI_ne (by omega))
    refine h _ k (RepC.wv hr0 ⟨(CRep_tkI (c0 hz) hV (by omega)).eq (fun i hi => uI_ne (by omega)), hV⟩ ⟨uI_eq, by simp, rfl⟩ (fun p hp => ne p (by omega) (by omega))) (fc0.tr (fun p hp => ne p (by omega) (by omega))) hk
  · refine g_aload_n (q := 17) dX6_weave_16 rfl rfl ?_
    refine g_iload_n (q := 18) dX6_weave_17 rfl rfl ?_
    refine pf_X6_59 (q := 21) rfl (by first | assumption | rfl) dX6_weave_18 rfl ?_
    refine lc_X6_122 (q := 23) rfl dX6_weave_21 rfl ?_
    refine g_aload_n (q := 24) dX6_weave_23 rfl rfl ?_
    refine gf_X6_18 (q := 27) rfl (by first | assumption | rfl) (by first | assumption | rfl) dX6_weave_24 rfl ?_
    refine k_X6_123 (q := 30) rfl (Nat.le_of_ble_eq_true rfl) (by first | assumption | rfl) dX6_weave_27 rfl (c_X4_faultPlace ?_)
    rw [uI_ne (by decide), s0]
    refine g_isub (q := 31) dX6_weave_30 rfl ?_
    refine g_iret rfl dX6_weave_31 (Nat.le_refl _) (Nat.le_refl _) ?_
    have hz : ¬ (w5S S.2.2.1).1 = 0 := fun z => c13 (by rw [z]; rfl)
    rw [weaveS, if_neg hz] at h
    exact h _ k (hr0.flt l0) (fc0.tr (FrC.ui (by decide))) hk
