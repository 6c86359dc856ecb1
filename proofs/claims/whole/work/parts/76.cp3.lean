set_option maxRecDepth 100000 in
set_option maxHeartbeats 400000 in
theorem l_rms {d k : Nat} {I : Nat → Nat → Int32} {Q : Option Int32 → Wd → Prop} {t : List Nat} {fin : Ps × Vv} (hfin : ∀ (J : Nat → Nat → Int32) (fz : Value), FrP I J → RC J t fin.1 → (fin.1.1 = 0 → CRep J 10 fin.2) → G mX4_read (rmd (d + 8) 0 0) (Zm Q 68 68 0 0) 68 57 [.ref 2, .ref 10, fz] [] 68 (J, RR k) 0 0) : ∀ (n i : Nat) (W : Nat → Nat → Int32) (s : Ps) (v : Vv), i + n = 7 → 0 < i → msS t n s v = fin → FrP I W → RC W t s → VOk0 v → (s.1 = 0 → CRep W 10 v) → G mX4_read (rmd (d + 8) 0 0) (Zm Q 68 68 0 0) 68 20 [.ref 2, .ref 10, .int (nI i)] [] 68 (W, RR k) 0 0 := by
  intro n
  induction n with
  | zero =>
    intro i W s v hi hi0 hf hF hR hv hC
    subst hf
    refine g_iload_n (q := 21) dX4_read_20 rfl rfl ?_
    refine g_bipush (q := 23) (v := nI 6) dX4_read_21 rfl (by decide) ?_
    refine g_icmp_gt (tgt := 57) (q := 26) dX4_read_23 (by decide) rfl (fun _ => ?_) (fun c23 => absurd (nI_lt (by omega) (by omega)) c23)
    exact hfin W _ hF hR hC
  | succ n ih =>
    intro i W s v hi hi0 hf hF hR hv hC
    obtain ⟨r1, r2, r3, r4, r5, r6⟩ := id hR
    have h130 := r1.2.1
    have hb := r1.b s.2
    refine g_iload_n (q := 21) dX4_read_20 rfl rfl ?_
    refine g_bipush (q := 23) (v := nI 6) dX4_read_21 rfl (by decide) ?_
    refine g_icmp_gt (tgt := 57) (q := 26) dX4_read_23 (by decide) rfl (fun c23 => absurd c23 (nI_nlt (by omega) (by omega))) (fun _ => ?_)
    refine g_aload_n (q := 27) dX4_read_26 rfl rfl ?_
    refine gf_X4_31 (q := 30) rfl (by first | assumption | rfl) dX4_read_27 rfl ?_
    rw [r3]
    refine g_if_ne (tgt := 57) (q := 33) dX4_read_30 (by decide) rfl (fun c30 => ?_) (fun c30 => ?_)
    · have hs : ¬ s.1 = 0 := fun z => c30 (by rw [z]; rfl)
      rw [msS_n (fun z => hs z.1)] at hf
      subst hf
      exact hfin W _ hF hR hC
    · have hs : s.1 = 0 := (nI_eq (b := 0) (by omega) (by omega)).mp c30
      obtain ⟨q1, q2, q3⟩ := r6 hs
      refine g_iload_n (q := 34) dX4_read_33 rfl rfl ?_
      refine g_if_eq (tgt := 46) (q := 37) dX4_read_34 (by decide) rfl (fun c34 => absurd c34 (nI_ne0 (by omega) (by omega))) (fun _ => ?_)
      refine g_aload_n (q := 38) dX4_read_37 rfl rfl ?_
      refine gf_X4_25 (q := 41) rfl (by first | assumption | rfl) dX4_read_38 rfl ?_
      rw [q2]
      refine g_bipush (q := 43) (v := nI 109) dX4_read_41 rfl (by decide) ?_
      refine g_icmp_ne (tgt := 57) (q := 46) dX4_read_43 (by decide) rfl (fun c43 => ?_) (fun c43 => ?_)
      · rw [msS_n (fun z => c43 ((tkJ_chr hb (by decide)).mpr z.2))] at hf
        subst hf
        exact hfin W _ hF hR hC
      · refine g_aload_n (q := 47) dX4_read_46 rfl rfl ?_
        refine g_aload_n (q := 48) dX4_read_47 rfl rfl ?_
        refine k_X4_42 (q := 51) rfl (Nat.le_of_ble_eq_true rfl) (by first | assumption | rfl) dX4_read_48 rfl (c_X4_readMethod hR hs (hC hs) hv (fun y1 J y2 y3 y4 => ?_) (fun y1 => absurd ((tkJ_chr hb (by decide)).mp c43) y1))
        refine g_iincn (q := 54) dX4_read_51 rfl rfl (by decide) rfl rfl ?_
        refine g_goto (q := 20) dX4_read_54 (by decide) ?_
        refine ih (i + 1) J _ (mvS t s v) (by omega) (by omega) ?_ (hF.tr y2) y3 (mvS_ok hv) y4
        rw [← hf, msS, if_pos ⟨hs, y1⟩]
set_option maxRecDepth 100000 in
set_option maxHeartbeats 400000 in
theorem l_rms0 {d k : Nat} {I : Nat → Nat → Int32} {Q : Option Int32 → Wd → Prop} {t : List Nat} (hR : RC I t (0, 0)) (hC : CRep I 10 v0) (h : ∀ (J : Nat → Nat → Int32) (fz : Value), FrP I J → RC J t (w2S t) → ((w2S t).1 = 0 → CRep J 10 (w1S t).2) → G mX4_read (rmd (d + 8) 0 0) (Zm Q 68 68 0 0) 68 57 [.ref 2, .ref 10, fz] [] 68 (J, RR k) 0 0) : G mX4_read (rmd (d + 8) 0 0) (Zm Q 68 68 0 0) 68 20 [.ref 2, .ref 10, .int (nI 0)] [] 68 (I, RR k) 0 0 := by
  obtain ⟨r1, r2, r3, r4, r5, r6⟩ := id hR
  have hb := r1.b 0
  refine g_iload_n (q := 21) dX4_read_20 rfl rfl ?_
  refine g_bipush (q := 23) (v := nI 6) dX4_read_21 rfl (by decide) ?_
  refine g_icmp_gt (tgt := 57) (q := 26) dX4_read_23 (by decide) rfl (fun c23 => absurd c23 (by decide)) (fun _ => ?_)
  refine g_aload_n (q := 27) dX4_read_26 rfl rfl ?_
  refine gf_X4_31 (q := 30) rfl (by first | assumption | rfl) dX4_read_27 rfl ?_
  rw [r3]
  refine g_if_ne (tgt := 57) (q := 33) dX4_read_30 (by decide) rfl (fun c30 => absurd c30 (by show ¬ ¬ nI 0 = 0; decide)) (fun _ => ?_)
  refine g_iload_n (q := 34) dX4_read_33 rfl rfl ?_
  refine g_if_eq (tgt := 46) (q := 37) dX4_read_34 (by decide) rfl (fun _ => ?_) (fun c34 => absurd c34 (by decide))
  refine g_aload_n (q := 47) dX4_read_46 rfl rfl ?_
  refine g_aload_n (q := 48) dX4_read_47 rfl rfl ?_
  refine k_X4_42 (q := 51) rfl (Nat.le_of_ble_eq_true rfl) (by first | assumption | rfl) dX4_read_48 rfl (c_X4_readMethod hR rfl hC v0_ok (fun y1 J y2 y3 y4 => ?_) (fun y1 J y2 y3 => ?_))
  · have e1 : w1S t = msS t 6 (m4S t (vnm v0) (0, 0)) (mvS t (0, 0) v0) := by unfold w1S; rw [msS, if_pos ⟨rfl, y1⟩]
    refine g_iincn (q := 54) dX4_read_51 rfl rfl (by decide) rfl rfl ?_
    refine g_goto (q := 20) dX4_read_54 (by decide) ?_
    refine l_rms (fin := w1S t) (fun J2 fz z1 z2 z3 => ?_) 6 1 J _ _ rfl (by decide) e1.symm y2 y3 (mvS_ok v0_ok) y4
    have e2 : w2S t = (w1S t).1 := by
      unfold w2S
      by_cases h0 : (w1S t).1.1 = 0
      · have h1 : 0 < vnm (w1S t).2 := by
          rw [e1] at h0 ⊢
          have h2 := msS_0 _ _ _ h0
          refine Nat.lt_of_lt_of_le ?_ (msS_up 6 _ _)
          unfold mvS
          rw [if_pos h2]
          show 0 < vnm v0 + 1
          omega
        unfold muS
        rw [decide_eq_true h1, if_neg (fun z => by cases z.2)]
      · exact muS_n h0
    rw [e2] at h
    exact h J2 fz z1 z2 z3
  · have e1 : w1S t = ((0, 0), v0) := by unfold w1S; exact msS_n (fun z => y1 z.2)
    have e2 : w2S t = (1, 0) := by unfold w2S muS; rw [e1]; rfl
    refine g_iincn (q := 54) dX4_read_51 rfl rfl (by decide) rfl rfl ?_
    refine g_goto (q := 20) dX4_read_54 (by decide) ?_
    rw [e2] at h
    obtain ⟨b1, b2, b3, b4, b5, b6⟩ := id y3
    refine g_iload_n (q := 21) dX4_read_20 rfl rfl ?_
    refine g_bipush (q := 23) (v := nI 6) dX4_read_21 rfl (by decide) ?_
    refine g_icmp_gt (tgt := 57) (q := 26) dX4_read_23 (by decide) rfl (fun c23 => absurd c23 (by decide)) (fun _ => ?_)
    refine g_aload_n (q := 27) dX4_read_26 rfl rfl ?_
    refine gf_X4_31 (q := 30) rfl (by first | assumption | rfl) dX4_read_27 rfl ?_
    rw [b3]
    refine g_if_ne (tgt := 57) (q := 33) dX4_read_30 (by decide) rfl (fun _ => ?_) (fun c30 => absurd c30 (show ¬ nI 1 = 0 by decide))
    exact h J _ y2 y3 (fun z => absurd z Nat.one_ne_zero)
set_option maxRecDepth 100000 in
set_option maxHeartbeats 400000 in
theorem c_X4_readAdvice {d k : Nat} {I : Nat → Nat → Int32} {Q : Option Int32 → Wd → Prop} {t : List Nat} {s : Ps} {v : Vv} (hR : RC I t s) (hs : s.1 = 0) (hC : CRep I 10 v) (hv : VOk0 v) (h : ∀ J, FrP I J → RC J t (a6S t (vna v) s) → ((a6S t (vna v) s).1 = 0 → CRep J 10 (avS t s v)) → Q none (J, RR k)) : Ex (d + 5) 0 0 mX4_readAdvice [.ref 2, .ref 10] 68 (I, RR k) 68 Q := by
  obtain ⟨r1, r2, r3, r4, r5, r6⟩ := id hR
  have h130 := r1.2.1
  have hb := r1.b s.2
  have hnx := nxt_le r5
  obtain ⟨q1, q2, q3⟩ := r6 hs
  have hn5 := hv.2.1
  have hW := wv10 k
  refine ex_intro (L0 := [.ref 2, .ref 10, .null]) (by decide +kernel) rfl rfl (Nat.le_of_ble_eq_true rfl) rfl ?_
  refine g_aload_n (q := 1) dX4_readAdvice_0 rfl rfl ?_
  refine k_X4_86 (q := 4) rfl (Nat.le_of_ble_eq_true rfl) (by first | assumption | rfl) dX4_readAdvice_1 rfl (c_X5_adviceCount hW ?_)
  rw [hC.2.1]
  refine g_iconst (q := 5) (v := nI 5) dX4_readAdvice_4 rfl (by decide) ?_
  refine g_icmp_lt (tgt := 14) (q := 8) dX4_readAdvice_5 (by decide) rfl (fun c5 => ?_) (fun c5 => ?_)
  · have hn : vna v < 5 := (nI_ltI (by omega) (by omega)).mp c5
    refine g_aload_n (q := 15) dX4_readAdvice_14 rfl rfl ?_
    refine g_aload_n (q := 16) dX4_readAdvice_15 rfl rfl ?_
    refine gf_X4_25 (q := 19) rfl (by first | assumption | rfl) dX4_readAdvice_16 rfl ?_
    rw [q2]
    refine k_X4_46 (q := 22) rfl (Nat.le_of_ble_eq_true rfl) dX4_readAdvice_19 rfl (c_X4_kindOf ?_)
    rw [kdI_t hb]
    refine k_X4_89 (q := 25) rfl (Nat.le_of_ble_eq_true rfl) (by first | assumption | rfl) dX4_readAdvice_22 rfl (c_addAdvice hC hn (fun J0 f0 a0 => ?_))
    have p0 : FrP I J0 := f0.p
    have R0 := hR.f10 f0
    obtain ⟨s1, s2, s3, s4, s5, s6⟩ := id R0
    have e0 : a0S t (vna v) s = (0, nxt t s.2) := by unfold a0S tkS; rw [if_pos hs, if_pos (decide_eq_true hn)]
    refine g_istore_n (q := 26) dX4_readAdvice_25 rfl (by decide) rfl rfl ?_
    refine g_aload_n (q := 27) dX4_readAdvice_26 rfl rfl ?_
    refine k_X4_39 (q := 30) rfl (Nat.le_of_ble_eq_true rfl) (by first | assumption | rfl) dX4_readAdvice_27 rfl (c_X4_step s1 hnx (s6 hs).1 (by rw [s3, hs]) (fun J1 f1 R1 => ?_))
    rw [← e0] at R1
    have A1 := a0.f2 f1
    have p1 := p0.tr (FrP.o f1)
    refine g_aload_n (q := 31) dX4_readAdvice_30 rfl rfl ?_
    refine g_iload_n (q := 32) dX4_readAdvice_31 rfl rfl ?_
    refine g_iconst (q := 33) (v := nI 0) dX4_readAdvice_32 rfl (by decide) ?_
    refine g_aload_n (q := 34) dX4_readAdvice_33 rfl rfl ?_
    refine g_iconst (q := 35) (v := nI 1) dX4_readAdvice_34 rfl (by decide) ?_
    refine g_bipush (q := 37) (v := nI 99) dX4_readAdvice_35 rfl (by decide) ?_
    refine k_X4_65 (q := 40) rfl (Nat.le_of_ble_eq_true rfl) (by first | assumption | rfl) dX4_readAdvice_37 rfl (c_X4_readNumber R1 (by decide) (by decide) (fun J2 x0 f2 R2 l0 u0 e0_ => ?_))
    have A2 := A1.f2 f2
    have p2 := p1.tr (FrP.o f2)
    refine k_X4_92 (q := 43) rfl (Nat.le_of_ble_eq_true rfl) (by first | assumption | rfl) dX4_readAdvice_40 rfl (c_X5_putFact hW hn (by decide) ?_)
    have A3 := A2.put (j := 0) (y := x0) (by decide)
    have p3 := p2.tr (FrP.u (p := 15) (j := vna v * 6 + 0) (x := nI x0) (by decide) (by decide))
    have R3 : RC (uI J2 15 (vna v * 6 + 0) (nI x0)) t _ := R2.f10 (Fr10.u (by decide) (by decide))
    refine g_aload_n (q := 44) dX4_readAdvice_43 rfl rfl ?_
    refine g_bipush (q := 46) (v := nI 44) dX4_readAdvice_44 rfl (by decide) ?_
    refine k_X4_76 (q := 49) rfl (Nat.le_of_ble_eq_true rfl) (by first | assumption | rfl) dX4_readAdvice_46 rfl (c_X4_skip R3 (by decide) (fun J4 f4 R4 => ?_))
    have A4 := A3.f2 f4
    have p4 := p3.tr (FrP.o f4)
    refine g_aload_n (q := 50) dX4_readAdvice_49 rfl rfl ?_
    refine g_iload_n (q := 51) dX4_readAdvice_50 rfl rfl ?_
    refine g_iconst (q := 52) (v := nI 1) dX4_readAdvice_51 rfl (by decide) ?_
    refine g_aload_n (q := 53) dX4_readAdvice_52 rfl rfl ?_
    refine g_iconst (q := 54) (v := nI 0) dX4_readAdvice_53 rfl (by decide) ?_
    refine g_iconst (q := 55) (v := nI 4) dX4_readAdvice_54 rfl (by decide) ?_
    refine k_X4_65 (q := 58) rfl (Nat.le_of_ble_eq_true rfl) (by first | assumption | rfl) dX4_readAdvice_55 rfl (c_X4_readNumber R4 (by decide) (by decide) (fun J5 x1 f5 R5 l1 u1 e1_ => ?_))
    have A5 := A4.f2 f5
    have p5 := p4.tr (FrP.o f5)
    refine k_X4_92 (q := 61) rfl (Nat.le_of_ble_eq_true rfl) (by first | assumption | rfl) dX4_readAdvice_58 rfl (c_X5_putFact hW hn (by decide) ?_)
    have A6 := A5.put (j := 1) (y := x1) (by decide)
    have p6 := p5.tr (FrP.u (p := 15) (j := vna v * 6 + 1) (x := nI x1) (by decide) (by decide))
    have R6 : RC (uI J5 15 (vna v * 6 + 1) (nI x1)) t _ := R5.f10 (Fr10.u (by decide) (by decide))
    refine g_aload_n (q := 62) dX4_readAdvice_61 rfl rfl ?_
    refine g_bipush (q := 64) (v := nI 44) dX4_readAdvice_62 rfl (by decide) ?_
    refine k_X4_76 (q := 67) rfl (Nat.le_of_ble_eq_true rfl) (by first | assumption | rfl) dX4_readAdvice_64 rfl (c_X4_skip R6 (by decide) (fun J7 f7 R7 => ?_))
    have A7 := A6.f2 f7
    have p7 := p6.tr (FrP.o f7)
    refine g_aload_n (q := 68) dX4_readAdvice_67 rfl rfl ?_
    refine g_iload_n (q := 69) dX4_readAdvice_68 rfl rfl ?_
    refine g_iconst (q := 70) (v := nI 2) dX4_readAdvice_69 rfl (by decide) ?_
    refine g_aload_n (q := 71) dX4_readAdvice_70 rfl rfl ?_
    refine g_iconst (q := 72) (v := nI 0) dX4_readAdvice_71 rfl (by decide) ?_
    refine g_bipush (q := 74) (v := nI 6) dX4_readAdvice_72 rfl (by decide) ?_
    refine k_X4_65 (q := 77) rfl (Nat.le_of_ble_eq_true rfl) (by first | assumption | rfl) dX4_readAdvice_74 rfl (c_X4_readNumber R7 (by decide) (by decide) (fun J8 x2 f8 R8 l2 u2 e2_ => ?_))
    have A8 := A7.f2 f8
    have p8 := p7.tr (FrP.o f8)
    refine k_X4_92 (q := 80) rfl (Nat.le_of_ble_eq_true rfl) (by first | assumption | rfl) dX4_readAdvice_77 rfl (c_X5_putFact hW hn (by decide) ?_)
    have A9 := A8.put (j := 2) (y := x2) (by decide)
    have p9 := p8.tr (FrP.u (p := 15) (j := vna v * 6 + 2) (x := nI x2) (by decide) (by decide))
    have R9 : RC (uI J8 15 (vna v * 6 + 2) (nI x2)) t _ := R8.f10 (Fr10.u (by decide) (by decide))
    refine g_aload_n (q := 81) dX4_readAdvice_80 rfl rfl ?_
    refine g_bipush (q := 83) (v := nI 44) dX4_readAdvice_81 rfl (by decide) ?_
    refine k_X4_76 (q := 86) rfl (Nat.le_of_ble_eq_true rfl) (by first | assumption | rfl) dX4_readAdvice_83 rfl (c_X4_skip R9 (by decide) (fun J10 f10 R10 => ?_))
    have A10 := A9.f2 f10
    have p10 := p9.tr (FrP.o f10)
    refine g_aload_n (q := 87) dX4_readAdvice_86 rfl rfl ?_
    refine g_iload_n (q := 88) dX4_readAdvice_87 rfl rfl ?_
    refine g_iconst (q := 89) (v := nI 3) dX4_readAdvice_88 rfl (by decide) ?_
    refine g_aload_n (q := 90) dX4_readAdvice_89 rfl rfl ?_
    refine g_iconst (q := 91) (v := nI 0) dX4_readAdvice_90 rfl (by decide) ?_
    refine g_bipush (q := 93) (v := nI 10) dX4_readAdvice_91 rfl (by decide) ?_
    refine k_X4_65 (q := 96) rfl (Nat.le_of_ble_eq_true rfl) (by first | assumption | rfl) dX4_readAdvice_93 rfl (c_X4_readNumber R10 (by decide) (by decide) (fun J11 x3 f11 R11 l3 u3 e3_ => ?_))
    have A11 := A10.f2 f11
    have p11 := p10.tr (FrP.o f11)
    refine k_X4_92 (q := 99) rfl (Nat.le_of_ble_eq_true rfl) (by first | assumption | rfl) dX4_readAdvice_96 rfl (c_X5_putFact hW hn (by decide) ?_)
    have A12 := A11.put (j := 3) (y := x3) (by decide)
    have p12 := p11.tr (FrP.u (p := 15) (j := vna v * 6 + 3) (x := nI x3) (by decide) (by decide))
    have R12 : RC (uI J11 15 (vna v * 6 + 3) (nI x3)) t _ := R11.f10 (Fr10.u (by decide) (by decide))
    refine g_aload_n (q := 100) dX4_readAdvice_99 rfl rfl ?_
    refine g_bipush (q := 102) (v := nI 44) dX4_readAdvice_100 rfl (by decide) ?_
    refine k_X4_76 (q := 105) rfl (Nat.le_of_ble_eq_true rfl) (by first | assumption | rfl) dX4_readAdvice_102 rfl (c_X4_skip R12 (by decide) (fun J13 f13 R13 => ?_))
    have A13 := A12.f2 f13
    have p13 := p12.tr (FrP.o f13)
    refine g_aload_n (q := 106) dX4_readAdvice_105 rfl rfl ?_
    refine g_iload_n (q := 107) dX4_readAdvice_106 rfl rfl ?_
    refine g_iconst (q := 108) (v := nI 4) dX4_readAdvice_107 rfl (by decide) ?_
    refine g_aload_n (q := 109) dX4_readAdvice_108 rfl rfl ?_
    refine g_iconst (q := 110) (v := nI 0) dX4_readAdvice_109 rfl (by decide) ?_
    refine g_bipush (q := 112) (v := nI 6) dX4_readAdvice_110 rfl (by decide) ?_
    refine k_X4_65 (q := 115) rfl (Nat.le_of_ble_eq_true rfl) (by first | assumption | rfl) dX4_readAdvice_112 rfl (c_X4_readNumber R13 (by decide) (by decide) (fun J14 x4 f14 R14 l4 u4 e4_ => ?_))
    have A14 := A13.f2 f14
    have p14 := p13.tr (FrP.o f14)
    refine k_X4_92 (q := 118) rfl (Nat.le_of_ble_eq_true rfl) (by first | assumption | rfl) dX4_readAdvice_115 rfl (c_X5_putFact hW hn (by decide) ?_)
    have A15 := A14.put (j := 4) (y := x4) (by decide)
    have p15 := p14.tr (FrP.u (p := 15) (j := vna v * 6 + 4) (x := nI x4) (by decide) (by decide))
    have R15 : RC (uI J14 15 (vna v * 6 + 4) (nI x4)) t _ := R14.f10 (Fr10.u (by decide) (by decide))
    refine g_aload_n (q := 119) dX4_readAdvice_118 rfl rfl ?_
    refine g_bipush (q := 121) (v := nI 59) dX4_readAdvice_119 rfl (by decide) ?_
    refine k_X4_76 (q := 124) rfl (Nat.le_of_ble_eq_true rfl) (by first | assumption | rfl) dX4_readAdvice_121 rfl (c_X4_skip R15 (by decide) (fun J16 f16 R16 => ?_))
    have A16 := A15.f2 f16
    have p16 := p15.tr (FrP.o f16)
    refine g_vret rfl dX4_readAdvice_124 (Nat.le_refl _) (Nat.le_refl _) ?_
    refine h J16 p16 R16 (fun z => ?_)
    unfold avS
    rw [if_pos z]
    have z5 : (a5S t (vna v) s).1 = 0 := (tkS_0 (by decide) z).1
    have z4 : (a4S t (vna v) s).1 = 0 := (tkS_0 (by decide) (nmS_0 z5).1).1
    have z3 : (a3S t (vna v) s).1 = 0 := (tkS_0 (by decide) (nmS_0 z4).1).1
    have z2 : (a2S t (vna v) s).1 = 0 := (tkS_0 (by decide) (nmS_0 z3).1).1
    have z1 : (a1S t (vna v) s).1 = 0 := (tkS_0 (by decide) (nmS_0 z2).1).1
    refine A16.fin (fun f hf => ?_)
    have hf6 : f = 0 ∨ f = 1 ∨ f = 2 ∨ f = 3 ∨ f = 4 ∨ f = 5 := by omega
    rcases hf6 with rfl | rfl | rfl | rfl | rfl | rfl
    · exact e0_ z1
    · exact e1_ z2
    · exact e2_ z3
    · exact e3_ z4
    · exact e4_ z5
    · rfl
  · refine g_aload_n (q := 9) dX4_readAdvice_8 rfl rfl ?_
    refine g_iconst (q := 10) (v := nI 3) dX4_readAdvice_9 rfl (by decide) ?_
    refine k_X4_53 (q := 13) rfl (Nat.le_of_ble_eq_true rfl) (by first | assumption | rfl) dX4_readAdvice_10 rfl (c_X4_faultBy hR (by decide) (fun J g1 g2 => ?_))
    refine g_vret rfl dX4_readAdvice_13 (Nat.le_refl _) (Nat.le_refl _) ?_
    rw [show muS false 3 s = (3, s.2) from if_pos ⟨hs, rfl⟩] at g2
    have hn : ¬ vna v < 5 := fun z => c5 (nI_lt z (by omega))
    have n3 : ¬ ((3, s.2) : Ps).1 = 0 := by show ¬ (3 : Nat) = 0; decide
    have e0 : a0S t (vna v) s = (3, s.2) := by unfold a0S tkS; rw [if_pos hs, if_neg (by simp [hn])]
    have e1 : a1S t (vna v) s = (3, s.2) := by unfold a1S; rw [e0, nmS_n n3]
    have e2 : a2S t (vna v) s = (3, s.2) := by unfold a2S bhS; rw [e1, tkS_n n3, nmS_n n3]
    have e3 : a3S t (vna v) s = (3, s.2) := by unfold a3S bhS; rw [e2, tkS_n n3, nmS_n n3]
    have e4 : a4S t (vna v) s = (3, s.2) := by unfold a4S bhS; rw [e3, tkS_n n3, nmS_n n3]
    have e5 : a5S t (vna v) s = (3, s.2) := by unfold a5S bhS; rw [e4, tkS_n n3, nmS_n n3]
    have e6 : a6S t (vna v) s = (3, s.2) := by unfold a6S; rw [e5, tkS_n n3]
    refine h J (FrP.o g1) (by rw [e6]; exact g2) (fun z => ?_)
    rw [e6] at z
    exact absurd z n3
set_option maxRecDepth 100000 in
set_option maxHeartbeats 400000 in
theorem l_raa {d k : Nat} {I : Nat → Nat → Int32} {Q : Option Int32 → Wd → Prop} {t : List Nat} {fin : Ps × Vv} (hfin : ∀ (J : Nat → Nat → Int32) (fz : Value), FrP I J → RC J t fin.1 → (fin.1.1 = 0 → CRep J 10 fin.2) → G mX4_read (rmd (d + 8) 0 0) (Zm Q 68 68 0 0) 68 92 [.ref 2, .ref 10, fz] [] 68 (J, RR k) 0 0) : ∀ (n i : Nat) (W : Nat → Nat → Int32) (s : Ps) (v : Vv), i + n = 6 → asS_ t n s v = fin → FrP I W → RC W t s → VOk0 v → (s.1 = 0 → CRep W 10 v) → G mX4_read (rmd (d + 8) 0 0) (Zm Q 68 68 0 0) 68 59 [.ref 2, .ref 10, .int (nI i)] [] 68 (W, RR k) 0 0 := by
  intro n
  induction n with
  | zero =>
    intro i W s v hi hf hF hR hv hC
    subst hf
    refine g_iload_n (q := 60) dX4_read_59 rfl rfl ?_
    refine g_iconst (q := 61) (v := nI 5) dX4_read_60 rfl (by decide) ?_
    refine g_icmp_gt (tgt := 92) (q := 64) dX4_read_61 (by decide) rfl (fun _ => ?_) (fun c61 => absurd (nI_lt (by omega) (by omega)) c61)
    exact hfin W _ hF hR hC
  | succ n ih =>
    intro i W s v hi hf hF hR hv hC
    obtain ⟨r1, r2, r3, r4, r5, r6⟩ := id hR
    have h130 := r1.2.1
    have hb := r1.b s.2
    have hk6 := kdN_lt t s.2
    refine g_iload_n (q := 60) dX4_read_59 rfl rfl ?_
    refine g_iconst (q := 61) (v := nI 5) dX4_read_60 rfl (by decide) ?_
    refine g_icmp_gt (tgt := 92) (q := 64) dX4_read_61 (by decide) rfl (fun c61 => absurd c61 (nI_nlt (by omega) (by omega))) (fun _ => ?_)
    refine g_aload_n (q := 65) dX4_read_64 rfl rfl ?_
    refine gf_X4_31 (q := 68) rfl (by first | assumption | rfl) dX4_read_65 rfl ?_
    rw [r3]
    refine g_if_ne (tgt := 92) (q := 71) dX4_read_68 (by decide) rfl (fun c68 => ?_) (fun c68 => ?_)
    · have hs : ¬ s.1 = 0 := fun z => c68 (by rw [z]; rfl)
      rw [asS_n (fun z => hs z.1)] at hf
      subst hf
      exact hfin W _ hF hR hC
    · have hs : s.1 = 0 := (nI_eq (b := 0) (by omega) (by omega)).mp c68
      obtain ⟨q1, q2, q3⟩ := r6 hs
      refine g_aload_n (q := 72) dX4_read_71 rfl rfl ?_
      refine gf_X4_25 (q := 75) rfl (by first | assumption | rfl) dX4_read_72 rfl ?_
      rw [q2]
      refine k_X4_46 (q := 78) rfl (Nat.le_of_ble_eq_true rfl) dX4_read_75 rfl (c_X4_kindOf ?_)
      rw [kdI_t hb]
      refine g_if_eq (tgt := 92) (q := 81) dX4_read_78 (by decide) rfl (fun c78 => ?_) (fun c78 => ?_)
      · rw [asS_n (fun z => z.2 ((nI_eq (b := 0) (by omega) (by omega)).mp c78))] at hf
        subst hf
        exact hfin W _ hF hR hC
      · refine g_aload_n (q := 82) dX4_read_81 rfl rfl ?_
        refine g_aload_n (q := 83) dX4_read_82 rfl rfl ?_
        refine k_X4_50 (q := 86) rfl (Nat.le_of_ble_eq_true rfl) (by first | assumption | rfl) dX4_read_83 rfl (c_X4_readAdvice hR hs (hC hs) hv (fun J y2 y3 y4 => ?_))
        have hkd : ¬ kdN t s.2 = 0 := fun z => c78 (by rw [z]; rfl)
        refine g_iincn (q := 89) dX4_read_86 rfl rfl (by decide) rfl rfl ?_
        refine g_goto (q := 59) dX4_read_89 (by decide) ?_
        refine ih (i + 1) J _ (avS t s v) (by omega) ?_ (hF.tr y2) y3 (avS_ok hkd hv) y4
        rw [← hf, asS_, if_pos ⟨hs, hkd⟩]
set_option maxRecDepth 100000 in
set_option maxHeartbeats 400000 in
theorem c_X4_add {d k : Nat} {I : Nat → Nat → Int32} {Q : Option Int32 → Wd → Prop} {t : List Nat} {x : Nat} (hT : RTape I t) (hx : x < 256) (h1 : t.length < 130 → ∀ J, Fr [2, 3] I J → RTape J (t ++ [x]) → Q (some (nI 1)) (J, RR k)) (h0 : ¬ t.length < 130 → Q (some (nI 0)) (I, RR k)) : Ex d 0 0 mX4_add [.ref 2, .int (nI x)] 68 (I, RR k) 68 Q := by
  obtain ⟨t1, t2, t3⟩ := id hT
  refine ex_intro (L0 := [.ref 2, .int (nI x)]) (by decide +kernel) rfl rfl (Nat.le_of_ble_eq_true rfl) rfl ?_
  refine g_aload_n (q := 1) dX4_add_0 rfl rfl ?_
  refine gf_X4_15 (q := 4) rfl (by first | assumption | rfl) dX4_add_1 rfl ?_
  rw [t1]
  refine g_sipush (q := 7) (v := nI 130) dX4_add_4 rfl (by decide) ?_
  refine g_icmp_lt (tgt := 12) (q := 10) dX4_add_7 (by decide) rfl (fun c7 => ?_) (fun c7 => ?_)
  · have hl : t.length < 130 := (nI_ltI (by omega) (by omega)).mp c7
    refine g_aload_n (q := 13) dX4_add_12 rfl rfl ?_
    refine gf_X4_9 (q := 16) rfl (by first | assumption | rfl) (by first | assumption | rfl) dX4_add_13 rfl ?_
    refine g_aload_n (q := 17) dX4_add_16 rfl rfl ?_
    refine gf_X4_15 (q := 20) rfl (by first | assumption | rfl) dX4_add_17 rfl ?_
    rw [t1]
    refine g_iload_n (q := 21) dX4_add_20 rfl rfl ?_
    refine g_iastn (q := 22) (by first | assumption | rfl) (by repeat' first | apply nI_a | apply nI_m | exact rfl) (by omega) dX4_add_21 rfl ?_
    refine g_aload_n (q := 23) dX4_add_22 rfl rfl ?_
    refine g_dup (q := 24) dX4_add_23 rfl rfl ?_
    refine gf_X4_15 (q := 27) rfl (by first | assumption | rfl) dX4_add_24 rfl ?_
    rw [uI_ne (by decide), t1]
    refine g_iconst (q := 28) (v := nI 1) dX4_add_27 rfl (by decide) ?_
    refine g_iadd (q := 29) dX4_add_28 rfl ?_
    rw [nI_add]
    refine pf_X4_15 (q := 32) rfl (by first | assumption | rfl) dX4_add_29 rfl ?_
    refine g_iconst (q := 33) (v := nI 1) dX4_add_32 rfl (by decide) ?_
    refine g_zret rfl (by decide) dX4_add_33 (Nat.le_refl _) (Nat.le_refl _) ?_
    refine h1 hl _ (Fr.tr (Fr.ui (by decide)) (Fr.ui (by decide))) ⟨?_, by rw [List.length_append]; simp; omega, fun j hj => ?_⟩
    · rw [uI_eq, List.length_append]; rfl
    · rw [List.length_append] at hj
      have hj : j < t.length + 1 := hj
      rw [uI_ne (by decide)]
      by_cases e : j = t.length
      · subst e
        rw [uI_eq]
        simp [hx]
      · rw [uI_n2 e]
        have := t3 j (by omega)
        simp [List.getElem?_append_left (show j < t.length by omega)] at this ⊢
        exact this
  · refine g_iconst (q := 11) (v := nI 0) dX4_add_10 rfl (by decide) ?_
    refine g_zret rfl (by decide) dX4_add_11 (Nat.le_refl _) (Nat.le_refl _) ?_
    exact h0 (fun z => c7 (nI_lt z (by omega)))
