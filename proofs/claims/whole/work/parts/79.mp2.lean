def RX (J : Nat → Nat → Int32) (t : List Nat) (s : Ps) (f0 : Nat) : Prop := MTape J t ∧ J 52 8 = (if s.1 = 0 then -1 else nI s.2) ∧ J 52 7 = nI (if s.1 = 0 then f0 else s.1) ∧ s.1 < 5 ∧ f0 < 5 ∧ s.2 ≤ t.length ∧ (s.1 = 0 → J 52 10 = nI s.2 ∧ J 52 9 = nI (nxt t s.2) ∧ J 52 11 = nI (tkK t s.2) ∧ (kdT t s.2 = 1 → J 52 12 = nI (t.getD s.2 0)) ∧ (kdT t s.2 = 2 → J 52 12 = nI (tkV t s.2)))
theorem RX.eq {I J : Nat → Nat → Int32} {t : List Nat} {s : Ps} {f0 : Nat} (h : RX I t s f0) (e2 : J 52 = I 52) (e3 : J 57 = I 57) : RX J t s f0 := by
  unfold RX MTape; rw [e2, e3]; exact h

set_option maxRecDepth 100000 in
set_option maxHeartbeats 400000 in
theorem c_X7_isWell {d k : Nat} {I : Nat → Nat → Int32} {Q : Option Int32 → Wd → Prop} {t : List Nat} {s : Ps} {f0 : Nat} (hR : RX I t s f0) (h1 : s.1 = 0 → Q (some (nI 1)) (I, RR k)) (h0 : ¬ s.1 = 0 → Q (some (nI 0)) (I, RR k)) : Ex d 0 0 mX7_isWell [.ref 52] 68 (I, RR k) 68 Q := by
  obtain ⟨r1, r2, r3, r4, r5, r6, r7⟩ := id hR
  have h130 := r1.2.1
  have hnx := nxt_le r6
  refine ex_intro (L0 := [.ref 52]) (by decide +kernel) rfl rfl (Nat.le_of_ble_eq_true rfl) rfl ?_
  refine g_aload_n (q := 1) dX7_isWell_0 rfl rfl ?_
  refine gf_X7_107 (q := 4) rfl (by first | assumption | rfl) dX7_isWell_1 rfl ?_
  rw [r2]
  refine g_if_ge (tgt := 11) (q := 7) dX7_isWell_4 (by decide) rfl (fun c4 => ?_) (fun c4 => ?_)
  · refine g_iconst (q := 12) (v := nI 0) dX7_isWell_11 rfl (by decide) ?_
    refine g_zret rfl (by decide) dX7_isWell_12 (Nat.le_refl _) (Nat.le_refl _) ?_
    exact h0 (fun z => by rw [if_pos z] at c4; exact absurd c4 (by decide))
  · refine g_iconst (q := 8) (v := nI 1) dX7_isWell_7 rfl (by decide) ?_
    refine g_goto (q := 12) dX7_isWell_8 (by decide) ?_
    refine g_zret rfl (by decide) dX7_isWell_12 (Nat.le_refl _) (Nat.le_refl _) ?_
    exact h1 (Decidable.byContradiction (fun z => by rw [if_neg z] at c4; exact c4 (nI_pos' (by omega))))
set_option maxRecDepth 100000 in
set_option maxHeartbeats 400000 in
theorem c_takes1 {d k : Nat} {I : Nat → Nat → Int32} {Q : Option Int32 → Wd → Prop} {t : List Nat} {s : Ps} {f0 : Nat} {f : Nat} (hR : RX I t s f0) (h : ∀ J r, FrX I J → RX J t (tkS t true f s) f0 → (s.1 = 0 → r = I 52 12) → Q (some r) (J, RR k)) : Ex (d + 2) 0 0 mX7_takes [.ref 52, .int (nI 1), .int (nI f)] 68 (I, RR k) 68 Q := by
  obtain ⟨r1, r2, r3, r4, r5, r6, r7⟩ := id hR
  have h130 := r1.2.1
  have hnx := nxt_le r6
  refine ex_intro (L0 := [.ref 52, .int (nI 1), .int (nI f), .null]) (by decide +kernel) rfl rfl (Nat.le_of_ble_eq_true rfl) rfl ?_
  refine g_aload_n (q := 1) dX7_takes_0 rfl rfl ?_
  refine k_X7_110 (q := 4) rfl (Nat.le_of_ble_eq_true rfl) (by first | assumption | rfl) dX7_takes_1 rfl (c_X7_isWell hR (fun z1 => ?_) (fun z1 => ?_))
  · refine g_if_ne (tgt := 9) (q := 7) dX7_takes_4 (by decide) rfl (fun _ => ?_) (fun c4 => absurd c4 (by decide))
    refine g_iload_n (q := 10) dX7_takes_9 rfl rfl ?_
    refine g_if_ne (tgt := 28) (q := 13) dX7_takes_10 (by decide) rfl (fun _ => ?_) (fun c10 => absurd c10 (by decide))
    obtain ⟨q1, q2, q3, q4, q5⟩ := r7 z1
    refine g_aload_n (q := 29) dX7_takes_28 rfl rfl ?_
    refine gf_X7_101 (q := 32) rfl (by first | assumption | rfl) dX7_takes_29 rfl ?_
    refine g_istore_n (q := 33) dX7_takes_32 rfl (by decide) rfl rfl ?_
    refine g_aload_n (q := 34) dX7_takes_33 rfl rfl ?_
    refine k_X7_117 (q := 37) rfl (Nat.le_of_ble_eq_true rfl) (by first | assumption | rfl) dX7_takes_34 rfl (c_X7_advances r1 hnx q2 (fun J g0 g1 g2 g3 g4 g5 => ?_))
    refine g_iload_n (q := 38) dX7_takes_37 rfl rfl ?_
    refine g_iret rfl dX7_takes_38 (Nat.le_refl _) (Nat.le_refl _) ?_
    rw [show tkS t true f s = (0, nxt t s.2) by unfold tkS; rw [if_pos z1, if_pos rfl]] at h
    refine h J _ g0.x ⟨r1.y g0.x, ?_, ?_, by show (0 : Nat) < 5; decide, r5, hnx, fun _ => ⟨g1, g2, g3, g4, g5⟩⟩ (fun _ => rfl)
    · rw [g0.2 8 (by decide), r2, if_pos z1]; rfl
    · rw [g0.2 7 (by decide), r3, if_pos z1]; rfl
  · refine g_if_ne (tgt := 9) (q := 7) dX7_takes_4 (by decide) rfl (fun c4 => absurd c4 (by decide)) (fun _ => ?_)
    refine g_iconst (q := 8) (v := nI 0) dX7_takes_7 rfl (by decide) ?_
    refine g_iret rfl dX7_takes_8 (Nat.le_refl _) (Nat.le_refl _) ?_
    rw [tkS_n z1] at h
    exact h I (nI 0) FrX.rf hR (fun z => absurd z z1)
set_option maxRecDepth 100000 in
set_option maxHeartbeats 400000 in
theorem c_takes0 {d k : Nat} {I : Nat → Nat → Int32} {Q : Option Int32 → Wd → Prop} {t : List Nat} {s : Ps} {f0 : Nat} {f : Nat} (hR : RX I t s f0) (hf : f < 5) (hf0 : ¬ f = 0) (h : ∀ J, FrX I J → RX J t (tkS t false f s) f0 → Q (some (nI 0)) (J, RR k)) : Ex (d + 2) 0 0 mX7_takes [.ref 52, .int (nI 0), .int (nI f)] 68 (I, RR k) 68 Q := by
  obtain ⟨r1, r2, r3, r4, r5, r6, r7⟩ := id hR
  have h130 := r1.2.1
  have hnx := nxt_le r6
  refine ex_intro (L0 := [.ref 52, .int (nI 0), .int (nI f), .null]) (by decide +kernel) rfl rfl (Nat.le_of_ble_eq_true rfl) rfl ?_
  refine g_aload_n (q := 1) dX7_takes_0 rfl rfl ?_
  refine k_X7_110 (q := 4) rfl (Nat.le_of_ble_eq_true rfl) (by first | assumption | rfl) dX7_takes_1 rfl (c_X7_isWell hR (fun z1 => ?_) (fun z1 => ?_))
  · refine g_if_ne (tgt := 9) (q := 7) dX7_takes_4 (by decide) rfl (fun _ => ?_) (fun c4 => absurd c4 (by decide))
    refine g_iload_n (q := 10) dX7_takes_9 rfl rfl ?_
    refine g_if_ne (tgt := 28) (q := 13) dX7_takes_10 (by decide) rfl (fun c10 => absurd c10 (by decide)) (fun _ => ?_)
    obtain ⟨q1, q2, q3, q4, q5⟩ := r7 z1
    refine g_aload_n (q := 14) dX7_takes_13 rfl rfl ?_
    refine g_aload_n (q := 15) dX7_takes_14 rfl rfl ?_
    refine gf_X7_95 (q := 18) rfl (by first | assumption | rfl) dX7_takes_15 rfl ?_
    rw [q1]
    refine pf_X7_107 (q := 21) rfl (by first | assumption | rfl) dX7_takes_18 rfl ?_
    refine g_aload_n (q := 22) dX7_takes_21 rfl rfl ?_
    refine g_iload_n (q := 23) dX7_takes_22 rfl rfl ?_
    refine pf_X7_114 (q := 26) rfl (by first | assumption | rfl) dX7_takes_23 rfl ?_
    refine g_iconst (q := 27) (v := nI 0) dX7_takes_26 rfl (by decide) ?_
    refine g_iret rfl dX7_takes_27 (Nat.le_refl _) (Nat.le_refl _) ?_
    rw [show tkS t false f s = (f, s.2) by unfold tkS; rw [if_pos z1, if_neg (by decide)]] at h
    refine h _ ((FrX.u (by decide) (by decide)).tr (FrX.u (by decide) (by decide))) ⟨r1.y ((FrX.u (by decide) (by decide)).tr (FrX.u (by decide) (by decide))), ?_, ?_, hf, r5, r6, fun z => absurd z hf0⟩
    · rw [uI_n2 (by decide), uI_eq, if_neg hf0]
    · rw [uI_eq, if_neg hf0]
  · refine g_if_ne (tgt := 9) (q := 7) dX7_takes_4 (by decide) rfl (fun c4 => absurd c4 (by decide)) (fun _ => ?_)
    refine g_iconst (q := 8) (v := nI 0) dX7_takes_7 rfl (by decide) ?_
    refine g_iret rfl dX7_takes_8 (Nat.le_refl _) (Nat.le_refl _) ?_
    rw [tkS_n z1] at h
    exact h I FrX.rf hR
set_option maxRecDepth 100000 in
set_option maxHeartbeats 400000 in
theorem c_X7_figure {d k : Nat} {I : Nat → Nat → Int32} {Q : Option Int32 → Wd → Prop} {t : List Nat} {s : Ps} {f0 : Nat} {lo hi : Nat} (hR : RX I t s f0) (hhi : hi < 1000) (hlh : lo ≤ hi) (h : ∀ J r, FrX I J → RX J t (nmS t lo hi s) f0 → ((nmS t lo hi s).1 = 0 → r = nI (tkV t s.2)) → Q (some r) (J, RR k)) : Ex (d + 3) 0 0 mX7_figure [.ref 52, .int (nI lo), .int (nI hi)] 68 (I, RR k) 68 Q := by
  obtain ⟨r1, r2, r3, r4, r5, r6, r7⟩ := id hR
  have h130 := r1.2.1
  have hnx := nxt_le r6
  refine ex_intro (L0 := [.ref 52, .int (nI lo), .int (nI hi)]) (by decide +kernel) rfl rfl (Nat.le_of_ble_eq_true rfl) rfl ?_
  refine g_aload_n (q := 1) dX7_figure_0 rfl rfl ?_
  refine k_X7_110 (q := 4) rfl (Nat.le_of_ble_eq_true rfl) (by first | assumption | rfl) dX7_figure_1 rfl (c_X7_isWell hR (fun z1 => ?_) (fun z1 => ?_))
  · refine g_if_eq (tgt := 22) (q := 7) dX7_figure_4 (by decide) rfl (fun c4 => absurd c4 (by decide)) (fun _ => ?_)
    obtain ⟨q1, q2, q3, q4, q5⟩ := r7 z1
    refine g_aload_n (q := 8) dX7_figure_7 rfl rfl ?_
    refine gf_X7_104 (q := 11) rfl (by first | assumption | rfl) dX7_figure_8 rfl ?_
    rw [q3]
    refine g_iconst (q := 12) (v := nI 2) dX7_figure_11 rfl (by decide) ?_
    refine g_icmp_eq (tgt := 22) (q := 15) dX7_figure_12 (by decide) rfl (fun c12 => ?_) (fun c12 => ?_)
    · have hk : kdT t s.2 = 2 := tkK_2.mp ((nI_eq (by have := tkK_lt t s.2; omega) (by decide)).mp c12)
      have hv := tkV_lt hk
      refine g_aload_n (q := 23) dX7_figure_22 rfl rfl ?_
      refine g_aload_n (q := 24) dX7_figure_23 rfl rfl ?_
      refine gf_X7_101 (q := 27) rfl (by first | assumption | rfl) dX7_figure_24 rfl ?_
      rw [q5 hk]
      refine g_iload_n (q := 28) dX7_figure_27 rfl rfl ?_
      refine g_iload_n (q := 29) dX7_figure_28 rfl rfl ?_
      refine k_X7_62 (q := 32) rfl (Nat.le_of_ble_eq_true rfl) dX7_figure_29 rfl (c_X7_in (fun u1 u2 => ?_) (fun z29 => ?_))
      · have z29 := And.intro u1 u2
        refine g_iconst (q := 33) (v := nI 2) dX7_figure_32 rfl (by decide) ?_
        refine k_X7_120 (q := 36) rfl (Nat.le_of_ble_eq_true rfl) (by first | assumption | rfl) dX7_figure_33 rfl (c_takes1 hR (fun J r g1 g2 g3 => ?_))
        refine g_iret rfl dX7_figure_36 (Nat.le_refl _) (Nat.le_refl _) ?_
        have hn : lo ≤ tkV t s.2 ∧ tkV t s.2 ≤ hi := ⟨(nI_leI (by omega) (by omega)).mp z29.1, (nI_leI (by omega) (by omega)).mp z29.2⟩
        rw [show nmS t lo hi s = (0, nxt t s.2) by unfold nmS; rw [if_pos z1, if_pos hk, if_pos hn]] at h
        rw [show tkS t true 2 s = (0, nxt t s.2) by unfold tkS; rw [if_pos z1, if_pos rfl]] at g2
        exact h J r g1 g2 (fun _ => (g3 z1).trans (q5 hk))
      · refine g_iconst (q := 33) (v := nI 2) dX7_figure_32 rfl (by decide) ?_
        refine k_X7_120 (q := 36) rfl (Nat.le_of_ble_eq_true rfl) (by first | assumption | rfl) dX7_figure_33 rfl (c_takes0 hR (by decide) (by decide) (fun J g1 g2 => ?_))
        refine g_iret rfl dX7_figure_36 (Nat.le_refl _) (Nat.le_refl _) ?_
        have hn : ¬ (lo ≤ tkV t s.2 ∧ tkV t s.2 ≤ hi) := fun z => z29 ⟨nI_le z.1 (by omega), nI_le z.2 (by omega)⟩
        rw [show nmS t lo hi s = (2, s.2) by unfold nmS; rw [if_pos z1, if_pos hk, if_neg hn]] at h
        rw [show tkS t false 2 s = (2, s.2) by unfold tkS; rw [if_pos z1, if_neg (by decide)]] at g2
        exact h J (nI 0) g1 g2 (fun z => absurd z (by show ¬ (2 : Nat) = 0; decide))
    · refine g_aload_n (q := 16) dX7_figure_15 rfl rfl ?_
      refine g_iconst (q := 17) (v := nI 0) dX7_figure_16 rfl (by decide) ?_
      refine g_iconst (q := 18) (v := nI 1) dX7_figure_17 rfl (by decide) ?_
      refine k_X7_120 (q := 21) rfl (Nat.le_of_ble_eq_true rfl) (by first | assumption | rfl) dX7_figure_18 rfl (c_takes0 hR (by decide) (by decide) (fun J g1 g2 => ?_))
      refine g_iret rfl dX7_figure_21 (Nat.le_refl _) (Nat.le_refl _) ?_
      have hk : ¬ kdT t s.2 = 2 := fun z => c12 (by rw [tkK_2.mpr z])
      rw [show nmS t lo hi s = (1, s.2) by unfold nmS; rw [if_pos z1, if_neg hk]] at h
      rw [show tkS t false 1 s = (1, s.2) by unfold tkS; rw [if_pos z1, if_neg (by decide)]] at g2
      exact h J (nI 0) g1 g2 (fun z => absurd z Nat.one_ne_zero)
  · refine g_if_eq (tgt := 22) (q := 7) dX7_figure_4 (by decide) rfl (fun _ => ?_) (fun c4 => absurd c4 (by decide))
    refine g_aload_n (q := 23) dX7_figure_22 rfl rfl ?_
    refine g_aload_n (q := 24) dX7_figure_23 rfl rfl ?_
    refine gf_X7_101 (q := 27) rfl (by first | assumption | rfl) dX7_figure_24 rfl ?_
    skip
    refine g_iload_n (q := 28) dX7_figure_27 rfl rfl ?_
    refine g_iload_n (q := 29) dX7_figure_28 rfl rfl ?_
    refine k_X7_62 (q := 32) rfl (Nat.le_of_ble_eq_true rfl) dX7_figure_29 rfl (c_X7_in (fun u1 u2 => ?_) (fun z29 => ?_))
    · have z29 := And.intro u1 u2
      refine g_iconst (q := 33) (v := nI 2) dX7_figure_32 rfl (by decide) ?_
      refine k_X7_120 (q := 36) rfl (Nat.le_of_ble_eq_true rfl) (by first | assumption | rfl) dX7_figure_33 rfl (c_takes1 hR (fun J r g1 g2 g3 => ?_))
      refine g_iret rfl dX7_figure_36 (Nat.le_refl _) (Nat.le_refl _) ?_
      rw [tkS_n z1] at g2
      rw [nmS_n z1] at h
      exact h J r g1 g2 (fun z => absurd z z1)
    · refine g_iconst (q := 33) (v := nI 2) dX7_figure_32 rfl (by decide) ?_
      refine k_X7_120 (q := 36) rfl (Nat.le_of_ble_eq_true rfl) (by first | assumption | rfl) dX7_figure_33 rfl (c_takes0 hR (by decide) (by decide) (fun J g1 g2 => ?_))
      refine g_iret rfl dX7_figure_36 (Nat.le_refl _) (Nat.le_refl _) ?_
      rw [tkS_n z1] at g2
      rw [nmS_n z1] at h
      exact h J (nI 0) g1 g2 (fun z => absurd z z1)
set_option maxRecDepth 100000 in
set_option maxHeartbeats 400000 in
theorem c_X7_behind {d k : Nat} {I : Nat → Nat → Int32} {Q : Option Int32 → Wd → Prop} {t : List Nat} {s : Ps} {f0 : Nat} {lo hi : Nat} (hR : RX I t s f0) (hhi : hi < 1000) (hlh : lo ≤ hi) (h : ∀ J r, FrX I J → RX J t (nmS t lo hi (bhS t s)) f0 → ((nmS t lo hi (bhS t s)).1 = 0 → r = nI (tkV t (bhS t s).2)) → Q (some r) (J, RR k)) : Ex (d + 4) 0 0 mX7_behind [.ref 52, .int (nI lo), .int (nI hi)] 68 (I, RR k) 68 Q := by
  obtain ⟨r1, r2, r3, r4, r5, r6, r7⟩ := id hR
  have h130 := r1.2.1
  have hnx := nxt_le r6
  refine ex_intro (L0 := [.ref 52, .int (nI lo), .int (nI hi)]) (by decide +kernel) rfl rfl (Nat.le_of_ble_eq_true rfl) rfl ?_
  refine g_aload_n (q := 1) dX7_behind_0 rfl rfl ?_
  refine g_aload_n (q := 2) dX7_behind_1 rfl rfl ?_
  refine gf_X7_104 (q := 5) rfl (by first | assumption | rfl) dX7_behind_2 rfl ?_
  refine g_iconst (q := 6) (v := nI 3) dX7_behind_5 rfl (by decide) ?_
  refine g_icmp_ne (tgt := 13) (q := 9) dX7_behind_6 (by decide) rfl (fun c6 => ?_) (fun c6 => ?_)
  · refine g_iconst (q := 14) (v := nI 0) dX7_behind_13 rfl (by decide) ?_
    refine g_iconst (q := 15) (v := nI 1) dX7_behind_14 rfl (by decide) ?_
    refine k_X7_120 (q := 18) rfl (Nat.le_of_ble_eq_true rfl) (by first | assumption | rfl) dX7_behind_15 rfl (c_takes0 hR (by decide) (by decide) (fun J g1 g2 => ?_))
    have gS : RX J t (tkS t (chr t s.2 44) 1 s) f0 := by
      by_cases hs : s.1 = 0
      · have hc : chr t s.2 44 = false := by
          cases hb : chr t s.2 44 with
          | false => rfl
          | true => exact absurd (by rw [(r7 hs).2.2.1, tkK_3.mpr hb]) c6
        rw [hc]; exact g2
      · rw [tkS_n hs] at g2 ⊢; exact g2
    refine g_pop (q := 19) dX7_behind_18 rfl rfl ?_
    refine g_aload_n (q := 20) dX7_behind_19 rfl rfl ?_
    refine g_iload_n (q := 21) dX7_behind_20 rfl rfl ?_
    refine g_iload_n (q := 22) dX7_behind_21 rfl rfl ?_
    refine k_X7_124 (q := 25) rfl (Nat.le_of_ble_eq_true rfl) (by first | assumption | rfl) dX7_behind_22 rfl (c_X7_figure gS (by omega) (by omega) (fun J2 r g4 g5 g6 => ?_))
    refine g_iret rfl dX7_behind_25 (Nat.le_refl _) (Nat.le_refl _) ?_
    exact h J2 r (g1.tr g4) g5 g6
  · refine g_iconst (q := 10) (v := nI 1) dX7_behind_9 rfl (by decide) ?_
    refine g_goto (q := 14) dX7_behind_10 (by decide) ?_
    refine g_iconst (q := 15) (v := nI 1) dX7_behind_14 rfl (by decide) ?_
    refine k_X7_120 (q := 18) rfl (Nat.le_of_ble_eq_true rfl) (by first | assumption | rfl) dX7_behind_15 rfl (c_takes1 hR (fun J r0 g1 g2 g3 => ?_))
    have gS : RX J t (tkS t (chr t s.2 44) 1 s) f0 := by
      by_cases hs : s.1 = 0
      · have hc : chr t s.2 44 = true := tkK_3.mp ((nI_eq (by have := tkK_lt t s.2; omega) (by decide)).mp ((r7 hs).2.2.1.symm.trans c6))
        rw [hc]; exact g2
      · rw [tkS_n hs] at g2 ⊢; exact g2
    refine g_pop (q := 19) dX7_behind_18 rfl rfl ?_
    refine g_aload_n (q := 20) dX7_behind_19 rfl rfl ?_
    refine g_iload_n (q := 21) dX7_behind_20 rfl rfl ?_
    refine g_iload_n (q := 22) dX7_behind_21 rfl rfl ?_
    refine k_X7_124 (q := 25) rfl (Nat.le_of_ble_eq_true rfl) (by first | assumption | rfl) dX7_behind_22 rfl (c_X7_figure gS (by omega) (by omega) (fun J2 r g4 g5 g6 => ?_))
    refine g_iret rfl dX7_behind_25 (Nat.le_refl _) (Nat.le_refl _) ?_
    exact h J2 r (g1.tr g4) g5 g6
set_option maxRecDepth 100000 in
set_option maxHeartbeats 400000 in
theorem c_must1 {d k : Nat} {I : Nat → Nat → Int32} {Q : Option Int32 → Wd → Prop} {t : List Nat} {s : Ps} {f0 : Nat} {f : Nat} (hR : RX I t s f0) (h : ∀ J, FrX I J → RX J t (muS true f s) f0 → Q none (J, RR k)) : Ex (d + 3) 0 0 mX7_must [.ref 52, .int (nI 1), .int (nI f)] 68 (I, RR k) 68 Q := by
  refine ex_intro (L0 := [.ref 52, .int (nI 1), .int (nI f)]) (by decide +kernel) rfl rfl (Nat.le_of_ble_eq_true rfl) rfl ?_
  refine g_aload_n (q := 1) dX7_must_0 rfl rfl ?_
  refine k_X7_110 (q := 4) rfl (Nat.le_of_ble_eq_true rfl) (by first | assumption | rfl) dX7_must_1 rfl (c_X7_isWell hR (fun z1 => ?_) (fun z1 => ?_))
  · refine g_if_eq (tgt := 18) (q := 7) dX7_must_4 (by decide) rfl (fun c4 => absurd c4 (by decide)) (fun _ => ?_)
    refine g_iload_n (q := 8) dX7_must_7 rfl rfl ?_
    refine g_if_ne (tgt := 18) (q := 11) dX7_must_8 (by decide) rfl (fun _ => ?_) (fun c8 => absurd c8 (by decide))
    refine g_vret rfl dX7_must_18 (Nat.le_refl _) (Nat.le_refl _) ?_
    exact h I FrX.rf (by rw [show muS true f s = s from if_neg (fun z => by cases z.2)]; exact hR)
  · refine g_if_eq (tgt := 18) (q := 7) dX7_must_4 (by decide) rfl (fun _ => ?_) (fun c4 => absurd c4 (by decide))
    refine g_vret rfl dX7_must_18 (Nat.le_refl _) (Nat.le_refl _) ?_
    exact h I FrX.rf (by rw [show muS true f s = s from if_neg (fun z => by cases z.2)]; exact hR)
set_option maxRecDepth 100000 in
set_option maxHeartbeats 400000 in
theorem c_must0 {d k : Nat} {I : Nat → Nat → Int32} {Q : Option Int32 → Wd → Prop} {t : List Nat} {s : Ps} {f0 : Nat} {f : Nat} (hR : RX I t s f0) (hf : f < 5) (hf0 : ¬ f = 0) (h : ∀ J, FrX I J → RX J t (muS false f s) f0 → Q none (J, RR k)) : Ex (d + 3) 0 0 mX7_must [.ref 52, .int (nI 0), .int (nI f)] 68 (I, RR k) 68 Q := by
  refine ex_intro (L0 := [.ref 52, .int (nI 0), .int (nI f)]) (by decide +kernel) rfl rfl (Nat.le_of_ble_eq_true rfl) rfl ?_
  refine g_aload_n (q := 1) dX7_must_0 rfl rfl ?_
  refine k_X7_110 (q := 4) rfl (Nat.le_of_ble_eq_true rfl) (by first | assumption | rfl) dX7_must_1 rfl (c_X7_isWell hR (fun z1 => ?_) (fun z1 => ?_))
  · refine g_if_eq (tgt := 18) (q := 7) dX7_must_4 (by decide) rfl (fun c4 => absurd c4 (by decide)) (fun _ => ?_)
    refine g_iload_n (q := 8) dX7_must_7 rfl rfl ?_
    refine g_if_ne (tgt := 18) (q := 11) dX7_must_8 (by decide) rfl (fun c8 => absurd c8 (by decide)) (fun _ => ?_)
    refine g_aload_n (q := 12) dX7_must_11 rfl rfl ?_
    refine g_iconst (q := 13) (v := nI 0) dX7_must_12 rfl (by decide) ?_
    refine g_iload_n (q := 14) dX7_must_13 rfl rfl ?_
    refine k_X7_120 (q := 17) rfl (Nat.le_of_ble_eq_true rfl) (by first | assumption | rfl) dX7_must_14 rfl (c_takes0 hR hf hf0 (fun J g1 g2 => ?_))
    refine g_pop (q := 18) dX7_must_17 rfl rfl ?_
    refine g_vret rfl dX7_must_18 (Nat.le_refl _) (Nat.le_refl _) ?_
    rw [show tkS t false f s = (f, s.2) by unfold tkS; rw [if_pos z1, if_neg (by decide)]] at g2
    rw [show muS false f s = (f, s.2) from if_pos ⟨z1, rfl⟩] at h
    exact h J g1 g2
  · refine g_if_eq (tgt := 18) (q := 7) dX7_must_4 (by decide) rfl (fun _ => ?_) (fun c4 => absurd c4 (by decide))
    refine g_vret rfl dX7_must_18 (Nat.le_refl _) (Nat.le_refl _) ?_
    exact h I FrX.rf (by rw [muS_n z1]; exact hR)
def soM (x : Int32) : Int32 := if x = nI 101 then nI 0 else if x = nI 99 then nI 1 else if x = nI 102 then nI 2 else -1000000
theorem soM_n : ∀ c, c < 256 → soM (nI c) = if soC c < 3 then nI (soC c) else -1000000 := by decide +kernel
set_option maxRecDepth 100000 in
set_option maxHeartbeats 400000 in
theorem c_X7_sortOf {d k : Nat} {I : Nat → Nat → Int32} {Q : Option Int32 → Wd → Prop} {x : Int32} (h : Q (some (soM x)) (I, RR k)) : Ex d 0 0 mX7_sortOf [.int x] 68 (I, RR k) 68 Q := by
  refine ex_intro (L0 := [.int x]) (by decide +kernel) rfl rfl (Nat.le_of_ble_eq_true rfl) rfl ?_
  refine g_iload_n (q := 1) dX7_sortOf_0 rfl rfl ?_
  refine g_bipush (q := 3) (v := nI 101) dX7_sortOf_1 rfl (by decide) ?_
  refine g_icmp_ne (tgt := 10) (q := 6) dX7_sortOf_3 (by decide) rfl (fun c3 => ?_) (fun c3 => ?_)
  · refine g_iload_n (q := 11) dX7_sortOf_10 rfl rfl ?_
    refine g_bipush (q := 13) (v := nI 99) dX7_sortOf_11 rfl (by decide) ?_
    refine g_icmp_ne (tgt := 20) (q := 16) dX7_sortOf_13 (by decide) rfl (fun c13 => ?_) (fun c13 => ?_)
    · refine g_iload_n (q := 21) dX7_sortOf_20 rfl rfl ?_
      refine g_bipush (q := 23) (v := nI 102) dX7_sortOf_21 rfl (by decide) ?_
      refine g_icmp_ne (tgt := 30) (q := 26) dX7_sortOf_23 (by decide) rfl (fun c23 => ?_) (fun c23 => ?_)
      · refine lc_X7_56 (q := 32) rfl dX7_sortOf_30 rfl ?_
        refine g_iret rfl dX7_sortOf_32 (Nat.le_refl _) (Nat.le_refl _) ?_
        unfold soM at h
        rw [if_neg c3, if_neg c13, if_neg c23] at h
        exact h
      · refine g_iconst (q := 27) (v := nI 2) dX7_sortOf_26 rfl (by decide) ?_
        refine g_goto (q := 32) dX7_sortOf_27 (by decide) ?_
        refine g_iret rfl dX7_sortOf_32 (Nat.le_refl _) (Nat.le_refl _) ?_
        unfold soM at h
        rw [if_neg c3, if_neg c13, if_pos c23] at h
        exact h
    · refine g_iconst (q := 17) (v := nI 1) dX7_sortOf_16 rfl (by decide) ?_
      refine g_goto (q := 32) dX7_sortOf_17 (by decide) ?_
      refine g_iret rfl dX7_sortOf_32 (Nat.le_refl _) (Nat.le_refl _) ?_
      unfold soM at h
      rw [if_neg c3, if_pos c13] at h
      exact h
  · refine g_iconst (q := 7) (v := nI 0) dX7_sortOf_6 rfl (by decide) ?_
    refine g_goto (q := 32) dX7_sortOf_7 (by decide) ?_
    refine g_iret rfl dX7_sortOf_32 (Nat.le_refl _) (Nat.le_refl _) ?_
    unfold soM at h
    rw [if_pos c3] at h
    exact h
set_option maxRecDepth 100000 in
set_option maxHeartbeats 400000 in
theorem c_X7_kindOf {d k : Nat} {I : Nat → Nat → Int32} {Q : Option Int32 → Wd → Prop} {x : Int32} (h : Q (some (kdI x)) (I, RR k)) : Ex d 0 0 mX7_kindOf [.int x] 68 (I, RR k) 68 Q := by
  refine ex_intro (L0 := [.int x]) (by decide +kernel) rfl rfl (Nat.le_of_ble_eq_true rfl) rfl ?_
  refine g_iload_n (q := 1) dX7_kindOf_0 rfl rfl ?_
  refine g_bipush (q := 3) (v := nI 97) dX7_kindOf_1 rfl (by decide) ?_
  refine g_icmp_ne (tgt := 10) (q := 6) dX7_kindOf_3 (by decide) rfl (fun c3 => ?_) (fun c3 => ?_)
  · refine g_iload_n (q := 11) dX7_kindOf_10 rfl rfl ?_
    refine g_bipush (q := 13) (v := nI 114) dX7_kindOf_11 rfl (by decide) ?_
    refine g_icmp_ne (tgt := 20) (q := 16) dX7_kindOf_13 (by decide) rfl (fun c13 => ?_) (fun c13 => ?_)
    · refine g_iload_n (q := 21) dX7_kindOf_20 rfl rfl ?_
      refine g_bipush (q := 23) (v := nI 116) dX7_kindOf_21 rfl (by decide) ?_
      refine g_icmp_ne (tgt := 30) (q := 26) dX7_kindOf_23 (by decide) rfl (fun c23 => ?_) (fun c23 => ?_)
      · refine g_iload_n (q := 31) dX7_kindOf_30 rfl rfl ?_
        refine g_bipush (q := 33) (v := nI 111) dX7_kindOf_31 rfl (by decide) ?_
        refine g_icmp_ne (tgt := 40) (q := 36) dX7_kindOf_33 (by decide) rfl (fun c33 => ?_) (fun c33 => ?_)
        · refine g_iload_n (q := 41) dX7_kindOf_40 rfl rfl ?_
          refine g_bipush (q := 43) (v := nI 98) dX7_kindOf_41 rfl (by decide) ?_
          refine g_icmp_ne (tgt := 50) (q := 46) dX7_kindOf_43 (by decide) rfl (fun c43 => ?_) (fun c43 => ?_)
          · refine g_iconst (q := 51) (v := nI 0) dX7_kindOf_50 rfl (by decide) ?_
            refine g_iret rfl dX7_kindOf_51 (Nat.le_refl _) (Nat.le_refl _) ?_
            unfold kdI at h
            rw [if_neg c3, if_neg c13, if_neg c23, if_neg c33, if_neg c43] at h
            exact h
          · refine g_iconst (q := 47) (v := nI 5) dX7_kindOf_46 rfl (by decide) ?_
            refine g_goto (q := 51) dX7_kindOf_47 (by decide) ?_
            refine g_iret rfl dX7_kindOf_51 (Nat.le_refl _) (Nat.le_refl _) ?_
            unfold kdI at h
            rw [if_neg c3, if_neg c13, if_neg c23, if_neg c33, if_pos c43] at h
            exact h
        · refine g_iconst (q := 37) (v := nI 4) dX7_kindOf_36 rfl (by decide) ?_
          refine g_goto (q := 51) dX7_kindOf_37 (by decide) ?_
          refine g_iret rfl dX7_kindOf_51 (Nat.le_refl _) (Nat.le_refl _) ?_
          unfold kdI at h
          rw [if_neg c3, if_neg c13, if_neg c23, if_pos c33] at h
          exact h
      · refine g_iconst (q := 27) (v := nI 3) dX7_kindOf_26 rfl (by decide) ?_
        refine g_goto (q := 51) dX7_kindOf_27 (by decide) ?_
        refine g_iret rfl dX7_kindOf_51 (Nat.le_refl _) (Nat.le_refl _) ?_
        unfold kdI at h
        rw [if_neg c3, if_neg c13, if_pos c23] at h
        exact h
    · refine g_iconst (q := 17) (v := nI 2) dX7_kindOf_16 rfl (by decide) ?_
      refine g_goto (q := 51) dX7_kindOf_17 (by decide) ?_
      refine g_iret rfl dX7_kindOf_51 (Nat.le_refl _) (Nat.le_refl _) ?_
      unfold kdI at h
      rw [if_neg c3, if_pos c13] at h
      exact h
  · refine g_iconst (q := 7) (v := nI 1) dX7_kindOf_6 rfl (by decide) ?_
    refine g_goto (q := 51) dX7_kindOf_7 (by decide) ?_
    refine g_iret rfl dX7_kindOf_51 (Nat.le_refl _) (Nat.le_refl _) ?_
    unfold kdI at h
    rw [if_pos c3] at h
    exact h
