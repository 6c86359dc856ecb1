theorem im_at (k q : Nat) (h : q < 2) : isWv (RR k) 68 (40 + 6 * q) ∧ RR k 16 q = some (40 + 6 * q) := by
  have : q = 0 ∨ q = 1 := by omega
  rcases this with rfl | rfl
  · exact ⟨wv40 k, rfl⟩
  · exact ⟨wv46 k, rfl⟩
theorem scr_fr {I J : Nat → Nat → Int32} (h : Fr [19, 20, 21] I J) : ∀ p, p < 10 ∨ 16 ≤ p → p < 19 ∨ 22 ≤ p → J p = I p := fun p _ h2 => h p (by intro z; simp only [List.mem_cons, List.not_mem_nil, or_false] at z; omega)
theorem frc_run {I J : Nat → Nat → Int32} (h : Fr [19, 20, 21] I J) : FrC I J := FrC.of h (by intro p hp; simp only [List.mem_cons, List.not_mem_nil, or_false] at hp; omega)
theorem MPost.full {I : Nat → Nat → Int32} {r : Res} (h : MPost I r) : I 19 7 = nI 0 ∨ I 19 7 = nI 1 := by
  cases r with
  | none => exact Or.inr h
  | some q => exact Or.inl h.1.2.2.2.1
theorem sw_neg {w : Int32} (h : -5 ≤ w) (h1 : ¬ w = -1) (h2 : ¬ w = -2) (h3 : ¬ w = -3) (h4 : ¬ w = -4) (h5 : ¬ w = -5) : w.toInt < -5 ∨ -1 < w.toInt := by
  apply Decidable.byContradiction
  intro hz
  have e : w.toInt = -1 ∨ w.toInt = -2 ∨ w.toInt = -3 ∨ w.toInt = -4 ∨ w.toInt = -5 := by omega
  rcases e with e | e | e | e | e
  · exact h1 (Int32.toInt_inj.mp (e.trans (by decide)))
  · exact h2 (Int32.toInt_inj.mp (e.trans (by decide)))
  · exact h3 (Int32.toInt_inj.mp (e.trans (by decide)))
  · exact h4 (Int32.toInt_inj.mp (e.trans (by decide)))
  · exact h5 (Int32.toInt_inj.mp (e.trans (by decide)))

set_option maxRecDepth 100000 in
set_option maxHeartbeats 400000 in
theorem c_X6_image {d k : Nat} {I : Nat → Nat → Int32} {Q : Option Int32 → Wd → Prop} {S : Sg} {q : Int32} (hk : k = 4 ∨ k = 10) (hr : RepC I S) (h : ∀ I2 k2, RepC I2 (imageS S q).2 → FrC I I2 → (k2 = 4 ∨ k2 = 10) → Q (some (imageS S q).1) (I2, RR k2)) : Ex (d + 2) 0 0 mX6_image [.ref 0, .int q] 68 (I, RR k) 68 Q := by
  have hC : CRep I 4 (gv S) := hr.2.2.2.2.1.1
  have hV : VOk (gv S) := hr.2.2.2.2.1.2
  obtain ⟨v1, v2, v3, v4⟩ := id hV
  have hW := wv4 k
  refine ex_intro (L0 := [.ref 0, .int q]) (by decide +kernel) rfl rfl (Nat.le_of_ble_eq_true rfl) rfl ?_
  refine g_iload_n (q := 1) dX6_image_0 rfl rfl ?_
  refine k_X6_258 (q := 4) rfl (Nat.le_of_ble_eq_true rfl) dX6_image_1 rfl (c_X6_isImage (fun z1 => ?_) (fun z1 => ?_))
  · refine g_if_ne (tgt := 10) (q := 7) dX6_image_4 (by decide) rfl (fun _ => ?_) (fun c4 => absurd c4 (by decide))
    have y1 := z1
    obtain ⟨q, hq, rfl⟩ := inR_nat (by decide) z1
    have hwq := (im_at k q (by omega)).1
    have hsq := hwq.1
    refine g_aload_n (q := 11) dX6_image_10 rfl rfl ?_
    refine gf_X6_25 (q := 14) rfl (by first | assumption | rfl) (by first | assumption | rfl) dX6_image_11 rfl ?_
    refine k_X6_131 (q := 17) rfl (Nat.le_of_ble_eq_true rfl) (by first | assumption | rfl) dX6_image_14 rfl (c_X5_methods hW ?_)
    rw [hC.1]
    refine g_if_ne (tgt := 23) (q := 20) dX6_image_17 (by decide) rfl (fun c17 => ?_) (fun c17 => ?_)
    · refine g_aload_n (q := 24) dX6_image_23 rfl rfl ?_
      refine gf_X6_32 (q := 27) rfl (by first | assumption | rfl) (by first | assumption | rfl) dX6_image_24 rfl ?_
      refine g_iload_n (q := 28) dX6_image_27 rfl rfl ?_
      refine g_aald (q := 29) (t := 4) (N := 2) (C := RX5) rfl (by decide) (by decide) (fun _ => rfl) (nI_in (by omega) (by decide)) (r := 40 + 6 * q) (by rw [nI_clamp (by omega)]; exact (im_at k q (by omega)).2) dX6_image_28 rfl ?_
      refine g_aload_n (q := 30) dX6_image_29 rfl rfl ?_
      refine gf_X6_25 (q := 33) rfl (by first | assumption | rfl) (by first | assumption | rfl) dX6_image_30 rfl ?_
      refine k_X6_126 (q := 36) rfl (Nat.le_of_ble_eq_true rfl) (by first | assumption | rfl) dX6_image_33 rfl (c_X5_take hwq hW (by omega) ?_)
      refine g_iconst (q := 37) (v := nI 1) dX6_image_36 rfl (by decide) ?_
      refine g_iret rfl dX6_image_37 (Nat.le_refl _) (Nat.le_refl _) ?_
      rw [imageS, if_pos y1, if_neg (fun z => c17 (by rw [z]; rfl)), nI_clamp (by omega)] at h
      have ne : ∀ p, p < 40 + 6 * q ∨ 40 + 6 * q + 5 < p → tkI I (40 + 6 * q) 4 p = I p := fun p hp => tkI_ne hp
      refine h _ k ?_ (fun p hp => ne p (by omega)) hk
      obtain ⟨h1, h2, h3, h4, h5, h6, h7, h8⟩ := hr
      have e0 := ne 0 (by omega)
      refine ⟨h1.eq (fun p _ _ => ne p (by omega)), by rw [e0]; exact h2, h3.eq (ne 2 (by omega)) (ne 3 (by omega)), by rw [e0]; exact h4, ⟨h5.1.eq (fun i hi => ne _ (by omega)), h5.2⟩, h6.eq (ne 17 (by omega)) (ne 18 (by omega)), fun z hz => ?_, h8.eq (ne 22 (by omega)) (ne 23 (by omega))⟩
      by_cases e : z = q
      · subst e
        refine Or.inr ⟨gv S, if_pos rfl, CRep_tkI hC hV (by omega), hV, ?_⟩
        have := mt (nI_eq (a := vnm (gv S)) (b := 0) (by omega) (by omega)).mpr c17
        omega
      · show ((if z = q then some (gv S) else S.2.2.2.2.2.2.1 z) = none ∧ _) ∨ ∃ u, (if z = q then some (gv S) else S.2.2.2.2.2.2.1 z) = some u ∧ _
        rw [if_neg e]
        rcases h7 z hz with ⟨g1, g2⟩ | ⟨u, g1, g2, g3⟩
        · exact Or.inl ⟨g1, by rw [ne _ (by omega)]; exact g2⟩
        · exact Or.inr ⟨u, g1, g2.eq (fun i hi => ne _ (by omega)), g3⟩
    · refine lc_X6_144 (q := 22) rfl dX6_image_20 rfl ?_
      refine g_iret rfl dX6_image_22 (Nat.le_refl _) (Nat.le_refl _) ?_
      rw [imageS, if_pos y1, if_pos ((nI_eq (b := 0) (by omega) (by omega)).mp c17)] at h
      exact h I k hr FrC.rf hk
  · refine g_if_ne (tgt := 10) (q := 7) dX6_image_4 (by decide) rfl (fun c4 => absurd c4 (by decide)) (fun _ => ?_)
    refine lc_X6_75 (q := 9) rfl dX6_image_7 rfl ?_
    refine g_iret rfl dX6_image_9 (Nat.le_refl _) (Nat.le_refl _) ?_
    rw [imageS, if_neg z1] at h
    exact h I k hr FrC.rf hk
set_option maxRecDepth 100000 in
set_option maxHeartbeats 400000 in
theorem c_X6_restore {d k : Nat} {I : Nat → Nat → Int32} {Q : Option Int32 → Wd → Prop} {S : Sg} {q : Int32} (hk : k = 4 ∨ k = 10) (hr : RepC I S) (h : ∀ I2 k2, RepC I2 (restoreS S q).2 → FrC I I2 → (k2 = 4 ∨ k2 = 10) → Q (some (restoreS S q).1) (I2, RR k2)) : Ex (d + 2) 0 0 mX6_restore [.ref 0, .int q] 68 (I, RR k) 68 Q := by
  have hC : CRep I 4 (gv S) := hr.2.2.2.2.1.1
  have hV : VOk (gv S) := hr.2.2.2.2.1.2
  obtain ⟨v1, v2, v3, v4⟩ := id hV
  have hW := wv4 k
  refine ex_intro (L0 := [.ref 0, .int q]) (by decide +kernel) rfl rfl (Nat.le_of_ble_eq_true rfl) rfl ?_
  refine g_iload_n (q := 1) dX6_restore_0 rfl rfl ?_
  refine k_X6_258 (q := 4) rfl (Nat.le_of_ble_eq_true rfl) dX6_restore_1 rfl (c_X6_isImage (fun z1 => ?_) (fun z1 => ?_))
  · refine g_if_ne (tgt := 10) (q := 7) dX6_restore_4 (by decide) rfl (fun _ => ?_) (fun c4 => absurd c4 (by decide))
    have y1 := z1
    obtain ⟨q, hq, rfl⟩ := inR_nat (by decide) z1
    have hwq := (im_at k q (by omega)).1
    have hsq := hwq.1
    rw [restoreS, if_pos y1, nI_clamp (by omega)] at h
    refine g_aload_n (q := 11) dX6_restore_10 rfl rfl ?_
    refine gf_X6_32 (q := 14) rfl (by first | assumption | rfl) (by first | assumption | rfl) dX6_restore_11 rfl ?_
    refine g_iload_n (q := 15) dX6_restore_14 rfl rfl ?_
    refine g_aald (q := 16) (t := 4) (N := 2) (C := RX5) rfl (by decide) (by decide) (fun _ => rfl) (nI_in (by omega) (by decide)) (r := 40 + 6 * q) (by rw [nI_clamp (by omega)]; exact (im_at k q (by omega)).2) dX6_restore_15 rfl ?_
    refine k_X6_131 (q := 19) rfl (Nat.le_of_ble_eq_true rfl) (by first | assumption | rfl) dX6_restore_16 rfl (c_X5_methods hwq ?_)
    refine g_if_ne (tgt := 25) (q := 22) dX6_restore_19 (by decide) rfl (fun c19 => ?_) (fun c19 => ?_)
    · obtain ⟨u, hu, hcu, hvu, hpu⟩ : ∃ u, S.2.2.2.2.2.2.1 q = some u ∧ CRep I (40 + 6 * q) u ∧ VOk u ∧ 0 < vnm u := (hr.2.2.2.2.2.2.1 q (by omega)).elim (fun w => absurd w.2 c19) id
      refine g_aload_n (q := 26) dX6_restore_25 rfl rfl ?_
      refine gf_X6_25 (q := 29) rfl (by first | assumption | rfl) (by first | assumption | rfl) dX6_restore_26 rfl ?_
      refine g_aload_n (q := 30) dX6_restore_29 rfl rfl ?_
      refine gf_X6_32 (q := 33) rfl (by first | assumption | rfl) (by first | assumption | rfl) dX6_restore_30 rfl ?_
      refine g_iload_n (q := 34) dX6_restore_33 rfl rfl ?_
      refine g_aald (q := 35) (t := 4) (N := 2) (C := RX5) rfl (by decide) (by decide) (fun _ => rfl) (nI_in (by omega) (by decide)) (r := 40 + 6 * q) (by rw [nI_clamp (by omega)]; exact (im_at k q (by omega)).2) dX6_restore_34 rfl ?_
      refine k_X6_126 (q := 38) rfl (Nat.le_of_ble_eq_true rfl) (by first | assumption | rfl) dX6_restore_35 rfl (c_X5_take hW hwq (by omega) ?_)
      refine g_aload_n (q := 39) dX6_restore_38 rfl rfl ?_
      refine gf_X6_39 (q := 42) rfl (by first | assumption | rfl) (by first | assumption | rfl) dX6_restore_39 rfl ?_
      refine k_X6_128 (q := 45) rfl (Nat.le_of_ble_eq_true rfl) (by first | assumption | rfl) dX6_restore_42 rfl (c_X0_forget ?_)
      refine g_iconst (q := 46) (v := nI 1) dX6_restore_45 rfl (by decide) ?_
      refine g_iret rfl dX6_restore_46 (Nat.le_refl _) (Nat.le_refl _) ?_
      rw [hu] at h
      have ne : ∀ p, p < 4 ∨ 10 ≤ p → p ≠ 17 → uI (tkI I 4 (40 + 6 * q)) 17 1 (nI 0) p = I p := fun p hp h7 => (uI_ne h7).trans (tkI_ne (by omega))
      refine h _ k (RepC.wv hr ⟨(CRep_tkI hcu hvu (by omega)).eq (fun i hi => uI_ne (by omega)), hvu⟩ ⟨uI_eq, by simp, rfl⟩ (fun p hp => ne p (by omega) (by omega))) (fun p hp => ne p (by omega) (by omega)) hk
    · refine lc_X6_144 (q := 24) rfl dX6_restore_22 rfl ?_
      refine g_iret rfl dX6_restore_24 (Nat.le_refl _) (Nat.le_refl _) ?_
      rcases hr.2.2.2.2.2.2.1 q (by omega) with ⟨g1, g2⟩ | ⟨u, g1, g2, g3, g4⟩
      · rw [g1] at h; exact h I k hr FrC.rf hk
      · rw [g2.1] at c19
        have := (nI_eq (a := vnm u) (b := 0) (by have := g3.1; omega) (by omega)).mp c19
        omega
  · refine g_if_ne (tgt := 10) (q := 7) dX6_restore_4 (by decide) rfl (fun c4 => absurd c4 (by decide)) (fun _ => ?_)
    refine lc_X6_75 (q := 9) rfl dX6_restore_7 rfl ?_
    refine g_iret rfl dX6_restore_9 (Nat.le_refl _) (Nat.le_refl _) ?_
    rw [restoreS, if_neg z1] at h
    exact h I k hr FrC.rf hk
set_option maxRecDepth 100000 in
set_option maxHeartbeats 400000 in
theorem c_X6_run {d k : Nat} {I : Nat → Nat → Int32} {Q : Option Int32 → Wd → Prop} {S : Sg} {m x w : Int32} (hk : k = 4 ∨ k = 10) (hr : RepC I S) (h : ∀ I2 k2, RepC I2 (runS S m x w).2 → FrC I I2 → (k2 = 4 ∨ k2 = 10) → Q (some (runS S m x w).1) (I2, RR k2)) : Ex (d + 150) 0 0 mX6_run [.ref 0, .int m, .int x, .int w] 68 (I, RR k) 68 Q := by
  have hC : CRep I 4 (gv S) := hr.2.2.2.2.1.1
  have hV : VOk (gv S) := hr.2.2.2.2.1.2
  obtain ⟨v1, v2, v3, v4⟩ := id hV
  have hW := wv4 k
  refine ex_intro (L0 := [.ref 0, .int m, .int x, .int w]) (by decide +kernel) rfl rfl (Nat.le_of_ble_eq_true rfl) rfl ?_
  refine g_aload_n (q := 1) dX6_run_0 rfl rfl ?_
  refine g_iload_n (q := 2) dX6_run_1 rfl rfl ?_
  refine k_X6_156 (q := 5) rfl (Nat.le_of_ble_eq_true rfl) (by first | assumption | rfl) dX6_run_2 rfl (c_X6_isMethod hC (fun z2 => ?_) (fun z2 => ?_))
  · refine g_if_eq (tgt := 21) (q := 8) dX6_run_5 (by decide) rfl (fun c5 => absurd c5 (by decide)) (fun _ => ?_)
    refine g_iload_n (q := 9) dX6_run_8 rfl rfl ?_
    refine k_X6_200 (q := 12) rfl (Nat.le_of_ble_eq_true rfl) dX6_run_9 rfl (c_X6_isArgument (fun z9 => ?_) (fun z9 => ?_))
    · refine g_if_eq (tgt := 21) (q := 15) dX6_run_12 (by decide) rfl (fun c12 => absurd c12 (by decide)) (fun _ => ?_)
      refine g_iload_n (q := 16) dX6_run_15 rfl rfl ?_
      refine g_bipush (q := 18) (v := (-5)) dX6_run_16 rfl (by decide) ?_
      refine g_icmp_ge (tgt := 24) (q := 21) dX6_run_18 (by decide) rfl (fun c18 => ?_) (fun c18 => ?_)
      · have y2 := z2
        have y9 := z9
        obtain ⟨m, hm, rfl⟩ := in1_nat (by omega) z2
        obtain ⟨x, hx, rfl⟩ := inR_nat (by decide) z9
        rw [runS, if_pos y2, if_pos y9, if_pos c18, nI_clamp (by omega), nI_clamp (by omega)] at h
        refine g_aload_n (q := 25) dX6_run_24 rfl rfl ?_
        refine gf_X6_48 (q := 28) rfl (by first | assumption | rfl) (by first | assumption | rfl) dX6_run_25 rfl ?_
        refine g_aload_n (q := 29) dX6_run_28 rfl rfl ?_
        refine gf_X6_25 (q := 32) rfl (by first | assumption | rfl) (by first | assumption | rfl) dX6_run_29 rfl ?_
        refine g_iload_n (q := 33) dX6_run_32 rfl rfl ?_
        refine g_iload_n (q := 34) dX6_run_33 rfl rfl ?_
        refine k_X6_203 (q := 37) rfl (Nat.le_of_ble_eq_true rfl) (by first | assumption | rfl) dX6_run_34 rfl (c_make_at (by omega) (Or.inl rfl) hC hV hm (by omega) (fun I2 hF hP => ?_))
        have hC2 : CRep I2 4 (gv S) := hC.fr hF (kfr (Or.inl rfl))
        cases hres : enF (gv S) x m 0 s0 with
        | none =>
          rw [hres] at hP h
          refine g_aload_n (q := 38) dX6_run_37 rfl rfl ?_
          refine gf_X6_48 (q := 41) rfl (by first | assumption | rfl) (by first | assumption | rfl) dX6_run_38 rfl ?_
          refine k_X6_206 (q := 44) rfl (Nat.le_of_ble_eq_true rfl) (by first | assumption | rfl) dX6_run_41 rfl (c_X3_isFull (fun _ _ => ?_) (fun z => absurd (z.symm.trans hP) (by decide)) (Or.inr hP))
          · refine g_if_eq (tgt := 50) (q := 47) dX6_run_44 (by decide) rfl (fun c44 => absurd c44 (by decide)) (fun _ => ?_)
            refine lc_X6_117 (q := 49) rfl dX6_run_47 rfl ?_
            refine g_iret rfl dX6_run_49 (Nat.le_refl _) (Nat.le_refl _) ?_
            exact h I2 4 (hr.scr (scr_fr hF)) (frc_run hF) (Or.inl rfl)
        | some q =>
          rw [hres] at hP h
          dsimp only at h
          refine g_aload_n (q := 38) dX6_run_37 rfl rfl ?_
          refine gf_X6_48 (q := 41) rfl (by first | assumption | rfl) (by first | assumption | rfl) dX6_run_38 rfl ?_
          refine k_X6_206 (q := 44) rfl (Nat.le_of_ble_eq_true rfl) (by first | assumption | rfl) dX6_run_41 rfl (c_X3_isFull (fun _ z => absurd (hP.1.2.2.2.1.symm.trans z) (by decide)) (fun _ => ?_) (Or.inl hP.1.2.2.2.1))
          · refine g_if_eq (tgt := 50) (q := 47) dX6_run_44 (by decide) rfl (fun _ => ?_) (fun c44 => absurd c44 (by decide))
            refine g_iload_n (q := 51) dX6_run_50 rfl rfl ?_
            by_cases e1 : w = -1
            · subst e1
              refine g_tabIn (q := 0) (tgt := 84) (off := 33) dX6_run_51 (by decide) (by decide) (by decide) (by decide) ?_
              refine g_aload_n (q := 85) dX6_run_84 rfl rfl ?_
              refine gf_X6_48 (q := 88) rfl (by first | assumption | rfl) (by first | assumption | rfl) dX6_run_85 rfl ?_
              refine k_X6_209 (q := 91) rfl (Nat.le_of_ble_eq_true rfl) (by first | assumption | rfl) dX6_run_88 rfl (c_X3_size ?_)
              rw [hP.1.1]
              refine g_iret rfl dX6_run_91 (Nat.le_refl _) (Nat.le_refl _) ?_
              have hh : runR (gv S) q (-1) = nI q.1.1.length := by unfold runR; simp
              rw [hh] at h
              exact h I2 4 (hr.scr (scr_fr hF)) (frc_run hF) (Or.inl rfl)
            · by_cases e2 : w = -2
              · subst e2
                refine g_tabIn (q := 0) (tgt := 92) (off := 41) dX6_run_51 (by decide) (by decide) (by decide) (by decide) ?_
                refine g_aload_n (q := 93) dX6_run_92 rfl rfl ?_
                refine gf_X6_48 (q := 96) rfl (by first | assumption | rfl) (by first | assumption | rfl) dX6_run_93 rfl ?_
                refine k_X6_210 (q := 99) rfl (Nat.le_of_ble_eq_true rfl) (by first | assumption | rfl) dX6_run_96 rfl (c_X3_failure ?_)
                rw [hP.1.2.2.1]
                refine g_iret rfl dX6_run_99 (Nat.le_refl _) (Nat.le_refl _) ?_
                have hh : runR (gv S) q (-2) = nI q.2.1 := by unfold runR; simp
                rw [hh] at h
                exact h I2 4 (hr.scr (scr_fr hF)) (frc_run hF) (Or.inl rfl)
              · by_cases e3 : w = -3
                · subst e3
                  refine g_tabIn (q := 0) (tgt := 100) (off := 49) dX6_run_51 (by decide) (by decide) (by decide) (by decide) ?_
                  refine g_aload_n (q := 101) dX6_run_100 rfl rfl ?_
                  refine gf_X6_48 (q := 104) rfl (by first | assumption | rfl) (by first | assumption | rfl) dX6_run_101 rfl ?_
                  refine k_X6_213 (q := 107) rfl (Nat.le_of_ble_eq_true rfl) (by first | assumption | rfl) dX6_run_104 rfl (c_X3_returned ?_)
                  have hfz : I2 19 5 = 0 ↔ q.2.1 = 0 := by rw [hP.1.2.2.1]; exact nI_eq (b := 0) (by have := hP.1.2.2.2.2.2.2.2.2.2; omega) (by omega)
                  have hrv : (if I2 19 5 = 0 then I2 19 6 else -1000000) = (if q.2.1 = 0 then q.2.2 else -1000000) := by
                    by_cases z : q.2.1 = 0
                    · rw [if_pos z, if_pos (hfz.mpr z)]; exact hP.2 z
                    · rw [if_neg z, if_neg (fun y => z (hfz.mp y))]
                  rw [hrv]
                  refine g_iret rfl dX6_run_107 (Nat.le_refl _) (Nat.le_refl _) ?_
                  have hh : runR (gv S) q (-3) = (if q.2.1 = 0 then q.2.2 else -1000000) := by unfold runR; simp
                  rw [hh] at h
                  exact h I2 4 (hr.scr (scr_fr hF)) (frc_run hF) (Or.inl rfl)
                · by_cases e4 : w = -4
                  · subst e4
                    refine g_tabIn (q := 0) (tgt := 108) (off := 57) dX6_run_51 (by decide) (by decide) (by decide) (by decide) ?_
                    refine g_aload_n (q := 109) dX6_run_108 rfl rfl ?_
                    refine gf_X6_48 (q := 112) rfl (by first | assumption | rfl) (by first | assumption | rfl) dX6_run_109 rfl ?_
                    refine k_X6_216 (q := 115) rfl (Nat.le_of_ble_eq_true rfl) (by first | assumption | rfl) dX6_run_112 rfl (c_X3_calls ?_)
                    rw [hP.1.2.1]
                    refine g_iret rfl dX6_run_115 (Nat.le_refl _) (Nat.le_refl _) ?_
                    have hh : runR (gv S) q (-4) = nI q.1.2.1 := by unfold runR; simp
                    rw [hh] at h
                    exact h I2 4 (hr.scr (scr_fr hF)) (frc_run hF) (Or.inl rfl)
                  · by_cases e5 : w = -5
                    · subst e5
                      refine g_tabIn (q := 0) (tgt := 116) (off := 65) dX6_run_51 (by decide) (by decide) (by decide) (by decide) ?_
                      refine g_aload_n (q := 117) dX6_run_116 rfl rfl ?_
                      refine gf_X6_48 (q := 120) rfl (by first | assumption | rfl) (by first | assumption | rfl) dX6_run_117 rfl ?_
                      refine k_X6_219 (q := 123) rfl (Nat.le_of_ble_eq_true rfl) (by first | assumption | rfl) dX6_run_120 rfl (c_X3_tests (Or.inl rfl) hC2 hV hP.1 ?_)
                      refine g_iret rfl dX6_run_123 (Nat.le_refl _) (Nat.le_refl _) ?_
                      have hh : runR (gv S) q (-5) = nI (testsF (gv S) q.1) := by unfold runR; simp
                      rw [hh] at h
                      exact h I2 4 (hr.scr (scr_fr hF)) (frc_run hF) (Or.inl rfl)
                    · refine g_tabOut (q := 0) (tgt := 124) dX6_run_51 (sw_neg c18 e1 e2 e3 e4 e5) (by decide) ?_
                      refine g_aload_n (q := 125) dX6_run_124 rfl rfl ?_
                      refine gf_X6_48 (q := 128) rfl (by first | assumption | rfl) (by first | assumption | rfl) dX6_run_125 rfl ?_
                      refine g_iload_n (q := 129) dX6_run_128 rfl rfl ?_
                      refine k_X6_222 (q := 132) rfl (Nat.le_of_ble_eq_true rfl) (by first | assumption | rfl) dX6_run_129 rfl (c_X3_number hP.1 (fun j hj e => ?_) (fun z => ?_))
                      · subst e
                        have hl := hP.1.2.2.2.2.2.2.1
                        refine g_iret rfl dX6_run_132 (Nat.le_refl _) (Nat.le_refl _) ?_
                        have hh : runR (gv S) q (nI j) = nI (q.1.1.getD j 0) := by
                          unfold runR
                          rw [if_neg e1, if_neg e2, if_neg e3, if_neg e4, if_neg e5, if_pos ⟨nI_pos' (by omega), nI_lt hj (by omega)⟩, nI_clamp (by omega)]
                        rw [hh] at h
                        exact h I2 4 (hr.scr (scr_fr hF)) (frc_run hF) (Or.inl rfl)
                      · refine g_iret rfl dX6_run_132 (Nat.le_refl _) (Nat.le_refl _) ?_
                        have hh : runR (gv S) q w = -1000000 := by
                          unfold runR
                          rw [if_neg e1, if_neg e2, if_neg e3, if_neg e4, if_neg e5, if_neg (fun y => z.elim (fun q => absurd q (Int32.not_lt.mpr y.1)) (fun q => absurd y.2 (Int32.not_lt.mpr q)))]
                        rw [hh] at h
                        exact h I2 4 (hr.scr (scr_fr hF)) (frc_run hF) (Or.inl rfl)
      · refine lc_X6_75 (q := 23) rfl dX6_run_21 rfl ?_
        refine g_iret rfl dX6_run_23 (Nat.le_refl _) (Nat.le_refl _) ?_
        rw [runS, if_pos z2, if_pos z9, if_neg c18] at h
        exact h I k hr FrC.rf hk
    · refine g_if_eq (tgt := 21) (q := 15) dX6_run_12 (by decide) rfl (fun _ => ?_) (fun c12 => absurd c12 (by decide))
      refine lc_X6_75 (q := 23) rfl dX6_run_21 rfl ?_
      refine g_iret rfl dX6_run_23 (Nat.le_refl _) (Nat.le_refl _) ?_
      rw [runS, if_pos z2, if_neg z9] at h
      exact h I k hr FrC.rf hk
  · refine g_if_eq (tgt := 21) (q := 8) dX6_run_5 (by decide) rfl (fun _ => ?_) (fun c5 => absurd c5 (by decide))
    refine lc_X6_75 (q := 23) rfl dX6_run_21 rfl ?_
    refine g_iret rfl dX6_run_23 (Nat.le_refl _) (Nat.le_refl _) ?_
    rw [runS, if_neg z2] at h
    exact h I k hr FrC.rf hk
theorem fails_iff {I : Nat → Nat → Int32} {r : Res} (h : MPost I r) : (I 19 7 = 0 ∧ ¬ I 19 5 = 0) ↔ failsF r = true := by
  cases r with
  | none =>
    constructor
    · intro z; exact absurd (z.1.symm.trans h) (by decide)
    · intro z; cases z
  | some q =>
    obtain ⟨h1, h2⟩ := h
    have hf := h1.2.2.2.2.2.2.2.2.2
    have e := nI_eq (a := q.2.1) (b := 0) (by omega) (by omega)
    constructor
    · intro z
      have : ¬ q.2.1 = 0 := fun y => z.2 (by rw [h1.2.2.1, y]; rfl)
      simp [failsF, this]
    · intro z
      refine ⟨h1.2.2.2.1, fun y => ?_⟩
      rw [h1.2.2.1] at y
      have := e.mp y
      simp [failsF, this] at z
set_option maxRecDepth 100000 in
set_option maxHeartbeats 400000 in
theorem l_least {d m : Nat} {S : Sg} {I0 : Nat → Nat → Int32} {Q : Option Int32 → Wd → Prop} (hm : m < vnm (gv S)) : ∀ (n x : Nat) (I : Nat → Nat → Int32) (k : Nat), x + n = 10 → (k = 4 ∨ k = 10) → RepC I S → FrC I0 I → (∀ I2 k2, RepC I2 S → FrC I0 I2 → (k2 = 4 ∨ k2 = 10) → Q (some (leastF (gv S) m n x)) (I2, RR k2)) → G mX6_least (rmd (d + 150) 0 0) (Zm Q 68 68 0 0) 68 13 [.ref 0, .int (nI m), .int (nI x)] [] 68 (I, RR k) 0 0 := by
  intro n
  induction n with
  | zero =>
    intro x I k hx hk hr hFI h
    have hx : x = 10 := by omega
    subst hx
    refine g_iload_n (q := 14) dX6_least_13 rfl rfl ?_
    refine g_bipush (q := 16) (v := nI 9) dX6_least_14 rfl (by decide) ?_
    refine g_icmp_gt (tgt := 50) (q := 19) dX6_least_16 (by decide) rfl (fun _ => ?_) (fun c16 => absurd (nI_lt (by omega) (by omega)) c16)
    refine lc_X6_228 (q := 52) rfl dX6_least_50 rfl ?_
    refine g_iret rfl dX6_least_52 (Nat.le_refl _) (Nat.le_refl _) ?_
    exact h I k hr hFI hk
  | succ n ih =>
    intro x I k hx hk hr hFI h
    have hC : CRep I 4 (gv S) := hr.2.2.2.2.1.1
    have hV : VOk (gv S) := hr.2.2.2.2.1.2
    rw [leastF] at h
    refine g_iload_n (q := 14) dX6_least_13 rfl rfl ?_
    refine g_bipush (q := 16) (v := nI 9) dX6_least_14 rfl (by decide) ?_
    refine g_icmp_gt (tgt := 50) (q := 19) dX6_least_16 (by decide) rfl (fun c16 => absurd c16 (nI_nlt (by omega) (by omega))) (fun _ => ?_)
    refine g_aload_n (q := 20) dX6_least_19 rfl rfl ?_
    refine gf_X6_48 (q := 23) rfl (by first | assumption | rfl) (by first | assumption | rfl) dX6_least_20 rfl ?_
    refine g_aload_n (q := 24) dX6_least_23 rfl rfl ?_
    refine gf_X6_25 (q := 27) rfl (by first | assumption | rfl) (by first | assumption | rfl) dX6_least_24 rfl ?_
    refine g_iload_n (q := 28) dX6_least_27 rfl rfl ?_
    refine g_iload_n (q := 29) dX6_least_28 rfl rfl ?_
    refine k_X6_203 (q := 32) rfl (Nat.le_of_ble_eq_true rfl) (by first | assumption | rfl) dX6_least_29 rfl (c_make_at (by omega) (Or.inl rfl) hC hV hm (by omega) (fun I2 hF hP => ?_))
    have hr2 := hr.scr (scr_fr hF)
    have hF2 := hFI.tr (frc_run hF)
    refine g_aload_n (q := 33) dX6_least_32 rfl rfl ?_
    refine gf_X6_48 (q := 36) rfl (by first | assumption | rfl) (by first | assumption | rfl) dX6_least_33 rfl ?_
    refine k_X6_225 (q := 39) rfl (Nat.le_of_ble_eq_true rfl) (by first | assumption | rfl) dX6_least_36 rfl (c_X3_fails (fun u1 u2 => ?_) (fun z36 => ?_))
    · rw [if_pos ((fails_iff hP).mp ⟨u1, u2⟩)] at h
      refine g_if_eq (tgt := 44) (q := 42) dX6_least_39 (by decide) rfl (fun c39 => absurd c39 (by decide)) (fun _ => ?_)
      refine g_iload_n (q := 43) dX6_least_42 rfl rfl ?_
      refine g_iret rfl dX6_least_43 (Nat.le_refl _) (Nat.le_refl _) ?_
      exact h I2 4 hr2 hF2 (Or.inl rfl)
    · rw [if_neg (fun z => z36 ((fails_iff hP).mpr z))] at h
      refine g_if_eq (tgt := 44) (q := 42) dX6_least_39 (by decide) rfl (fun _ => ?_) (fun c39 => absurd c39 (by decide))
      refine g_iincn (q := 47) dX6_least_44 rfl rfl (by decide) rfl rfl ?_
      refine g_goto (q := 13) dX6_least_47 (by decide) ?_
      exact ih (x + 1) I2 4 (by omega) (Or.inl rfl) hr2 hF2 h
set_option maxRecDepth 100000 in
set_option maxHeartbeats 400000 in
theorem c_X6_least {d k : Nat} {I : Nat → Nat → Int32} {Q : Option Int32 → Wd → Prop} {S : Sg} {m : Int32} (hk : k = 4 ∨ k = 10) (hr : RepC I S) (h : ∀ I2 k2, RepC I2 (leastS S m).2 → FrC I I2 → (k2 = 4 ∨ k2 = 10) → Q (some (leastS S m).1) (I2, RR k2)) : Ex (d + 150) 0 0 mX6_least [.ref 0, .int m] 68 (I, RR k) 68 Q := by
  have hC : CRep I 4 (gv S) := hr.2.2.2.2.1.1
  have hV : VOk (gv S) := hr.2.2.2.2.1.2
  obtain ⟨v1, v2, v3, v4⟩ := id hV
  have hW := wv4 k
  refine ex_intro (L0 := [.ref 0, .int m, .null]) (by decide +kernel) rfl rfl (Nat.le_of_ble_eq_true rfl) rfl ?_
  refine g_aload_n (q := 1) dX6_least_0 rfl rfl ?_
  refine g_iload_n (q := 2) dX6_least_1 rfl rfl ?_
  refine k_X6_156 (q := 5) rfl (Nat.le_of_ble_eq_true rfl) (by first | assumption | rfl) dX6_least_2 rfl (c_X6_isMethod hC (fun z2 => ?_) (fun z2 => ?_))
  · refine g_if_ne (tgt := 11) (q := 8) dX6_least_5 (by decide) rfl (fun _ => ?_) (fun c5 => absurd c5 (by decide))
    have y2 := z2
    obtain ⟨m, hm, rfl⟩ := in1_nat (by omega) z2
    refine g_iconst (q := 12) (v := nI 0) dX6_least_11 rfl (by decide) ?_
    refine g_istore_n (q := 13) dX6_least_12 rfl (by decide) rfl rfl ?_
    rw [leastS, if_pos y2, nI_clamp (by omega)] at h
    exact l_least hm 10 0 I k rfl hk hr FrC.rf h
  · refine g_if_ne (tgt := 11) (q := 8) dX6_least_5 (by decide) rfl (fun c5 => absurd c5 (by decide)) (fun _ => ?_)
    refine lc_X6_75 (q := 10) rfl dX6_least_8 rfl ?_
    refine g_iret rfl dX6_least_10 (Nat.le_refl _) (Nat.le_refl _) ?_
    rw [leastS, if_neg z2] at h
    exact h I k hr FrC.rf hk
