/-- what a run of the reference leaves -/
def MPo (v : Vv) (J : Nat → Nat → Int32) (res : Res) : Prop := match res with
  | none => J 52 29 = nI 1
  | some q => RS v J q.1 0 (fun _ => 0) ∧ J 52 25 = nI q.2.1 ∧ J 52 26 = (if q.2.1 = 0 then q.2.2 else nI 0) ∧ q.2.1 < 10
theorem tests_0 {v : Vv} : testsF v s0 = 0 := by
  have : ∀ n, smN n (fun m => s0.2.2 m * testF v m) = 0 := by
    intro n
    induction n with
    | zero => rfl
    | succ n ih => rw [smN, ih]; simp [s0]
  exact this _
theorem FrR.z {I : Nat → Nat → Int32} {n : Nat} : FrR I (zr I 65 n) := ⟨fun p _ _ h _ => by
  funext j
  unfold zr
  rw [if_neg (fun z => h z.1)], fun j _ => by
  unfold zr
  rw [if_neg (fun z => absurd z.1 (by decide))]⟩
/-- a run changes nothing that the state speaks of -/
theorem RepM.run {I J : Nat → Nat → Int32} {S : Sg} (h : RepM I S) (hF : FrR I J) : RepM J S := by
  obtain ⟨h1, h2, h3, h4, h5, h6, h7, h8⟩ := h
  have E : ∀ p, (p ≠ 52 ∧ p ≠ 64 ∧ p ≠ 65 ∧ p ≠ 66) → J p = I p := fun p hp => hF.1 p hp.1 hp.2.1 hp.2.2.1 hp.2.2.2
  have f := hF.2
  exact ⟨h1.eq (E 53 (by decide)) (E 54 (by decide)) (E 55 (by decide)), ⟨(f 4 (by decide)).trans h2.1, h2.2⟩, h3.eq (f 6 (by decide)) (E 57 (by decide)), ⟨(f 7 (by decide)).trans h4.1, h4.2⟩, ⟨h5.1.eq (E 58 (by decide)), h5.2⟩, h6.eq (f 17 (by decide)) (E 61 (by decide)), h7.eq (E 62 (by decide)) (E 63 (by decide)), h8.eq (f 31 (by decide)) (E 67 (by decide))⟩
theorem MPo.full {v : Vv} {I : Nat → Nat → Int32} {r : Res} (h : MPo v I r) : I 52 29 = nI 0 ∨ I 52 29 = nI 1 := by
  cases r with
  | none => exact Or.inr h
  | some q => exact Or.inl h.1.2.2.2.2.1

set_option maxRecDepth 100000 in
set_option maxHeartbeats 400000 in
theorem l_runs0 {D k p : Nat} {Z : Zt} {l2 l3 : Int32} {I : Nat → Nat → Int32} (hex : G mX7_runs (rmd D 0 0) Z 68 59 [.ref 52, .ref p, .int l2, .int l3, .int (nI 6), .null, .null] [] 68 (zr I 65 6, RR k) 0 0) : ∀ (n i : Nat), i + n = 6 → G mX7_runs (rmd D 0 0) Z 68 38 [.ref 52, .ref p, .int l2, .int l3, .int (nI i), .null, .null] [] 68 (zr I 65 i, RR k) 0 0 := by
  intro n
  induction n with
  | zero =>
    intro i hi
    have hi : i = 6 := by omega
    subst hi
    refine g_iload (q := 40) dX7_runs_38 rfl rfl ?_
    refine g_bipush (q := 42) (v := nI 6) dX7_runs_40 rfl (by decide) ?_
    refine g_icmp_ge (tgt := 59) (q := 45) dX7_runs_42 (by decide) rfl (fun _ => ?_) (fun c42 => absurd (nI_le (by omega) (by omega)) c42)
    exact hex
  | succ n ih =>
    intro i hi
    refine g_iload (q := 40) dX7_runs_38 rfl rfl ?_
    refine g_bipush (q := 42) (v := nI 6) dX7_runs_40 rfl (by decide) ?_
    refine g_icmp_ge (tgt := 59) (q := 45) dX7_runs_42 (by decide) rfl (fun c42 => absurd c42 (nI_ge (by omega) (by omega))) (fun _ => ?_)
    refine g_aload_n (q := 46) dX7_runs_45 rfl rfl ?_
    refine gf_X7_47 (q := 49) rfl (by first | assumption | rfl) (by first | assumption | rfl) dX7_runs_46 rfl ?_
    refine g_iload (q := 51) dX7_runs_49 rfl rfl ?_
    refine g_iconst (q := 52) (v := nI 0) dX7_runs_51 rfl (by decide) ?_
    refine g_iastn (q := 53) (by first | assumption | rfl) (by repeat' first | apply nI_a | apply nI_m | exact rfl) (by omega) dX7_runs_52 rfl ?_
    rw [zr_s]
    refine g_iincn (q := 56) dX7_runs_53 rfl rfl (by decide) rfl rfl ?_
    refine g_goto (q := 38) dX7_runs_56 (by decide) ?_
    exact ih (i + 1) (by omega)
set_option maxRecDepth 100000 in
set_option maxHeartbeats 400000 in
theorem c_X7_runs {d k : Nat} {I : Nat → Nat → Int32} {Q : Option Int32 → Wd → Prop} {p m x : Nat} {v : Vv} (hp52 : p = 58 ∨ p = 60) (hsp : shn 68 p = (1, 92)) (hM : MRep I p 0 v) (hV : VOk v) (hm : m < vnm v) (hx : x < 10) (h : ∀ J, FrR I J → MPo v J (enF v x m 0 s0) → Q none (J, RR k)) : Ex (d + 5) 0 0 mX7_runs [.ref 52, .ref p, .int (nI m), .int (nI x)] 68 (I, RR k) 68 Q := by
  refine ex_intro (L0 := [.ref 52, .ref p, .int (nI m), .int (nI x), .null, .null, .null]) (by decide +kernel) rfl rfl (Nat.le_of_ble_eq_true rfl) rfl ?_
  refine g_aload_n (q := 1) dX7_runs_0 rfl rfl ?_
  refine g_iconst (q := 2) (v := nI 0) dX7_runs_1 rfl (by decide) ?_
  refine pf_X7_183 (q := 5) rfl (by first | assumption | rfl) dX7_runs_2 rfl ?_
  refine g_aload_n (q := 6) dX7_runs_5 rfl rfl ?_
  refine g_iconst (q := 7) (v := nI 0) dX7_runs_6 rfl (by decide) ?_
  refine pf_X7_176 (q := 10) rfl (by first | assumption | rfl) dX7_runs_7 rfl ?_
  refine g_aload_n (q := 11) dX7_runs_10 rfl rfl ?_
  refine g_iconst (q := 12) (v := nI 0) dX7_runs_11 rfl (by decide) ?_
  refine pf_X7_204 (q := 15) rfl (by first | assumption | rfl) dX7_runs_12 rfl ?_
  refine g_aload_n (q := 16) dX7_runs_15 rfl rfl ?_
  refine g_iconst (q := 17) (v := nI 0) dX7_runs_16 rfl (by decide) ?_
  refine pf_X7_207 (q := 20) rfl (by first | assumption | rfl) dX7_runs_17 rfl ?_
  refine g_aload_n (q := 21) dX7_runs_20 rfl rfl ?_
  refine g_iconst (q := 22) (v := nI 0) dX7_runs_21 rfl (by decide) ?_
  refine pf_X7_190 (q := 25) rfl (by first | assumption | rfl) dX7_runs_22 rfl ?_
  refine g_aload_n (q := 26) dX7_runs_25 rfl rfl ?_
  refine g_iconst (q := 27) (v := nI 0) dX7_runs_26 rfl (by decide) ?_
  refine pf_X7_193 (q := 30) rfl (by first | assumption | rfl) dX7_runs_27 rfl ?_
  refine g_aload_n (q := 31) dX7_runs_30 rfl rfl ?_
  refine g_iconst (q := 32) (v := nI 0) dX7_runs_31 rfl (by decide) ?_
  refine pf_X7_179 (q := 35) rfl (by decide) (by decide) (by first | assumption | rfl) dX7_runs_32 rfl ?_
  refine g_iconst (q := 36) (v := nI 0) dX7_runs_35 rfl (by decide) ?_
  refine g_istore (q := 38) dX7_runs_36 rfl (by decide) rfl rfl ?_
  have hl := l_runs0 (D := d + 5) (k := k) (p := p) (Z := Zm Q 68 68 0 0) (l2 := nI m) (l3 := nI x) (I := uI (uI (uI (uI (uI (uI (uI I 52 21 (nI 0)) 52 24 (nI 0)) 52 25 (nI 0)) 52 26 (nI 0)) 52 27 (nI 0)) 52 28 (nI 0)) 52 29 (nI 0)) ?_ 6 0 rfl
  · rw [zr_0] at hl
    exact hl
  obtain ⟨W, hW⟩ : ∃ W, W = zr (uI (uI (uI (uI (uI (uI (uI I 52 21 (nI 0)) 52 24 (nI 0)) 52 25 (nI 0)) 52 26 (nI 0)) 52 27 (nI 0)) 52 28 (nI 0)) 52 29 (nI 0)) 65 6 := ⟨_, rfl⟩
  rw [← hW]
  have wF : FrR I W := by
    rw [hW]
    exact FrR.tr (FrR.tr (FrR.tr (FrR.tr (FrR.tr (FrR.tr (FrR.tr (FrR.u (by omega)) (FrR.u (by omega))) (FrR.u (by omega))) (FrR.u (by omega))) (FrR.u (by omega))) (FrR.u (by omega))) (FrR.u (by omega))) FrR.z
  have wM : MRep W p 0 v := hM.eq (wF.1 p (by omega) (by omega) (by omega) (by omega))
  have w25 : W 52 25 = nI 0 := by rw [hW]; simp [zr, uI]
  have wg : Gof 0 (fun _ => 0) := fun m _ => by simp
  have wR : RS v W s0 0 (fun _ => 0) := ⟨by rw [hW]; simp [zr, uI], by rw [hW]; simp [zr, uI, s0], by rw [hW]; simp [zr, uI, s0], by rw [hW, tests_0]; simp [zr, uI], by rw [hW]; simp [zr, uI], fun j hj => absurd hj (by simp [s0]), by simp [s0], by simp [s0], fun m hm => by rw [hW]; simp [zr, hm]⟩
  refine g_aload_n (q := 60) dX7_runs_59 rfl rfl ?_
  refine g_aload_n (q := 61) dX7_runs_60 rfl rfl ?_
  refine g_iload_n (q := 62) dX7_runs_61 rfl rfl ?_
  refine g_iload_n (q := 63) dX7_runs_62 rfl rfl ?_
  refine k_X7_218 (q := 66) rfl (Nat.le_of_ble_eq_true rfl) (by first | assumption | rfl) dX7_runs_63 rfl (c_X7_callsBy (g := 0) hp52 hsp wM hV hm hx wR (by decide) wg (fun z hz => by decide) (fun h3 => absurd h3 (by decide)) (fun h3 J h4 h5 h6 h7 h8 q5 q6 q7 => ?_))
  refine g_aload_n (q := 67) dX7_runs_66 rfl rfl ?_
  refine gf_X7_183 (q := 70) rfl (by first | assumption | rfl) dX7_runs_67 rfl ?_
  rw [h4.1]
  refine g_istore (q := 72) dX7_runs_70 rfl (by decide) rfl rfl ?_
  have hE : EnM d k p (Zm Q 68 68 0 0) (nI m) (nI x) v I := ⟨hp52, hsp, hM, hV⟩
  refine sim_en hE x 0 0 m (fun _ => 0) J s0 (by omega) hm (by decide) wg (fun z hz => by show 0 + x ≤ 9; omega) h4 h5 ⟨h6, h7, h8⟩ (by decide) (q7.trans w25) (wF.tr q6) (J 64) 2 .null .null (fun _ _ => rfl) ⟨?_, ?_⟩ (by omega)
  · intro J2 s f r u5 u6 hc hR q25 q26 _ hF2 hf9
    refine l_done hR.1 (fun u5 u6 => ?_)
    refine g_vret rfl dX7_runs_201 (Nat.le_refl _) (Nat.le_refl _) ?_
    refine h J2 hF2 ?_
    rw [hc]
    exact ⟨hR, q25, q26, hf9⟩
  · intro hc J2 had u5 u6 hF2 h29
    refine l_full h29 (fun u5 u6 => ?_)
    refine g_vret rfl dX7_runs_201 (Nat.le_refl _) (Nat.le_refl _) ?_
    refine h J2 hF2 ?_
    rw [hc]
    exact h29
set_option maxRecDepth 100000 in
set_option maxHeartbeats 400000 in
theorem c_X7_run {d k : Nat} {I : Nat → Nat → Int32} {Q : Option Int32 → Wd → Prop} {S : Sg} {m x w : Int32} (hr : RepM I S) (h : ∀ I2, RepM I2 (runS S m x w).2 → FrM I I2 → Q (some (runS S m x w).1) (I2, RR k)) : Ex (d + 6) 0 0 mX7_run [.ref 52, .int m, .int x, .int w] 68 (I, RR k) 68 Q := by
  have hVg : VOk (gv S) := hr.2.2.2.2.1.2
  have hMg : MRep I 58 0 (gv S) := hr.2.2.2.2.1.1
  obtain ⟨v1, v2, v3, v4⟩ := id hVg

  refine ex_intro (L0 := [.ref 52, .int m, .int x, .int w]) (by decide +kernel) rfl rfl (Nat.le_of_ble_eq_true rfl) rfl ?_
  refine g_aload_n (q := 1) dX7_run_0 rfl rfl ?_
  refine g_iload_n (q := 2) dX7_run_1 rfl rfl ?_
  refine k_X7_242 (q := 5) rfl (Nat.le_of_ble_eq_true rfl) (by first | assumption | rfl) dX7_run_2 rfl (c_X7_isMethod hMg (fun z2 => ?_) (fun z2 => ?_))
  · refine g_if_eq (tgt := 24) (q := 8) dX7_run_5 (by decide) rfl (fun c5 => absurd c5 (by decide)) (fun _ => ?_)
    refine g_iload_n (q := 9) dX7_run_8 rfl rfl ?_
    refine g_iconst (q := 10) (v := nI 0) dX7_run_9 rfl (by decide) ?_
    refine g_bipush (q := 12) (v := nI 9) dX7_run_10 rfl (by decide) ?_
    refine k_X7_62 (q := 15) rfl (Nat.le_of_ble_eq_true rfl) dX7_run_12 rfl (c_X7_in (fun z121 z122 => ?_) (fun z12 => ?_))
    · have z12 := And.intro z121 z122
      refine g_if_eq (tgt := 24) (q := 18) dX7_run_15 (by decide) rfl (fun c15 => absurd c15 (by decide)) (fun _ => ?_)
      refine g_iload_n (q := 19) dX7_run_18 rfl rfl ?_
      refine g_bipush (q := 21) (v := (-5)) dX7_run_19 rfl (by decide) ?_
      refine g_icmp_ge (tgt := 27) (q := 24) dX7_run_21 (by decide) rfl (fun c21 => ?_) (fun c21 => ?_)
      · have y2 := z2
        obtain ⟨m, hm, rfl⟩ := in1_nat (by omega) z2
        have y12 := z12
        obtain ⟨x, hx, rfl⟩ := inR_nat (by decide) z12
        rw [runS, if_pos y2, if_pos y12, if_pos c21, nI_clamp (by omega), nI_clamp (by omega)] at h
        refine g_aload_n (q := 28) dX7_run_27 rfl rfl ?_
        refine g_aload_n (q := 29) dX7_run_28 rfl rfl ?_
        refine gf_X7_25 (q := 32) rfl (by first | assumption | rfl) (by first | assumption | rfl) dX7_run_29 rfl ?_
        refine g_iload_n (q := 33) dX7_run_32 rfl rfl ?_
        refine g_iload_n (q := 34) dX7_run_33 rfl rfl ?_
        refine k_X7_245 (q := 37) rfl (Nat.le_of_ble_eq_true rfl) (by first | assumption | rfl) dX7_run_34 rfl (c_X7_runs (Or.inl rfl) rfl hMg hVg hm (by omega) (fun J hF hP => ?_))
        have hr2 := hr.run hF
        have hF2 := hF.m
        cases hres : enF (gv S) x m 0 s0 with
        | none =>
          rw [hres] at hP h
          have hP : J 52 29 = nI 1 := hP
          refine g_aload_n (q := 38) dX7_run_37 rfl rfl ?_
          refine gf_X7_179 (q := 41) rfl (by first | assumption | rfl) dX7_run_38 rfl ?_
          rw [hP]
          refine g_if_eq (tgt := 47) (q := 44) dX7_run_41 (by decide) rfl (fun c41 => absurd c41 (by decide)) (fun _ => ?_)
          refine lc_X7_91 (q := 46) rfl dX7_run_44 rfl ?_
          refine g_iret rfl dX7_run_46 (Nat.le_refl _) (Nat.le_refl _) ?_
          exact h J hr2 hF2
        | some q =>
          rw [hres] at hP h
          dsimp only at h
          obtain ⟨hP1, hP2, hP3, hP4⟩ := id hP
          have hlen := hP1.2.2.2.2.2.2.1
          refine g_aload_n (q := 38) dX7_run_37 rfl rfl ?_
          refine gf_X7_179 (q := 41) rfl (by first | assumption | rfl) dX7_run_38 rfl ?_
          rw [hP.1.2.2.2.2.1]
          refine g_if_eq (tgt := 47) (q := 44) dX7_run_41 (by decide) rfl (fun _ => ?_) (fun c41 => absurd c41 (by decide))
          refine g_iload_n (q := 48) dX7_run_47 rfl rfl ?_
          by_cases e1 : w = -1
          · subst e1
            refine g_tabIn (q := 0) (tgt := 84) (off := 36) dX7_run_48 (by decide) (by decide) (by decide) (by decide) ?_
            refine g_aload_n (q := 85) dX7_run_84 rfl rfl ?_
            refine gf_X7_176 (q := 88) rfl (by first | assumption | rfl) dX7_run_85 rfl ?_
            rw [hP.1.2.1]
            refine g_iret rfl dX7_run_88 (Nat.le_refl _) (Nat.le_refl _) ?_
            have hh : runR (gv S) q (-1) = nI q.1.1.length := by unfold runR; simp
            rw [hh] at h
            exact h J hr2 hF2
          · by_cases e2 : w = -2
            · subst e2
              refine g_tabIn (q := 0) (tgt := 89) (off := 41) dX7_run_48 (by decide) (by decide) (by decide) (by decide) ?_
              refine g_aload_n (q := 90) dX7_run_89 rfl rfl ?_
              refine gf_X7_204 (q := 93) rfl (by first | assumption | rfl) dX7_run_90 rfl ?_
              rw [hP.2.1]
              refine g_iret rfl dX7_run_93 (Nat.le_refl _) (Nat.le_refl _) ?_
              have hh : runR (gv S) q (-2) = nI q.2.1 := by unfold runR; simp
              rw [hh] at h
              exact h J hr2 hF2
            · by_cases e3 : w = -3
              · subst e3
                refine g_tabIn (q := 0) (tgt := 94) (off := 46) dX7_run_48 (by decide) (by decide) (by decide) (by decide) ?_
                refine g_aload_n (q := 95) dX7_run_94 rfl rfl ?_
                refine gf_X7_204 (q := 98) rfl (by first | assumption | rfl) dX7_run_95 rfl ?_
                rw [hP.2.1]
                refine g_if_le (tgt := 106) (q := 101) dX7_run_98 (by decide) rfl (fun c98 => ?_) (fun c98 => ?_)
                · have hz : q.2.1 = 0 := by
                    have h1 : nI q.2.1 ≤ nI 0 := c98
                    have h2 := (nI_leI (by omega) (by omega)).mp h1
                    omega
                  refine g_aload_n (q := 107) dX7_run_106 rfl rfl ?_
                  refine gf_X7_207 (q := 110) rfl (by first | assumption | rfl) dX7_run_107 rfl ?_
                  rw [hP.2.2.1, if_pos hz]
                  refine g_iret rfl dX7_run_110 (Nat.le_refl _) (Nat.le_refl _) ?_
                  have hh : runR (gv S) q (-3) = q.2.2 := by unfold runR; simp [hz]
                  rw [hh] at h
                  exact h J hr2 hF2
                · refine lc_X7_56 (q := 103) rfl dX7_run_101 rfl ?_
                  refine g_goto (q := 110) dX7_run_103 (by decide) ?_
                  refine g_iret rfl dX7_run_110 (Nat.le_refl _) (Nat.le_refl _) ?_
                  have hz : ¬ q.2.1 = 0 := fun z => by
                    rw [z] at c98
                    exact c98 (by decide)
                  have hh : runR (gv S) q (-3) = -1000000 := by unfold runR; simp [hz]
                  rw [hh] at h
                  exact h J hr2 hF2
              · by_cases e4 : w = -4
                · subst e4
                  refine g_tabIn (q := 0) (tgt := 111) (off := 63) dX7_run_48 (by decide) (by decide) (by decide) (by decide) ?_
                  refine g_aload_n (q := 112) dX7_run_111 rfl rfl ?_
                  refine gf_X7_190 (q := 115) rfl (by first | assumption | rfl) dX7_run_112 rfl ?_
                  rw [hP.1.2.2.1]
                  refine g_iret rfl dX7_run_115 (Nat.le_refl _) (Nat.le_refl _) ?_
                  have hh : runR (gv S) q (-4) = nI q.1.2.1 := by unfold runR; simp
                  rw [hh] at h
                  exact h J hr2 hF2
                · by_cases e5 : w = -5
                  · subst e5
                    refine g_tabIn (q := 0) (tgt := 116) (off := 68) dX7_run_48 (by decide) (by decide) (by decide) (by decide) ?_
                    refine g_aload_n (q := 117) dX7_run_116 rfl rfl ?_
                    refine gf_X7_193 (q := 120) rfl (by first | assumption | rfl) dX7_run_117 rfl ?_
                    rw [hP.1.2.2.2.1]
                    refine g_iret rfl dX7_run_120 (Nat.le_refl _) (Nat.le_refl _) ?_
                    have hh : runR (gv S) q (-5) = nI (testsF (gv S) q.1) := by unfold runR; simp
                    rw [hh] at h
                    exact h J hr2 hF2
                  · have hw0 : 0 ≤ w := by
                      have h1 := sw_neg c21 e1 e2 e3 e4 e5
                      rw [Int32.le_iff_toInt_le] at c21 ⊢
                      have h2 : (-5 : Int32).toInt = -5 := by decide
                      have h3 : (0 : Int32).toInt = 0 := by decide
                      rw [h2] at c21
                      rw [h3]
                      omega
                    refine g_tabOut (q := 0) (tgt := 121) dX7_run_48 (sw_neg c21 e1 e2 e3 e4 e5) (by decide) ?_
                    refine g_iload_n (q := 122) dX7_run_121 rfl rfl ?_
                    refine g_aload_n (q := 123) dX7_run_122 rfl rfl ?_
                    refine gf_X7_176 (q := 126) rfl (by first | assumption | rfl) dX7_run_123 rfl ?_
                    rw [hP.1.2.1]
                    refine g_icmp_ge (tgt := 138) (q := 129) dX7_run_126 (by decide) rfl (fun c126 => ?_) (fun c126 => ?_)
                    · refine lc_X7_56 (q := 140) rfl dX7_run_138 rfl ?_
                      refine g_iret rfl dX7_run_140 (Nat.le_refl _) (Nat.le_refl _) ?_
                      have hh : runR (gv S) q w = -1000000 := by
                        unfold runR
                        rw [if_neg e1, if_neg e2, if_neg e3, if_neg e4, if_neg e5, if_neg (fun y => absurd y.2 (Int32.not_lt.mpr c126))]
                      rw [hh] at h
                      exact h J hr2 hF2
                    · obtain ⟨j, hj0, rfl⟩ := inR_nat (N := q.1.1.length) (by omega) ⟨hw0, Int32.le_of_lt (Int32.not_le.mp c126)⟩
                      have hj : j < q.1.1.length := (nI_ltI (by omega) (by omega)).mp (Int32.not_le.mp c126)
                      refine g_aload_n (q := 130) dX7_run_129 rfl rfl ?_
                      refine gf_X7_50 (q := 133) rfl (by first | assumption | rfl) (by first | assumption | rfl) dX7_run_130 rfl ?_
                      refine g_iload_n (q := 134) dX7_run_133 rfl rfl ?_
                      refine g_ialdn (q := 135) (by first | assumption | rfl) (by repeat' first | apply nI_a | apply nI_m | exact rfl) (by omega) dX7_run_134 rfl ?_
                      rw [hP.1.2.2.2.2.2.1 j hj]
                      refine g_goto (q := 140) dX7_run_135 (by decide) ?_
                      refine g_iret rfl dX7_run_140 (Nat.le_refl _) (Nat.le_refl _) ?_
                      have hh : runR (gv S) q (nI j) = nI (q.1.1.getD j 0) := by
                        unfold runR
                        rw [if_neg e1, if_neg e2, if_neg e3, if_neg e4, if_neg e5, if_pos ⟨hw0, nI_lt hj (by omega)⟩, nI_clamp (by omega)]
                      rw [hh] at h
                      exact h J hr2 hF2
      · refine lc_X7_70 (q := 26) rfl dX7_run_24 rfl ?_
        refine g_iret rfl dX7_run_26 (Nat.le_refl _) (Nat.le_refl _) ?_
        rw [runS, if_pos z2, if_pos z12, if_neg c21] at h
        exact h I hr FrM.rf
    · refine g_if_eq (tgt := 24) (q := 18) dX7_run_15 (by decide) rfl (fun _ => ?_) (fun c15 => absurd c15 (by decide))
      refine lc_X7_70 (q := 26) rfl dX7_run_24 rfl ?_
      refine g_iret rfl dX7_run_26 (Nat.le_refl _) (Nat.le_refl _) ?_
      rw [runS, if_pos z2, if_neg z12] at h
      exact h I hr FrM.rf
  · refine g_if_eq (tgt := 24) (q := 8) dX7_run_5 (by decide) rfl (fun _ => ?_) (fun c5 => absurd c5 (by decide))
    refine lc_X7_70 (q := 26) rfl dX7_run_24 rfl ?_
    refine g_iret rfl dX7_run_26 (Nat.le_refl _) (Nat.le_refl _) ?_
    rw [runS, if_neg z2] at h
    exact h I hr FrM.rf
theorem mfails_iff {v : Vv} {I : Nat → Nat → Int32} {r : Res} (h : MPo v I r) : (I 52 29 = 0 ∧ ¬ I 52 25 ≤ 0) ↔ failsF r = true := by
  cases r with
  | none =>
    constructor
    · intro z; exact absurd (z.1.symm.trans h) (by decide)
    · intro z; cases z
  | some q =>
    obtain ⟨h1, h2, h3, hf⟩ := h
    have e : nI q.2.1 ≤ nI 0 ↔ q.2.1 ≤ 0 := nI_leI (by omega) (by omega)
    rw [h2]
    constructor
    · intro z
      have : ¬ q.2.1 = 0 := fun y => z.2 (e.mpr (by omega))
      simp [failsF, this]
    · intro z
      refine ⟨h1.2.2.2.2.1, fun y => ?_⟩
      have : q.2.1 = 0 := by have := e.mp y; omega
      simp [failsF, this] at z
set_option maxRecDepth 100000 in
set_option maxHeartbeats 400000 in
theorem l_mleast {d k m : Nat} {S : Sg} {I0 : Nat → Nat → Int32} {Q : Option Int32 → Wd → Prop} (hm : m < vnm (gv S)) : ∀ (n x : Nat) (I : Nat → Nat → Int32), x + n = 10 → RepM I S → FrM I0 I → (∀ I2, RepM I2 S → FrM I0 I2 → Q (some (leastF (gv S) m n x)) (I2, RR k)) → G mX7_least (rmd (d + 6) 0 0) (Zm Q 68 68 0 0) 68 13 [.ref 52, .int (nI m), .int (nI x)] [] 68 (I, RR k) 0 0 := by
  intro n
  induction n with
  | zero =>
    intro x I hx hr hFI h
    have hx : x = 10 := by omega
    subst hx
    refine g_iload_n (q := 14) dX7_least_13 rfl rfl ?_
    refine g_bipush (q := 16) (v := nI 10) dX7_least_14 rfl (by decide) ?_
    refine g_icmp_ge (tgt := 51) (q := 19) dX7_least_16 (by decide) rfl (fun _ => ?_) (fun c16 => absurd (nI_le (by omega) (by omega)) c16)
    refine lc_X7_56 (q := 53) rfl dX7_least_51 rfl ?_
    refine g_iret rfl dX7_least_53 (Nat.le_refl _) (Nat.le_refl _) ?_
    exact h I hr hFI
  | succ n ih =>
    intro x I hx hr hFI h
    have hVg : VOk (gv S) := hr.2.2.2.2.1.2
    have hMg : MRep I 58 0 (gv S) := hr.2.2.2.2.1.1
    obtain ⟨v1, v2, v3, v4⟩ := id hVg
    rw [leastF] at h
    refine g_iload_n (q := 14) dX7_least_13 rfl rfl ?_
    refine g_bipush (q := 16) (v := nI 10) dX7_least_14 rfl (by decide) ?_
    refine g_icmp_ge (tgt := 51) (q := 19) dX7_least_16 (by decide) rfl (fun c16 => absurd c16 (nI_ge (by omega) (by omega))) (fun _ => ?_)
    refine g_aload_n (q := 20) dX7_least_19 rfl rfl ?_
    refine g_aload_n (q := 21) dX7_least_20 rfl rfl ?_
    refine gf_X7_25 (q := 24) rfl (by first | assumption | rfl) (by first | assumption | rfl) dX7_least_21 rfl ?_
    refine g_iload_n (q := 25) dX7_least_24 rfl rfl ?_
    refine g_iload_n (q := 26) dX7_least_25 rfl rfl ?_
    refine k_X7_245 (q := 29) rfl (Nat.le_of_ble_eq_true rfl) (by first | assumption | rfl) dX7_least_26 rfl (c_X7_runs (Or.inl rfl) rfl hMg hVg hm (by omega) (fun J hF hP => ?_))
    have hr2 := hr.run hF
    have hF2 := hFI.tr hF.m
    have hfi := mfails_iff hP
    refine g_aload_n (q := 30) dX7_least_29 rfl rfl ?_
    refine gf_X7_179 (q := 33) rfl (by first | assumption | rfl) dX7_least_30 rfl ?_
    refine g_if_ne (tgt := 45) (q := 36) dX7_least_33 (by decide) rfl (fun c33 => ?_) (fun c33 => ?_)
    · refine g_iincn (q := 48) dX7_least_45 rfl rfl (by decide) rfl rfl ?_
      refine g_goto (q := 13) dX7_least_48 (by decide) ?_
      rw [if_neg (fun z => c33 (hfi.mpr z).1)] at h
      exact ih (x + 1) J (by omega) hr2 hF2 h
    · refine g_aload_n (q := 37) dX7_least_36 rfl rfl ?_
      refine gf_X7_204 (q := 40) rfl (by first | assumption | rfl) dX7_least_37 rfl ?_
      refine g_if_le (tgt := 45) (q := 43) dX7_least_40 (by decide) rfl (fun c40 => ?_) (fun c40 => ?_)
      · refine g_iincn (q := 48) dX7_least_45 rfl rfl (by decide) rfl rfl ?_
        refine g_goto (q := 13) dX7_least_48 (by decide) ?_
        rw [if_neg (fun z => (hfi.mpr z).2 c40)] at h
        exact ih (x + 1) J (by omega) hr2 hF2 h
      · refine g_iload_n (q := 44) dX7_least_43 rfl rfl ?_
        refine g_iret rfl dX7_least_44 (Nat.le_refl _) (Nat.le_refl _) ?_
        rw [if_pos (hfi.mp ⟨c33, c40⟩)] at h
        exact h J hr2 hF2
set_option maxRecDepth 100000 in
set_option maxHeartbeats 400000 in
theorem c_X7_least {d k : Nat} {I : Nat → Nat → Int32} {Q : Option Int32 → Wd → Prop} {S : Sg} {m : Int32} (hr : RepM I S) (h : ∀ I2, RepM I2 (leastS S m).2 → FrM I I2 → Q (some (leastS S m).1) (I2, RR k)) : Ex (d + 6) 0 0 mX7_least [.ref 52, .int m] 68 (I, RR k) 68 Q := by
  have hVg : VOk (gv S) := hr.2.2.2.2.1.2
  have hMg : MRep I 58 0 (gv S) := hr.2.2.2.2.1.1
  obtain ⟨v1, v2, v3, v4⟩ := id hVg

  refine ex_intro (L0 := [.ref 52, .int m, .null]) (by decide +kernel) rfl rfl (Nat.le_of_ble_eq_true rfl) rfl ?_
  refine g_aload_n (q := 1) dX7_least_0 rfl rfl ?_
  refine g_iload_n (q := 2) dX7_least_1 rfl rfl ?_
  refine k_X7_242 (q := 5) rfl (Nat.le_of_ble_eq_true rfl) (by first | assumption | rfl) dX7_least_2 rfl (c_X7_isMethod hMg (fun z2 => ?_) (fun z2 => ?_))
  · refine g_if_ne (tgt := 11) (q := 8) dX7_least_5 (by decide) rfl (fun _ => ?_) (fun c5 => absurd c5 (by decide))
    have y2 := z2
    obtain ⟨m, hm, rfl⟩ := in1_nat (by omega) z2
    refine g_iconst (q := 12) (v := nI 0) dX7_least_11 rfl (by decide) ?_
    refine g_istore_n (q := 13) dX7_least_12 rfl (by decide) rfl rfl ?_
    rw [leastS, if_pos y2, nI_clamp (by omega)] at h
    exact l_mleast hm 10 0 I rfl hr FrM.rf h
  · refine g_if_ne (tgt := 11) (q := 8) dX7_least_5 (by decide) rfl (fun c5 => absurd c5 (by decide)) (fun _ => ?_)
    refine lc_X7_70 (q := 10) rfl dX7_least_8 rfl ?_
    refine g_iret rfl dX7_least_10 (Nat.le_refl _) (Nat.le_refl _) ?_
    rw [leastS, if_neg z2] at h
    exact h I hr FrM.rf
