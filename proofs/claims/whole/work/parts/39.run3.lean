def s0 : Rs := ([], 0, fun _ => 0)
def MPost (I : Nat → Nat → Int32) (res : Res) : Prop := match res with
  | none => I 19 7 = nI 1
  | some x => RSt I x.1 x.2.1 ∧ (x.2.1 = 0 → I 19 6 = x.2.2)

set_option maxRecDepth 100000 in
set_option maxHeartbeats 400000 in
theorem l_make {D b m x : Nat} {Z : Zt} {n0 : Nat} {I : Nat → Nat → Int32} (hex : G mX3_make (rmd (D + 1) 0 0) Z n0 49 [.ref 19, .ref b, .int (nI m), .int (nI x), .int (nI 6)] [] 68 (zr I 21 6, RR b) 0 0) : ∀ (k i : Nat), i + k = 6 → G mX3_make (rmd (D + 1) 0 0) Z n0 28 [.ref 19, .ref b, .int (nI m), .int (nI x), .int (nI i)] [] 68 (zr I 21 i, RR b) 0 0 := by
  intro k
  induction k with
  | zero =>
    intro i hi
    have hi : i = 6 := by omega
    subst hi
    refine g_iload (q := 30) dX3_make_28 rfl rfl ?_
    refine g_bipush (q := 32) (v := nI 6) dX3_make_30 rfl (by decide) ?_
    refine g_icmp_ge (tgt := 49) (q := 35) dX3_make_32 (by decide) rfl (fun _ => ?_) (fun c32 => absurd (nI_le (by omega) (by omega)) c32)
    exact hex
  | succ k ih =>
    intro i hi
    refine g_iload (q := 30) dX3_make_28 rfl rfl ?_
    refine g_bipush (q := 32) (v := nI 6) dX3_make_30 rfl (by decide) ?_
    refine g_icmp_ge (tgt := 49) (q := 35) dX3_make_32 (by decide) rfl (fun c32 => absurd c32 (nI_ge (by omega) (by omega))) (fun _ => ?_)
    refine g_aload_n (q := 36) dX3_make_35 rfl rfl ?_
    refine gf_X3_15 (q := 39) rfl (by first | assumption | rfl) (by first | assumption | rfl) dX3_make_36 rfl ?_
    refine g_iload (q := 41) dX3_make_39 rfl rfl ?_
    refine g_iconst (q := 42) (v := nI 0) dX3_make_41 rfl (by decide) ?_
    refine g_iastn (q := 43) (by first | assumption | rfl) (by repeat' first | apply nI_a | apply nI_m | exact rfl) (by omega) dX3_make_42 rfl ?_
    rw [zr_s]
    refine g_iincn (q := 46) dX3_make_43 rfl rfl (by decide) rfl rfl ?_
    refine g_goto (q := 28) dX3_make_46 (by decide) ?_
    exact ih (i + 1) (by omega)
set_option maxRecDepth 100000 in
set_option maxHeartbeats 400000 in
theorem c_make_at {D k b m x : Nat} {I : Nat → Nat → Int32} {v : Vv} {Q : Option Int32 → Wd → Prop} (hD : 140 ≤ D) (hb : b = 4 ∨ b = 10) (hC : CRep I b v) (hV : VOk v) (hm : m < vnm v) (hx : x < 10) (h : ∀ I2, Fr [19, 20, 21] I I2 → MPost I2 (enF v x m 0 s0) → Q none (I2, RR b)) : Ex D 0 0 mX3_make [.ref 19, .ref b, .int (nI m), .int (nI x)] 68 (I, RR k) 68 Q := by
  obtain ⟨d, rfl⟩ : ∃ d, D = d + 13 * x + 14 + 1 := ⟨D - 13 * x - 15, by omega⟩
  have hp21 := kfr hb
  have hE := CE_all hb hV x hx d
  refine ex_intro (L0 := [.ref 19, .ref b, .int (nI m), .int (nI x), .null]) (by decide +kernel) rfl rfl (Nat.le_of_ble_eq_true rfl) rfl ?_
  refine g_aload_n (q := 1) dX3_make_0 rfl rfl ?_
  refine g_aload_n (q := 2) dX3_make_1 rfl rfl ?_
  refine pf_X3_35 (q := 5) rfl (by first | assumption | rfl) dX3_make_2 rfl ?_
  rw [RR_up]
  refine g_aload_n (q := 6) dX3_make_5 rfl rfl ?_
  refine g_iconst (q := 7) (v := nI 0) dX3_make_6 rfl (by decide) ?_
  refine pf_X3_18 (q := 10) rfl (by first | assumption | rfl) dX3_make_7 rfl ?_
  refine g_aload_n (q := 11) dX3_make_10 rfl rfl ?_
  refine g_iconst (q := 12) (v := nI 0) dX3_make_11 rfl (by decide) ?_
  refine pf_X3_22 (q := 15) rfl (by first | assumption | rfl) dX3_make_12 rfl ?_
  refine g_aload_n (q := 16) dX3_make_15 rfl rfl ?_
  refine g_iconst (q := 17) (v := nI 0) dX3_make_16 rfl (by decide) ?_
  refine pf_X3_25 (q := 20) rfl (by first | assumption | rfl) dX3_make_17 rfl ?_
  refine g_aload_n (q := 21) dX3_make_20 rfl rfl ?_
  refine g_iconst (q := 22) (v := nI 0) dX3_make_21 rfl (by decide) ?_
  refine pf_X3_31 (q := 25) rfl (by decide) (by decide) (by first | assumption | rfl) dX3_make_22 rfl ?_
  refine g_iconst (q := 26) (v := nI 0) dX3_make_25 rfl (by decide) ?_
  refine g_istore (q := 28) dX3_make_26 rfl (by decide) rfl rfl ?_
  have hl := l_make (D := d + 13 * x + 14) (b := b) (m := m) (x := x) (Z := Zm Q 68 68 0 0) (n0 := 68) (I := uI (uI (uI (uI I 19 3 (nI 0)) 19 4 (nI 0)) 19 5 (nI 0)) 19 7 (nI 0)) ?_ 6 0 (by omega)
  · rw [zr_0] at hl
    exact hl
  have hFz : Fr [19, 20, 21] I (zr (uI (uI (uI (uI I 19 3 (nI 0)) 19 4 (nI 0)) 19 5 (nI 0)) 19 7 (nI 0)) 21 6) := by
    intro p hp
    have n1 : p ≠ 19 := fun e => hp (by rw [e]; decide)
    have n2 : p ≠ 21 := fun e => hp (by rw [e]; decide)
    funext j
    simp [zr, uI, n1, n2]
  have hS0 : RSt (zr (uI (uI (uI (uI I 19 3 (nI 0)) 19 4 (nI 0)) 19 5 (nI 0)) 19 7 (nI 0)) 21 6) s0 0 := by
    refine ⟨by simp [zr, uI, s0], by simp [zr, uI, s0], by simp [zr, uI], by simp [zr, uI], fun j hj => absurd hj (by simp [s0]), fun m hm => by simp [zr, uI, hm, s0], by simp [s0], by simp [s0], fun m hm => by simp [s0], by decide⟩
  refine g_aload_n (q := 50) dX3_make_49 rfl rfl ?_
  refine g_aload_n (q := 51) dX3_make_50 rfl rfl ?_
  refine g_iload_n (q := 52) dX3_make_51 rfl rfl ?_
  refine g_iload_n (q := 53) dX3_make_52 rfl rfl ?_
  refine g_iconst (q := 54) (v := nI 0) dX3_make_53 rfl (by decide) ?_
  refine k_X3_39 (q := 57) rfl (Nat.le_of_ble_eq_true rfl) (by first | assumption | rfl) dX3_make_54 rfl (hE _ s0 m 0 _ hS0 (hC.fr hFz hp21) hm (by decide) (fun I2 r hF hP => ?_))
  refine pf_X3_28 (q := 60) rfl (by first | assumption | rfl) dX3_make_57 rfl ?_
  refine g_vret rfl dX3_make_60 (Nat.le_refl _) (Nat.le_refl _) ?_
  refine h _ (hFz.tr (hF.tr (Fr.ui (by decide)))) ?_
  cases hr : enF v x m 0 s0 with
  | none => rw [hr] at hP; show uI I2 19 6 r 19 7 = nI 1; simp [uI]; exact hP
  | some q =>
    rw [hr] at hP
    obtain ⟨⟨h1, h2, h3, h4, h5, h6, h7, h8, h9, h10⟩, hP2⟩ := hP
    exact ⟨⟨by simp [uI, h1], by simp [uI, h2], by simp [uI, h3], by simp [uI, h4], fun z hz => by simp [uI, h5 z hz], fun z hz => by simp [uI, h6 z hz], h7, h8, h9, h10⟩, fun z => by simp [uI, hP2 z]⟩
set_option maxRecDepth 100000 in
set_option maxHeartbeats 400000 in
theorem c_X3_number {d k : Nat} {I : Nat → Nat → Int32} {Q : Option Int32 → Wd → Prop} {i : Int32} {s : Rs} {f : Nat} (SS : RSt I s f) (h1 : ∀ j : Nat, j < s.1.length → i = nI j → Q (some (nI (s.1.getD j 0))) (I, RR k)) (h0 : (i < 0 ∨ nI s.1.length ≤ i) → Q (some (-1000000)) (I, RR k)) : Ex d 0 0 mX3_number [.ref 19, .int i] 68 (I, RR k) 68 Q := by
  obtain ⟨g1, g2, g3, g4, g5, g6, g7, g8⟩ := id SS
  refine ex_intro (L0 := [.ref 19, .int i]) (by decide +kernel) rfl rfl (Nat.le_of_ble_eq_true rfl) rfl ?_
  refine g_iload_n (q := 1) dX3_number_0 rfl rfl ?_
  refine g_if_lt (tgt := 21) (q := 4) dX3_number_1 (by decide) rfl (fun c1 => ?_) (fun c1 => ?_)
  · refine lc_X3_43 (q := 23) rfl dX3_number_21 rfl ?_
    refine g_iret rfl dX3_number_23 (Nat.le_refl _) (Nat.le_refl _) ?_
    exact h0 (Or.inl c1)
  · refine g_iload_n (q := 5) dX3_number_4 rfl rfl ?_
    refine g_aload_n (q := 6) dX3_number_5 rfl rfl ?_
    refine gf_X3_18 (q := 9) rfl (by first | assumption | rfl) dX3_number_6 rfl ?_
    rw [g1]
    refine g_icmp_ge (tgt := 21) (q := 12) dX3_number_9 (by decide) rfl (fun c9 => ?_) (fun c9 => ?_)
    · refine lc_X3_43 (q := 23) rfl dX3_number_21 rfl ?_
      refine g_iret rfl dX3_number_23 (Nat.le_refl _) (Nat.le_refl _) ?_
      exact h0 (Or.inr c9)
    · obtain ⟨j, hj, rfl⟩ := nI_of c1
      have hlt : j < s.1.length := by have := mt (nI_leI (a := s.1.length) (b := j) (by omega) (by omega)).mpr c9; omega
      refine g_aload_n (q := 13) dX3_number_12 rfl rfl ?_
      refine gf_X3_9 (q := 16) rfl (by first | assumption | rfl) (by first | assumption | rfl) dX3_number_13 rfl ?_
      refine g_iload_n (q := 17) dX3_number_16 rfl rfl ?_
      refine g_ialdn (q := 18) (by first | assumption | rfl) rfl (by omega) dX3_number_17 rfl ?_
      rw [g5 j hlt]
      refine g_goto (q := 23) dX3_number_18 (by decide) ?_
      refine g_iret rfl dX3_number_23 (Nat.le_refl _) (Nat.le_refl _) ?_
      exact h1 j hlt rfl
set_option maxRecDepth 100000 in
set_option maxHeartbeats 400000 in
theorem l_tests {d k f n0 : Nat} {Z : Zt} {I : Nat → Nat → Int32} {v : Vv} {s : Rs} (hk : k = 4 ∨ k = 10) (hC : CRep I k v) (hV : VOk v) (SS : RSt I s f) (hex : G mX3_tests (rmd (d + 7) 0 0) Z n0 39 [.ref 19, .int (nI (smN (vnm v) (fun m => s.2.2 m * testF v m))), .int (nI (vnm v))] [] 68 (I, RR k) 0 0) : ∀ (kk i : Nat), i + kk = vnm v → G mX3_tests (rmd (d + 7) 0 0) Z n0 4 [.ref 19, .int (nI (smN i (fun m => s.2.2 m * testF v m))), .int (nI i)] [] 68 (I, RR k) 0 0 := by
  obtain ⟨hW, hwk, hsk⟩ := kwv hk
  have hnm := hC.1
  have v1 := hV.1
  obtain ⟨g1, g2, g3, g4, g5, g6, g7, g8, g9, g10⟩ := id SS
  intro kk
  induction kk with
  | zero =>
    intro i hi
    have hi : i = vnm v := by omega
    subst hi
    refine g_iload_n (q := 5) dX3_tests_4 rfl rfl ?_
    refine g_aload_n (q := 6) dX3_tests_5 rfl rfl ?_
    refine gf_X3_35 (q := 9) rfl (by first | assumption | rfl) (by first | assumption | rfl) dX3_tests_6 rfl ?_
    refine k_X3_44 (q := 12) rfl (Nat.le_of_ble_eq_true rfl) (by first | assumption | rfl) dX3_tests_9 rfl (c_X5_methods hW ?_)
    rw [hnm]
    refine g_icmp_ge (tgt := 39) (q := 15) dX3_tests_12 (by decide) rfl (fun _ => ?_) (fun c12 => absurd (nI_le (by omega) (by omega)) c12)
    exact hex
  | succ kk ih =>
    intro i hi
    refine g_iload_n (q := 5) dX3_tests_4 rfl rfl ?_
    refine g_aload_n (q := 6) dX3_tests_5 rfl rfl ?_
    refine gf_X3_35 (q := 9) rfl (by first | assumption | rfl) (by first | assumption | rfl) dX3_tests_6 rfl ?_
    refine k_X3_44 (q := 12) rfl (Nat.le_of_ble_eq_true rfl) (by first | assumption | rfl) dX3_tests_9 rfl (c_X5_methods hW ?_)
    rw [hnm]
    refine g_icmp_ge (tgt := 39) (q := 15) dX3_tests_12 (by decide) rfl (fun c12 => absurd c12 (nI_ge (by omega) (by omega))) (fun _ => ?_)
    refine g_iload_n (q := 16) dX3_tests_15 rfl rfl ?_
    refine g_aload_n (q := 17) dX3_tests_16 rfl rfl ?_
    refine gf_X3_15 (q := 20) rfl (by first | assumption | rfl) (by first | assumption | rfl) dX3_tests_17 rfl ?_
    refine g_iload_n (q := 21) dX3_tests_20 rfl rfl ?_
    refine g_ialdn (q := 22) (by first | assumption | rfl) (by repeat' first | apply nI_a | apply nI_m | exact rfl) (by omega) dX3_tests_21 rfl ?_
    rw [g6 i (by omega)]
    refine g_aload_n (q := 23) dX3_tests_22 rfl rfl ?_
    refine gf_X3_35 (q := 26) rfl (by first | assumption | rfl) (by first | assumption | rfl) dX3_tests_23 rfl ?_
    refine g_iload_n (q := 27) dX3_tests_26 rfl rfl ?_
    refine k_X3_50 (q := 30) rfl (Nat.le_of_ble_eq_true rfl) (by first | assumption | rfl) dX3_tests_27 rfl (c_X5_testedAbout hW hC hV (by omega) ?_)
    refine g_imul (q := 31) dX3_tests_30 rfl ?_
    refine g_iadd (q := 32) dX3_tests_31 rfl ?_
    rw [show nI (s.2.2 i) * nI (testF v i) = nI (s.2.2 i * testF v i) from (Int32.ofNat_mul _ _).symm, nI_add]
    refine g_istore_n (q := 33) dX3_tests_32 rfl (by decide) rfl rfl ?_
    refine g_iincn (q := 36) dX3_tests_33 rfl rfl (by decide) rfl rfl ?_
    refine g_goto (q := 4) dX3_tests_36 (by decide) ?_
    exact ih (i + 1) (by omega)
set_option maxRecDepth 100000 in
set_option maxHeartbeats 400000 in
theorem c_X3_tests {d k : Nat} {I : Nat → Nat → Int32} {Q : Option Int32 → Wd → Prop} {v : Vv} {s : Rs} {f : Nat} (hk : k = 4 ∨ k = 10) (hC : CRep I k v) (hV : VOk v) (SS : RSt I s f) (h : Q (some (nI (smN (vnm v) (fun m => s.2.2 m * testF v m)))) (I, RR k)) : Ex (d + 7) 0 0 mX3_tests [.ref 19] 68 (I, RR k) 68 Q := by
  refine ex_intro (L0 := [.ref 19, .null, .null]) (by decide +kernel) rfl rfl (Nat.le_of_ble_eq_true rfl) rfl ?_
  refine g_iconst (q := 1) (v := nI 0) dX3_tests_0 rfl (by decide) ?_
  refine g_istore_n (q := 2) dX3_tests_1 rfl (by decide) rfl rfl ?_
  refine g_iconst (q := 3) (v := nI 0) dX3_tests_2 rfl (by decide) ?_
  refine g_istore_n (q := 4) dX3_tests_3 rfl (by decide) rfl rfl ?_
  refine l_tests hk hC hV SS ?_ (vnm v) 0 (by omega)
  refine g_iload_n (q := 40) dX3_tests_39 rfl rfl ?_
  refine g_iret rfl dX3_tests_40 (Nat.le_refl _) (Nat.le_refl _) ?_
  exact h
set_option maxRecDepth 100000 in
set_option maxHeartbeats 400000 in
theorem c_X3_endsAs {d k : Nat} {I : Nat → Nat → Int32} {Q : Option Int32 → Wd → Prop} {a b c : Int32} (h1 : I 19 7 = 0 → I 19 3 = a → I 19 5 = b → (if I 19 5 = 0 then I 19 6 else -1000000) = c → Q (some (nI 1)) (I, RR k)) (h0 : ¬ (I 19 7 = 0 ∧ I 19 3 = a ∧ I 19 5 = b ∧ (if I 19 5 = 0 then I 19 6 else -1000000) = c) → Q (some (nI 0)) (I, RR k)) : Ex (d + 1) 0 0 mX3_endsAs [.ref 19, .int a, .int b, .int c] 68 (I, RR k) 68 Q := by
  refine ex_intro (L0 := [.ref 19, .int a, .int b, .int c]) (by decide +kernel) rfl rfl (Nat.le_of_ble_eq_true rfl) rfl ?_
  refine g_aload_n (q := 1) dX3_endsAs_0 rfl rfl ?_
  refine gf_X3_31 (q := 4) rfl (by first | assumption | rfl) dX3_endsAs_1 rfl ?_
  refine g_if_ne (tgt := 35) (q := 7) dX3_endsAs_4 (by decide) rfl (fun c4 => ?_) (fun c4 => ?_)
  · refine g_iconst (q := 36) (v := nI 0) dX3_endsAs_35 rfl (by decide) ?_
    refine g_zret rfl (by decide) dX3_endsAs_36 (Nat.le_refl _) (Nat.le_refl _) ?_
    exact h0 (fun z => c4 z.1)
  · refine g_aload_n (q := 8) dX3_endsAs_7 rfl rfl ?_
    refine gf_X3_18 (q := 11) rfl (by first | assumption | rfl) dX3_endsAs_8 rfl ?_
    refine g_iload_n (q := 12) dX3_endsAs_11 rfl rfl ?_
    refine g_icmp_ne (tgt := 35) (q := 15) dX3_endsAs_12 (by decide) rfl (fun c12 => ?_) (fun c12 => ?_)
    · refine g_iconst (q := 36) (v := nI 0) dX3_endsAs_35 rfl (by decide) ?_
      refine g_zret rfl (by decide) dX3_endsAs_36 (Nat.le_refl _) (Nat.le_refl _) ?_
      exact h0 (fun z => c12 z.2.1)
    · refine g_aload_n (q := 16) dX3_endsAs_15 rfl rfl ?_
      refine gf_X3_25 (q := 19) rfl (by first | assumption | rfl) dX3_endsAs_16 rfl ?_
      refine g_iload_n (q := 20) dX3_endsAs_19 rfl rfl ?_
      refine g_icmp_ne (tgt := 35) (q := 23) dX3_endsAs_20 (by decide) rfl (fun c20 => ?_) (fun c20 => ?_)
      · refine g_iconst (q := 36) (v := nI 0) dX3_endsAs_35 rfl (by decide) ?_
        refine g_zret rfl (by decide) dX3_endsAs_36 (Nat.le_refl _) (Nat.le_refl _) ?_
        exact h0 (fun z => c20 z.2.2.1)
      · refine g_aload_n (q := 24) dX3_endsAs_23 rfl rfl ?_
        refine k_X3_54 (q := 27) rfl (Nat.le_of_ble_eq_true rfl) (by first | assumption | rfl) dX3_endsAs_24 rfl (c_X3_returned ?_)
        refine g_iload_n (q := 28) dX3_endsAs_27 rfl rfl ?_
        refine g_icmp_ne (tgt := 35) (q := 31) dX3_endsAs_28 (by decide) rfl (fun c28 => ?_) (fun c28 => ?_)
        · refine g_iconst (q := 36) (v := nI 0) dX3_endsAs_35 rfl (by decide) ?_
          refine g_zret rfl (by decide) dX3_endsAs_36 (Nat.le_refl _) (Nat.le_refl _) ?_
          exact h0 (fun z => c28 z.2.2.2)
        · refine g_iconst (q := 32) (v := nI 1) dX3_endsAs_31 rfl (by decide) ?_
          refine g_goto (q := 36) dX3_endsAs_32 (by decide) ?_
          refine g_zret rfl (by decide) dX3_endsAs_36 (Nat.le_refl _) (Nat.le_refl _) ?_
          exact h1 c4 c12 c20 c28
set_option maxRecDepth 100000 in
set_option maxHeartbeats 400000 in
theorem c_begins_full {d k : Nat} {I : Nat → Nat → Int32} {Q : Option Int32 → Wd → Prop} {b : Nat} (hR : isRw (RR k) 68 b) (hf : I 19 7 = nI 1) (h : Q (some (nI 0)) (I, RR k)) : Ex (d + 1) 0 0 mX3_beginsWith [.ref 19, .ref b] 68 (I, RR k) 68 Q := by
  refine ex_intro (L0 := [.ref 19, .ref b, .null]) (by decide +kernel) rfl rfl (Nat.le_of_ble_eq_true rfl) rfl ?_
  refine g_aload_n (q := 1) dX3_beginsWith_0 rfl rfl ?_
  refine gf_X3_31 (q := 4) rfl (by first | assumption | rfl) dX3_beginsWith_1 rfl ?_
  rw [hf]
  refine g_if_ne (tgt := 18) (q := 7) dX3_beginsWith_4 (by decide) rfl (fun _ => ?_) (fun c4 => absurd c4 (by decide))
  refine g_iconst (q := 19) (v := nI 0) dX3_beginsWith_18 rfl (by decide) ?_
  refine g_zret rfl (by decide) dX3_beginsWith_19 (Nat.le_refl _) (Nat.le_refl _) ?_
  exact h
set_option maxRecDepth 100000 in
set_option maxHeartbeats 400000 in
theorem l_begins {d k b sz f : Nat} {I : Nat → Nat → Int32} {s : Rs} {Q : Option Int32 → Wd → Prop} (hR : isRw (RR k) 68 b) (hsz : I b 2 = nI sz) (h40 : sz ≤ 40) (SS : RSt I s f) (hle : sz ≤ s.1.length) (h1 : (∀ z, z < sz → nI (s.1.getD z 0) = I (b + 1) z) → Q (some (nI 1)) (I, RR k)) (h0 : ¬ (∀ z, z < sz → nI (s.1.getD z 0) = I (b + 1) z) → Q (some (nI 0)) (I, RR k)) : ∀ (kk i : Nat), i + kk = sz → (∀ z, z < i → nI (s.1.getD z 0) = I (b + 1) z) → G mX3_beginsWith (rmd (d + 1) 0 0) (Zm Q 68 68 0 0) 68 22 [.ref 19, .ref b, .int (nI i)] [] 68 (I, RR k) 0 0 := by
  obtain ⟨hs, r0, s0⟩ := id hR
  obtain ⟨g1, g2, g3, g4, g5, g6, g7, g8, g9, g10⟩ := id SS
  intro kk
  induction kk with
  | zero =>
    intro i hi hp
    have hi : i = sz := by omega
    subst hi
    refine g_iload_n (q := 23) dX3_beginsWith_22 rfl rfl ?_
    refine g_aload_n (q := 24) dX3_beginsWith_23 rfl rfl ?_
    refine k_X3_56 (q := 27) rfl (Nat.le_of_ble_eq_true rfl) (by first | assumption | rfl) dX3_beginsWith_24 rfl (c_X2_size hR ?_)
    rw [hsz]
    refine g_icmp_ge (tgt := 52) (q := 30) dX3_beginsWith_27 (by decide) rfl (fun _ => ?_) (fun c27 => absurd (nI_le (by omega) (by omega)) c27)
    refine g_iconst (q := 53) (v := nI 1) dX3_beginsWith_52 rfl (by decide) ?_
    refine g_zret rfl (by decide) dX3_beginsWith_53 (Nat.le_refl _) (Nat.le_refl _) ?_
    exact h1 hp
  | succ kk ih =>
    intro i hi hp
    refine g_iload_n (q := 23) dX3_beginsWith_22 rfl rfl ?_
    refine g_aload_n (q := 24) dX3_beginsWith_23 rfl rfl ?_
    refine k_X3_56 (q := 27) rfl (Nat.le_of_ble_eq_true rfl) (by first | assumption | rfl) dX3_beginsWith_24 rfl (c_X2_size hR ?_)
    rw [hsz]
    refine g_icmp_ge (tgt := 52) (q := 30) dX3_beginsWith_27 (by decide) rfl (fun c27 => absurd c27 (nI_ge (by omega) (by omega))) (fun _ => ?_)
    refine g_aload_n (q := 31) dX3_beginsWith_30 rfl rfl ?_
    refine gf_X3_9 (q := 34) rfl (by first | assumption | rfl) (by first | assumption | rfl) dX3_beginsWith_31 rfl ?_
    refine g_iload_n (q := 35) dX3_beginsWith_34 rfl rfl ?_
    refine g_ialdn (q := 36) (by first | assumption | rfl) (by repeat' first | apply nI_a | apply nI_m | exact rfl) (by omega) dX3_beginsWith_35 rfl ?_
    rw [g5 i (by omega)]
    refine g_aload_n (q := 37) dX3_beginsWith_36 rfl rfl ?_
    refine g_iload_n (q := 38) dX3_beginsWith_37 rfl rfl ?_
    refine k_X3_60 (q := 41) rfl (Nat.le_of_ble_eq_true rfl) (by first | assumption | rfl) dX3_beginsWith_38 rfl (c_X2_item hR (by omega) ?_)
    refine g_icmp_eq (tgt := 46) (q := 44) dX3_beginsWith_41 (by decide) rfl (fun c41 => ?_) (fun c41 => ?_)
    · refine g_iincn (q := 49) dX3_beginsWith_46 rfl rfl (by decide) rfl rfl ?_
      refine g_goto (q := 22) dX3_beginsWith_49 (by decide) ?_
      refine ih (i + 1) (by omega) (fun z hz => ?_)
      by_cases e : z = i
      · rw [e]; exact c41
      · exact hp z (by omega)
    · refine g_iconst (q := 45) (v := nI 0) dX3_beginsWith_44 rfl (by decide) ?_
      refine g_zret rfl (by decide) dX3_beginsWith_45 (Nat.le_refl _) (Nat.le_refl _) ?_
      exact h0 (fun z => c41 (z i (by omega)))
set_option maxRecDepth 100000 in
set_option maxHeartbeats 400000 in
theorem c_X3_beginsWith {d k : Nat} {I : Nat → Nat → Int32} {Q : Option Int32 → Wd → Prop} {b sz f : Nat} {s : Rs} (hR : isRw (RR k) 68 b) (hsz : I b 2 = nI sz) (h40 : sz ≤ 40) (SS : RSt I s f) (h1 : sz ≤ s.1.length → (∀ z, z < sz → nI (s.1.getD z 0) = I (b + 1) z) → Q (some (nI 1)) (I, RR k)) (h0 : ¬ (sz ≤ s.1.length ∧ ∀ z, z < sz → nI (s.1.getD z 0) = I (b + 1) z) → Q (some (nI 0)) (I, RR k)) : Ex (d + 1) 0 0 mX3_beginsWith [.ref 19, .ref b] 68 (I, RR k) 68 Q := by
  obtain ⟨hs, r0, s0⟩ := id hR
  obtain ⟨g1, g2, g3, g4, g5, g6, g7, g8, g9, g10⟩ := id SS
  refine ex_intro (L0 := [.ref 19, .ref b, .null]) (by decide +kernel) rfl rfl (Nat.le_of_ble_eq_true rfl) rfl ?_
  refine g_aload_n (q := 1) dX3_beginsWith_0 rfl rfl ?_
  refine gf_X3_31 (q := 4) rfl (by first | assumption | rfl) dX3_beginsWith_1 rfl ?_
  rw [g4]
  refine g_if_ne (tgt := 18) (q := 7) dX3_beginsWith_4 (by decide) rfl (fun c4 => absurd c4 (fun z => z rfl)) (fun _ => ?_)
  refine g_aload_n (q := 8) dX3_beginsWith_7 rfl rfl ?_
  refine gf_X3_18 (q := 11) rfl (by first | assumption | rfl) dX3_beginsWith_8 rfl ?_
  rw [g1]
  refine g_aload_n (q := 12) dX3_beginsWith_11 rfl rfl ?_
  refine k_X3_56 (q := 15) rfl (Nat.le_of_ble_eq_true rfl) (by first | assumption | rfl) dX3_beginsWith_12 rfl (c_X2_size hR ?_)
  rw [hsz]
  refine g_icmp_ge (tgt := 20) (q := 18) dX3_beginsWith_15 (by decide) rfl (fun c15 => ?_) (fun c15 => ?_)
  · refine g_iconst (q := 21) (v := nI 0) dX3_beginsWith_20 rfl (by decide) ?_
    refine g_istore_n (q := 22) dX3_beginsWith_21 rfl (by decide) rfl rfl ?_
    have hle : sz ≤ s.1.length := (nI_leI (by omega) (by omega)).mp c15
    exact l_begins hR hsz h40 SS hle (h1 hle) (fun z => h0 (fun y => z y.2)) sz 0 (by omega) (fun z hz => absurd hz (by omega))
  · refine g_iconst (q := 19) (v := nI 0) dX3_beginsWith_18 rfl (by decide) ?_
    refine g_zret rfl (by decide) dX3_beginsWith_19 (Nat.le_refl _) (Nat.le_refl _) ?_
    exact h0 (fun z => c15 ((nI_leI (by omega) (by omega)).mpr z.1))
