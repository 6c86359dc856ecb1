def isRw (R : Nat → Nat → Option Nat) (n b : Nat) : Prop := shn n b = (0, 2) ∧ R b 0 = some (b + 1) ∧ shn n (b + 1) = (1, 40)
/-- the first k of a row are 0 -/
def zr (I : Nat → Nat → Int32) (p k : Nat) : Nat → Nat → Int32 := fun a j => if a = p ∧ j < k then nI 0 else I a j
theorem zr_s {I : Nat → Nat → Int32} {p k : Nat} : uI (zr I p k) p k (nI 0) = zr I p (k + 1) := by
  funext a j
  simp only [uI, zr]
  by_cases h1 : a = p
  · by_cases h2 : j = k
    · simp [h1, h2]
    · by_cases h3 : j < k
      · have : j < k + 1 := by omega
        simp [h1, h2, h3, this]
      · have : ¬ j < k + 1 := by omega
        simp [h1, h2, h3, this]
  · simp [h1]
theorem zr_0 {I : Nat → Nat → Int32} {p : Nat} : zr I p 0 = I := by
  funext a j; simp [zr]
def lowF (l : Int32) (v : Int32) : Int32 := if l = 0 then v.toInt8.toInt32 else if l = nI 1 then v.toInt16.toInt32 else v
/-- two of the advice change places: the first i facts -/
def exP (I : Nat → Nat → Int32) (b a1 a2 i : Nat) : Nat → Nat → Int32 := fun p j => if p = b + 5 ∧ j % 6 < i then (if j / 6 = a1 then I p (a2 * 6 + j % 6) else if j / 6 = a2 then I p (a1 * 6 + j % 6) else I p j) else I p j
theorem exP_at {I : Nat → Nat → Int32} {b a1 a2 i x : Nat} (hi : i < 6) : exP I b a1 a2 i (b + 5) (x * 6 + i) = I (b + 5) (x * 6 + i) := by
  unfold exP
  rw [if_neg (by omega)]
theorem exP_s {I : Nat → Nat → Int32} {b a1 a2 i : Nat} (hi : i < 6) : uI (uI (exP I b a1 a2 i) (b + 5) (a1 * 6 + i) (I (b + 5) (a2 * 6 + i))) (b + 5) (a2 * 6 + i) (I (b + 5) (a1 * 6 + i)) = exP I b a1 a2 (i + 1) := by
  funext p j
  by_cases hp : p = b + 5
  · subst hp
    simp only [uI, exP, true_and]
    by_cases h2 : j = a2 * 6 + i
    · subst h2
      have e1 : (a2 * 6 + i) % 6 = i := by omega
      have e2 : (a2 * 6 + i) / 6 = a2 := by omega
      rw [if_pos rfl, if_pos (by omega), e1, e2]
      by_cases h : a2 = a1
      · rw [if_pos h, h]
      · rw [if_neg h, if_pos rfl]
    · rw [if_neg h2]
      by_cases h1 : j = a1 * 6 + i
      · subst h1
        have e1 : (a1 * 6 + i) % 6 = i := by omega
        have e2 : (a1 * 6 + i) / 6 = a1 := by omega
        rw [if_pos rfl, if_pos (by omega), e1, e2, if_pos rfl]
      · rw [if_neg h1]
        by_cases h3 : j % 6 < i
        · rw [if_pos h3, if_pos (show j % 6 < i + 1 by omega)]
        · rw [if_neg h3]
          by_cases h4 : j % 6 < i + 1
          · rw [if_pos h4, if_neg (by omega), if_neg (by omega)]
          · rw [if_neg h4]
  · simp [uI, exP, hp]
theorem exP_0 {I : Nat → Nat → Int32} {b a1 a2 : Nat} : exP I b a1 a2 0 = I := by
  funext p j; simp [exP]

set_option maxRecDepth 100000 in
set_option maxHeartbeats 400000 in
theorem c_X2_isMissing {d n : Nat} {I : Nat → Nat → Int32} {R : Nat → Nat → Option Nat} {Q : Option Int32 → Wd → Prop} {b : Nat} (hR : isRw R n b) (h1 : I b 2 = -1 → Q (some (nI 1)) (I, R)) (h0 : ¬ I b 2 = -1 → Q (some (nI 0)) (I, R)) : Ex d 0 0 mX2_isMissing [.ref b] n (I, R) n Q := by
  obtain ⟨hs, r0, s0⟩ := id hR
  refine ex_intro (L0 := [.ref b]) (by decide +kernel) rfl rfl (Nat.le_of_ble_eq_true rfl) rfl ?_
  refine g_aload_n (q := 1) dX2_isMissing_0 rfl rfl ?_
  refine gf_X2_19 (q := 4) rfl (by first | assumption | rfl) dX2_isMissing_1 rfl ?_
  refine g_iconst (q := 5) (v := (-1)) dX2_isMissing_4 rfl (by decide) ?_
  refine g_icmp_ne (tgt := 12) (q := 8) dX2_isMissing_5 (by decide) rfl (fun c5 => ?_) (fun c5 => ?_)
  · refine g_iconst (q := 13) (v := nI 0) dX2_isMissing_12 rfl (by decide) ?_
    refine g_zret rfl (by decide) dX2_isMissing_13 (Nat.le_refl _) (Nat.le_refl _) ?_
    exact h0 c5
  · refine g_iconst (q := 9) (v := nI 1) dX2_isMissing_8 rfl (by decide) ?_
    refine g_goto (q := 13) dX2_isMissing_9 (by decide) ?_
    refine g_zret rfl (by decide) dX2_isMissing_13 (Nat.le_refl _) (Nat.le_refl _) ?_
    exact h1 c5
set_option maxRecDepth 100000 in
set_option maxHeartbeats 400000 in
theorem c_X2_size {d n : Nat} {I : Nat → Nat → Int32} {R : Nat → Nat → Option Nat} {Q : Option Int32 → Wd → Prop} {b : Nat} (hR : isRw R n b) (h : Q (some (I b 2)) (I, R)) : Ex d 0 0 mX2_size [.ref b] n (I, R) n Q := by
  obtain ⟨hs, r0, s0⟩ := id hR
  refine ex_intro (L0 := [.ref b]) (by decide +kernel) rfl rfl (Nat.le_of_ble_eq_true rfl) rfl ?_
  refine g_aload_n (q := 1) dX2_size_0 rfl rfl ?_
  refine gf_X2_19 (q := 4) rfl (by first | assumption | rfl) dX2_size_1 rfl ?_
  refine g_iret rfl dX2_size_4 (Nat.le_refl _) (Nat.le_refl _) ?_
  exact h
set_option maxRecDepth 100000 in
set_option maxHeartbeats 400000 in
theorem c_X2_lane {d n : Nat} {I : Nat → Nat → Int32} {R : Nat → Nat → Option Nat} {Q : Option Int32 → Wd → Prop} {b : Nat} (hR : isRw R n b) (h : Q (some (I b 1)) (I, R)) : Ex d 0 0 mX2_lane [.ref b] n (I, R) n Q := by
  obtain ⟨hs, r0, s0⟩ := id hR
  refine ex_intro (L0 := [.ref b]) (by decide +kernel) rfl rfl (Nat.le_of_ble_eq_true rfl) rfl ?_
  refine g_aload_n (q := 1) dX2_lane_0 rfl rfl ?_
  refine gf_X2_15 (q := 4) rfl (by first | assumption | rfl) dX2_lane_1 rfl ?_
  refine g_iret rfl dX2_lane_4 (Nat.le_refl _) (Nat.le_refl _) ?_
  exact h
set_option maxRecDepth 100000 in
set_option maxHeartbeats 400000 in
theorem c_X2_item {d n : Nat} {I : Nat → Nat → Int32} {R : Nat → Nat → Option Nat} {Q : Option Int32 → Wd → Prop} {b j : Nat} (hR : isRw R n b) (hj : j < 40) (h : Q (some (I (b + 1) j)) (I, R)) : Ex d 0 0 mX2_item [.ref b, .int (nI j)] n (I, R) n Q := by
  obtain ⟨hs, r0, s0⟩ := id hR
  refine ex_intro (L0 := [.ref b, .int (nI j)]) (by decide +kernel) rfl rfl (Nat.le_of_ble_eq_true rfl) rfl ?_
  refine g_aload_n (q := 1) dX2_item_0 rfl rfl ?_
  refine gf_X2_9 (q := 4) rfl (by first | assumption | rfl) (by first | assumption | rfl) dX2_item_1 rfl ?_
  refine g_iload_n (q := 5) dX2_item_4 rfl rfl ?_
  refine g_ialdn (q := 6) (by first | assumption | rfl) (by repeat' first | apply nI_a | apply nI_m | exact rfl) (by omega) dX2_item_5 rfl ?_
  refine g_iret rfl dX2_item_6 (Nat.le_refl _) (Nat.le_refl _) ?_
  exact h
set_option maxRecDepth 100000 in
set_option maxHeartbeats 400000 in
theorem c_X2_lose {d n : Nat} {I : Nat → Nat → Int32} {R : Nat → Nat → Option Nat} {Q : Option Int32 → Wd → Prop} {b : Nat} (hR : isRw R n b) (h : Q none (uI I b 2 (-1), R)) : Ex d 0 0 mX2_lose [.ref b] n (I, R) n Q := by
  obtain ⟨hs, r0, s0⟩ := id hR
  refine ex_intro (L0 := [.ref b]) (by decide +kernel) rfl rfl (Nat.le_of_ble_eq_true rfl) rfl ?_
  refine g_aload_n (q := 1) dX2_lose_0 rfl rfl ?_
  refine g_iconst (q := 2) (v := (-1)) dX2_lose_1 rfl (by decide) ?_
  refine pf_X2_19 (q := 5) rfl (by first | assumption | rfl) dX2_lose_2 rfl ?_
  refine g_vret rfl dX2_lose_5 (Nat.le_refl _) (Nat.le_refl _) ?_
  exact h
set_option maxRecDepth 100000 in
set_option maxHeartbeats 400000 in
theorem c_X2_put {d n : Nat} {I : Nat → Nat → Int32} {R : Nat → Nat → Option Nat} {Q : Option Int32 → Wd → Prop} {b i : Nat} {v : Int32} (hR : isRw R n b) (hi : i < 40) (h : Q (some (lowF (I b 1) v)) (uI I (b + 1) i (lowF (I b 1) v), R)) : Ex d 0 0 mX2_put [.ref b, .int (nI i), .int v] n (I, R) n Q := by
  obtain ⟨hs, r0, s0⟩ := id hR
  refine ex_intro (L0 := [.ref b, .int (nI i), .int v]) (by decide +kernel) rfl rfl (Nat.le_of_ble_eq_true rfl) rfl ?_
  refine g_aload_n (q := 1) dX2_put_0 rfl rfl ?_
  refine gf_X2_9 (q := 4) rfl (by first | assumption | rfl) (by first | assumption | rfl) dX2_put_1 rfl ?_
  refine g_iload_n (q := 5) dX2_put_4 rfl rfl ?_
  refine g_aload_n (q := 6) dX2_put_5 rfl rfl ?_
  refine gf_X2_15 (q := 9) rfl (by first | assumption | rfl) dX2_put_6 rfl ?_
  refine g_if_ne (tgt := 17) (q := 12) dX2_put_9 (by decide) rfl (fun c9 => ?_) (fun c9 => ?_)
  · refine g_aload_n (q := 18) dX2_put_17 rfl rfl ?_
    refine gf_X2_15 (q := 21) rfl (by first | assumption | rfl) dX2_put_18 rfl ?_
    refine g_iconst (q := 22) (v := nI 1) dX2_put_21 rfl (by decide) ?_
    refine g_icmp_ne (tgt := 30) (q := 25) dX2_put_22 (by decide) rfl (fun c22 => ?_) (fun c22 => ?_)
    · refine g_iload_n (q := 31) dX2_put_30 rfl rfl ?_
      refine g_iastn (q := 32) (by first | assumption | rfl) (by repeat' first | apply nI_a | apply nI_m | exact rfl) (by omega) dX2_put_31 rfl ?_
      refine g_aload_n (q := 33) dX2_put_32 rfl rfl ?_
      refine gf_X2_9 (q := 36) rfl (by first | assumption | rfl) (by first | assumption | rfl) dX2_put_33 rfl ?_
      refine g_iload_n (q := 37) dX2_put_36 rfl rfl ?_
      refine g_ialdn (q := 38) (by first | assumption | rfl) (by repeat' first | apply nI_a | apply nI_m | exact rfl) (by omega) dX2_put_37 rfl ?_
      refine g_iret rfl dX2_put_38 (Nat.le_refl _) (Nat.le_refl _) ?_
      rw [uI_eq]
      unfold lowF at h
      rw [if_neg c9, if_neg c22] at h
      exact h
    · refine g_iload_n (q := 26) dX2_put_25 rfl rfl ?_
      refine g_i2s (q := 27) dX2_put_26 rfl ?_
      refine g_goto (q := 31) dX2_put_27 (by decide) ?_
      refine g_iastn (q := 32) (by first | assumption | rfl) (by repeat' first | apply nI_a | apply nI_m | exact rfl) (by omega) dX2_put_31 rfl ?_
      refine g_aload_n (q := 33) dX2_put_32 rfl rfl ?_
      refine gf_X2_9 (q := 36) rfl (by first | assumption | rfl) (by first | assumption | rfl) dX2_put_33 rfl ?_
      refine g_iload_n (q := 37) dX2_put_36 rfl rfl ?_
      refine g_ialdn (q := 38) (by first | assumption | rfl) (by repeat' first | apply nI_a | apply nI_m | exact rfl) (by omega) dX2_put_37 rfl ?_
      refine g_iret rfl dX2_put_38 (Nat.le_refl _) (Nat.le_refl _) ?_
      rw [uI_eq]
      unfold lowF at h
      rw [if_neg c9, if_pos c22] at h
      exact h
  · refine g_iload_n (q := 13) dX2_put_12 rfl rfl ?_
    refine g_i2b (q := 14) dX2_put_13 rfl ?_
    refine g_goto (q := 31) dX2_put_14 (by decide) ?_
    refine g_iastn (q := 32) (by first | assumption | rfl) (by repeat' first | apply nI_a | apply nI_m | exact rfl) (by omega) dX2_put_31 rfl ?_
    refine g_aload_n (q := 33) dX2_put_32 rfl rfl ?_
    refine gf_X2_9 (q := 36) rfl (by first | assumption | rfl) (by first | assumption | rfl) dX2_put_33 rfl ?_
    refine g_iload_n (q := 37) dX2_put_36 rfl rfl ?_
    refine g_ialdn (q := 38) (by first | assumption | rfl) (by repeat' first | apply nI_a | apply nI_m | exact rfl) (by omega) dX2_put_37 rfl ?_
    refine g_iret rfl dX2_put_38 (Nat.le_refl _) (Nat.le_refl _) ?_
    rw [uI_eq]
    unfold lowF at h
    rw [if_pos c9] at h
    exact h
set_option maxRecDepth 100000 in
set_option maxHeartbeats 400000 in
theorem c_X2_holds {d n : Nat} {I : Nat → Nat → Int32} {R : Nat → Nat → Option Nat} {Q : Option Int32 → Wd → Prop} {b : Nat} {f c : Int32} (hR : isRw R n b) (h1 : 0 ≤ f → 0 ≤ c → f ≤ I b 2 → c ≤ I b 2 - f → Q (some (nI 1)) (I, R)) (h0 : ¬ (0 ≤ f ∧ 0 ≤ c ∧ f ≤ I b 2 ∧ c ≤ I b 2 - f) → Q (some (nI 0)) (I, R)) : Ex d 0 0 mX2_holds [.ref b, .int f, .int c] n (I, R) n Q := by
  obtain ⟨hs, r0, s0⟩ := id hR
  refine ex_intro (L0 := [.ref b, .int f, .int c]) (by decide +kernel) rfl rfl (Nat.le_of_ble_eq_true rfl) rfl ?_
  refine g_iload_n (q := 1) dX2_holds_0 rfl rfl ?_
  refine g_if_lt (tgt := 30) (q := 4) dX2_holds_1 (by decide) rfl (fun c1 => ?_) (fun c1 => ?_)
  · refine g_iconst (q := 31) (v := nI 0) dX2_holds_30 rfl (by decide) ?_
    refine g_zret rfl (by decide) dX2_holds_31 (Nat.le_refl _) (Nat.le_refl _) ?_
    exact h0 (fun z => absurd c1 (Int32.not_lt.mpr z.1))
  · refine g_iload_n (q := 5) dX2_holds_4 rfl rfl ?_
    refine g_if_lt (tgt := 30) (q := 8) dX2_holds_5 (by decide) rfl (fun c5 => ?_) (fun c5 => ?_)
    · refine g_iconst (q := 31) (v := nI 0) dX2_holds_30 rfl (by decide) ?_
      refine g_zret rfl (by decide) dX2_holds_31 (Nat.le_refl _) (Nat.le_refl _) ?_
      exact h0 (fun z => absurd c5 (Int32.not_lt.mpr z.2.1))
    · refine g_iload_n (q := 9) dX2_holds_8 rfl rfl ?_
      refine g_aload_n (q := 10) dX2_holds_9 rfl rfl ?_
      refine gf_X2_19 (q := 13) rfl (by first | assumption | rfl) dX2_holds_10 rfl ?_
      refine g_icmp_gt (tgt := 30) (q := 16) dX2_holds_13 (by decide) rfl (fun c13 => ?_) (fun c13 => ?_)
      · refine g_iconst (q := 31) (v := nI 0) dX2_holds_30 rfl (by decide) ?_
        refine g_zret rfl (by decide) dX2_holds_31 (Nat.le_refl _) (Nat.le_refl _) ?_
        exact h0 (fun z => absurd c13 (Int32.not_lt.mpr z.2.2.1))
      · refine g_iload_n (q := 17) dX2_holds_16 rfl rfl ?_
        refine g_aload_n (q := 18) dX2_holds_17 rfl rfl ?_
        refine gf_X2_19 (q := 21) rfl (by first | assumption | rfl) dX2_holds_18 rfl ?_
        refine g_iload_n (q := 22) dX2_holds_21 rfl rfl ?_
        refine g_isub (q := 23) dX2_holds_22 rfl ?_
        refine g_icmp_gt (tgt := 30) (q := 26) dX2_holds_23 (by decide) rfl (fun c23 => ?_) (fun c23 => ?_)
        · refine g_iconst (q := 31) (v := nI 0) dX2_holds_30 rfl (by decide) ?_
          refine g_zret rfl (by decide) dX2_holds_31 (Nat.le_refl _) (Nat.le_refl _) ?_
          exact h0 (fun z => absurd c23 (Int32.not_lt.mpr z.2.2.2))
        · refine g_iconst (q := 27) (v := nI 1) dX2_holds_26 rfl (by decide) ?_
          refine g_goto (q := 31) dX2_holds_27 (by decide) ?_
          refine g_zret rfl (by decide) dX2_holds_31 (Nat.le_refl _) (Nat.le_refl _) ?_
          exact h1 (Int32.not_lt.mp c1) (Int32.not_lt.mp c5) (Int32.not_lt.mp c13) (Int32.not_lt.mp c23)
set_option maxRecDepth 100000 in
set_option maxHeartbeats 400000 in
theorem l_X2_make_12 {d n : Nat} {I : Nat → Nat → Int32} {R : Nat → Nat → Option Nat} {Z : Zt} {n0 : Nat} {b c : Nat} {l : Int32} (hR : isRw R n b) (hc : c ≤ 40) (hex : G mX2_make (rmd (d + 0) 0 0) Z n0 30 [.ref b, .int l, .int (nI c), .int (nI c)] [] n (zr (uI (uI I b 1 l) b 2 (nI c)) (b + 1) c, R) 0 0) : ∀ (k i : Nat), i + k = c → G mX2_make (rmd (d + 0) 0 0) Z n0 12 [.ref b, .int l, .int (nI c), .int (nI i)] [] n (zr (uI (uI I b 1 l) b 2 (nI c)) (b + 1) i, R) 0 0 := by
  obtain ⟨hs, r0, s0⟩ := id hR
  intro k
  induction k with
  | zero =>
    intro i hi
    have hi : i = c := by omega
    subst hi
    refine g_iload_n (q := 13) dX2_make_12 rfl rfl ?_
    refine g_iload_n (q := 14) dX2_make_13 rfl rfl ?_
    refine g_icmp_ge (tgt := 30) (q := 17) dX2_make_14 (by decide) rfl (fun _ => ?_) (fun c14 => absurd (nI_le (Nat.le_refl _) (by omega)) c14)
    exact hex
  | succ k ih =>
    intro i hi
    refine g_iload_n (q := 13) dX2_make_12 rfl rfl ?_
    refine g_iload_n (q := 14) dX2_make_13 rfl rfl ?_
    refine g_icmp_ge (tgt := 30) (q := 17) dX2_make_14 (by decide) rfl (fun c14 => absurd c14 (nI_ge (by omega) (by omega))) (fun _ => ?_)
    refine g_aload_n (q := 18) dX2_make_17 rfl rfl ?_
    refine gf_X2_9 (q := 21) rfl (by first | assumption | rfl) (by first | assumption | rfl) dX2_make_18 rfl ?_
    refine g_iload_n (q := 22) dX2_make_21 rfl rfl ?_
    refine g_iconst (q := 23) (v := nI 0) dX2_make_22 rfl (by decide) ?_
    refine g_iastn (q := 24) (by first | assumption | rfl) (by repeat' first | apply nI_a | apply nI_m | exact rfl) (by omega) dX2_make_23 rfl ?_
    rw [zr_s]
    refine g_iincn (q := 27) dX2_make_24 rfl rfl (by decide) rfl rfl ?_
    refine g_goto (q := 12) dX2_make_27 (by decide) ?_
    exact ih (i + 1) (by omega)
set_option maxRecDepth 100000 in
set_option maxHeartbeats 400000 in
theorem c_X2_make {d n : Nat} {I : Nat → Nat → Int32} {R : Nat → Nat → Option Nat} {Q : Option Int32 → Wd → Prop} {b c : Nat} {l : Int32} (hR : isRw R n b) (hc : c ≤ 40) (h : Q none (zr (uI (uI I b 1 l) b 2 (nI c)) (b + 1) c, R)) : Ex d 0 0 mX2_make [.ref b, .int l, .int (nI c)] n (I, R) n Q := by
  obtain ⟨hs, r0, s0⟩ := id hR
  refine ex_intro (L0 := [.ref b, .int l, .int (nI c), .null]) (by decide +kernel) rfl rfl (Nat.le_of_ble_eq_true rfl) rfl ?_
  refine g_aload_n (q := 1) dX2_make_0 rfl rfl ?_
  refine g_iload_n (q := 2) dX2_make_1 rfl rfl ?_
  refine pf_X2_15 (q := 5) rfl (by first | assumption | rfl) dX2_make_2 rfl ?_
  refine g_aload_n (q := 6) dX2_make_5 rfl rfl ?_
  refine g_iload_n (q := 7) dX2_make_6 rfl rfl ?_
  refine pf_X2_19 (q := 10) rfl (by first | assumption | rfl) dX2_make_7 rfl ?_
  refine g_iconst (q := 11) (v := nI 0) dX2_make_10 rfl (by decide) ?_
  refine g_istore_n (q := 12) dX2_make_11 rfl (by decide) rfl rfl ?_
  have hl := l_X2_make_12 (Z := Zm Q n n 0 0) (n0 := n) (d := d) (I := I) (l := l) hR hc (by
    refine g_vret rfl dX2_make_30 (Nat.le_refl _) (Nat.le_refl _) ?_
    exact h) c 0 (by omega)
  rw [zr_0] at hl
  exact hl
set_option maxRecDepth 100000 in
set_option maxHeartbeats 400000 in
theorem c_X2_take {d n : Nat} {I : Nat → Nat → Int32} {R : Nat → Nat → Option Nat} {Q : Option Int32 → Wd → Prop} {b p f t c : Nat} (hR : isRw R n b) (hO : isRw R n p) (h1 : f + c ≤ 40) (h2 : t + c ≤ 40) (h : Q none (uA I (b + 1) (va_cpy (I (p + 1)) (I (b + 1)) f t c), R)) : Ex (d + 1) 0 0 mX2_take [.ref b, .ref p, .int (nI f), .int (nI t), .int (nI c)] n (I, R) n Q := by
  obtain ⟨hs, r0, s0⟩ := id hR
  obtain ⟨os, o0, p0⟩ := id hO
  refine ex_intro (L0 := [.ref b, .ref p, .int (nI f), .int (nI t), .int (nI c)]) (by decide +kernel) rfl rfl (Nat.le_of_ble_eq_true rfl) rfl ?_
  refine g_aload_n (q := 1) dX2_take_0 rfl rfl ?_
  refine gf_X2_9 (q := 4) rfl (by first | assumption | rfl) (by first | assumption | rfl) dX2_take_1 rfl ?_
  refine g_iload_n (q := 5) dX2_take_4 rfl rfl ?_
  refine g_aload_n (q := 6) dX2_take_5 rfl rfl ?_
  refine gf_X2_9 (q := 9) rfl (by first | assumption | rfl) (by first | assumption | rfl) dX2_take_6 rfl ?_
  refine g_iload_n (q := 10) dX2_take_9 rfl rfl ?_
  refine g_iload (q := 12) dX2_take_10 rfl rfl ?_
  refine ac_X2_22 (q := 15) rfl p0 s0 (nI_pos (by omega)) (nI_pos (by omega)) (nI_pos (by omega)) (by rw [nI_clamp (by omega), nI_clamp (by omega)]; omega) (by rw [nI_clamp (by omega), nI_clamp (by omega)]; omega) (Nat.le_of_ble_eq_true rfl) dX2_take_12 rfl ?_
  rw [nI_clamp (by omega), nI_clamp (by omega), nI_clamp (by omega)]
  refine g_vret rfl dX2_take_15 (Nat.le_refl _) (Nat.le_refl _) ?_
  exact h
/-- the rows of a Weave at b become those of the one at p -/
def tkI (I : Nat → Nat → Int32) (b p : Nat) : Nat → Nat → Int32 :=
  uI (uI (uA (uA (uA (uA (uA I (b + 1) (va_cpy (I (p + 1)) (I (b + 1)) 0 0 6)) (b + 2) (va_cpy (I (p + 2)) (I (b + 2)) 0 0 6)) (b + 3) (va_cpy (I (p + 3)) (I (b + 3)) 0 0 24)) (b + 4) (va_cpy (I (p + 4)) (I (b + 4)) 0 0 24)) (b + 5) (va_cpy (I (p + 5)) (I (b + 5)) 0 0 30)) b 5 (I p 5)) b 6 (I p 6)
set_option maxRecDepth 100000 in
set_option maxHeartbeats 400000 in
theorem c_X5_take {d n : Nat} {I : Nat → Nat → Int32} {R : Nat → Nat → Option Nat} {Q : Option Int32 → Wd → Prop} {b p : Nat} (hW : isWv R n b) (hO : isWv R n p) (hbp : b + 6 ≤ p ∨ p + 6 ≤ b) (h : Q none (tkI I b p, R)) : Ex (d + 1) 0 0 mX5_take [.ref b, .ref p] n (I, R) n Q := by
  obtain ⟨hs, ⟨r0, s0⟩, ⟨r1, s1⟩, ⟨r2, s2⟩, ⟨r3, s3⟩, ⟨r4, s4⟩⟩ := id hW
  obtain ⟨os, ⟨o0, p0⟩, ⟨o1, p1⟩, ⟨o2, p2⟩, ⟨o3, p3⟩, ⟨o4, p4⟩⟩ := id hO
  refine ex_intro (L0 := [.ref b, .ref p]) (by decide +kernel) rfl rfl (Nat.le_of_ble_eq_true rfl) rfl ?_
  refine g_aload_n (q := 1) dX5_take_0 rfl rfl ?_
  refine gf_X5_9 (q := 4) rfl (by first | assumption | rfl) (by first | assumption | rfl) dX5_take_1 rfl ?_
  refine g_iconst (q := 5) (v := nI 0) dX5_take_4 rfl (by decide) ?_
  refine g_aload_n (q := 6) dX5_take_5 rfl rfl ?_
  refine gf_X5_9 (q := 9) rfl (by first | assumption | rfl) (by first | assumption | rfl) dX5_take_6 rfl ?_
  refine g_iconst (q := 10) (v := nI 0) dX5_take_9 rfl (by decide) ?_
  refine g_bipush (q := 12) (v := nI 6) dX5_take_10 rfl (by decide) ?_
  refine ac_X5_34 (q := 15) rfl (N0 := 6) (N1 := 6) (by first | assumption | rfl) (by first | assumption | rfl) (by decide) (by decide) (by decide) (by decide) (by decide) (Nat.le_of_ble_eq_true rfl) dX5_take_12 rfl ?_
  refine g_aload_n (q := 16) dX5_take_15 rfl rfl ?_
  refine gf_X5_15 (q := 19) rfl (by first | assumption | rfl) (by first | assumption | rfl) dX5_take_16 rfl ?_
  refine g_iconst (q := 20) (v := nI 0) dX5_take_19 rfl (by decide) ?_
  refine g_aload_n (q := 21) dX5_take_20 rfl rfl ?_
  refine gf_X5_15 (q := 24) rfl (by first | assumption | rfl) (by first | assumption | rfl) dX5_take_21 rfl ?_
  refine g_iconst (q := 25) (v := nI 0) dX5_take_24 rfl (by decide) ?_
  refine g_bipush (q := 27) (v := nI 6) dX5_take_25 rfl (by decide) ?_
  refine ac_X5_34 (q := 30) rfl (N0 := 6) (N1 := 6) (by first | assumption | rfl) (by first | assumption | rfl) (by decide) (by decide) (by decide) (by decide) (by decide) (Nat.le_of_ble_eq_true rfl) dX5_take_27 rfl ?_
  refine g_aload_n (q := 31) dX5_take_30 rfl rfl ?_
  refine gf_X5_18 (q := 34) rfl (by first | assumption | rfl) (by first | assumption | rfl) dX5_take_31 rfl ?_
  refine g_iconst (q := 35) (v := nI 0) dX5_take_34 rfl (by decide) ?_
  refine g_aload_n (q := 36) dX5_take_35 rfl rfl ?_
  refine gf_X5_18 (q := 39) rfl (by first | assumption | rfl) (by first | assumption | rfl) dX5_take_36 rfl ?_
  refine g_iconst (q := 40) (v := nI 0) dX5_take_39 rfl (by decide) ?_
  refine g_bipush (q := 42) (v := nI 24) dX5_take_40 rfl (by decide) ?_
  refine ac_X5_34 (q := 45) rfl (N0 := 24) (N1 := 24) (by first | assumption | rfl) (by first | assumption | rfl) (by decide) (by decide) (by decide) (by decide) (by decide) (Nat.le_of_ble_eq_true rfl) dX5_take_42 rfl ?_
  refine g_aload_n (q := 46) dX5_take_45 rfl rfl ?_
  refine gf_X5_21 (q := 49) rfl (by first | assumption | rfl) (by first | assumption | rfl) dX5_take_46 rfl ?_
  refine g_iconst (q := 50) (v := nI 0) dX5_take_49 rfl (by decide) ?_
  refine g_aload_n (q := 51) dX5_take_50 rfl rfl ?_
  refine gf_X5_21 (q := 54) rfl (by first | assumption | rfl) (by first | assumption | rfl) dX5_take_51 rfl ?_
  refine g_iconst (q := 55) (v := nI 0) dX5_take_54 rfl (by decide) ?_
  refine g_bipush (q := 57) (v := nI 24) dX5_take_55 rfl (by decide) ?_
  refine ac_X5_34 (q := 60) rfl (N0 := 24) (N1 := 24) (by first | assumption | rfl) (by first | assumption | rfl) (by decide) (by decide) (by decide) (by decide) (by decide) (Nat.le_of_ble_eq_true rfl) dX5_take_57 rfl ?_
  refine g_aload_n (q := 61) dX5_take_60 rfl rfl ?_
  refine gf_X5_24 (q := 64) rfl (by first | assumption | rfl) (by first | assumption | rfl) dX5_take_61 rfl ?_
  refine g_iconst (q := 65) (v := nI 0) dX5_take_64 rfl (by decide) ?_
  refine g_aload_n (q := 66) dX5_take_65 rfl rfl ?_
  refine gf_X5_24 (q := 69) rfl (by first | assumption | rfl) (by first | assumption | rfl) dX5_take_66 rfl ?_
  refine g_iconst (q := 70) (v := nI 0) dX5_take_69 rfl (by decide) ?_
  refine g_bipush (q := 72) (v := nI 30) dX5_take_70 rfl (by decide) ?_
  refine ac_X5_34 (q := 75) rfl (N0 := 30) (N1 := 30) (by first | assumption | rfl) (by first | assumption | rfl) (by decide) (by decide) (by decide) (by decide) (by decide) (Nat.le_of_ble_eq_true rfl) dX5_take_72 rfl ?_
  refine g_aload_n (q := 76) dX5_take_75 rfl rfl ?_
  refine g_aload_n (q := 77) dX5_take_76 rfl rfl ?_
  refine gf_X5_27 (q := 80) rfl (by first | assumption | rfl) dX5_take_77 rfl ?_
  refine pf_X5_27 (q := 83) rfl (by first | assumption | rfl) dX5_take_80 rfl ?_
  refine g_aload_n (q := 84) dX5_take_83 rfl rfl ?_
  refine g_aload_n (q := 85) dX5_take_84 rfl rfl ?_
  refine gf_X5_31 (q := 88) rfl (by first | assumption | rfl) dX5_take_85 rfl ?_
  refine pf_X5_31 (q := 91) rfl (by first | assumption | rfl) dX5_take_88 rfl ?_
  refine g_vret rfl dX5_take_91 (Nat.le_refl _) (Nat.le_refl _) ?_
  have e : ∀ (J : Nat → Nat → Int32) (x y : Nat) (g : Nat → Int32), y ≠ x → uA J x g y = J y := fun J x y g hh => uA_ne hh
  unfold tkI at h
  simp only [show (nI 0).toNatClampNeg = 0 from rfl, show (nI 6).toNatClampNeg = 6 from rfl, show (nI 24).toNatClampNeg = 24 from rfl, show (nI 30).toNatClampNeg = 30 from rfl]
  simp only [uA_ne (show p + 2 ≠ b + 1 by omega), uA_ne (show b + 2 ≠ b + 1 by omega), uA_ne (show p + 3 ≠ b + 1 by omega), uA_ne (show b + 3 ≠ b + 1 by omega), uA_ne (show p + 3 ≠ b + 2 by omega), uA_ne (show b + 3 ≠ b + 2 by omega), uA_ne (show p + 4 ≠ b + 1 by omega), uA_ne (show b + 4 ≠ b + 1 by omega), uA_ne (show p + 4 ≠ b + 2 by omega), uA_ne (show b + 4 ≠ b + 2 by omega), uA_ne (show p + 4 ≠ b + 3 by omega), uA_ne (show b + 4 ≠ b + 3 by omega), uA_ne (show p + 5 ≠ b + 1 by omega), uA_ne (show b + 5 ≠ b + 1 by omega), uA_ne (show p + 5 ≠ b + 2 by omega), uA_ne (show b + 5 ≠ b + 2 by omega), uA_ne (show p + 5 ≠ b + 3 by omega), uA_ne (show b + 5 ≠ b + 3 by omega), uA_ne (show p + 5 ≠ b + 4 by omega), uA_ne (show b + 5 ≠ b + 4 by omega), uA_ne (show p ≠ b + 1 by omega), uA_ne (show p ≠ b + 2 by omega), uA_ne (show p ≠ b + 3 by omega), uA_ne (show p ≠ b + 4 by omega), uA_ne (show p ≠ b + 5 by omega), uI_ne (show p ≠ b by omega)]
  exact h
set_option maxRecDepth 100000 in
set_option maxHeartbeats 400000 in
theorem l_X5_exchange_2 {d n : Nat} {I : Nat → Nat → Int32} {R : Nat → Nat → Option Nat} {Z : Zt} {n0 : Nat} {b a1 a2 : Nat} (hW : isWv R n b) (h1 : a1 < 5) (h2 : a2 < 5) (hex : ∀ fz : Value, G mX5_exchange (rmd (d + 1) 0 0) Z n0 42 [.ref b, .int (nI a1), .int (nI a2), .int (nI 6), fz] [] n (exP I b a1 a2 6, R) 0 0) : ∀ (k i : Nat) (fz : Value), i + k = 6 → G mX5_exchange (rmd (d + 1) 0 0) Z n0 2 [.ref b, .int (nI a1), .int (nI a2), .int (nI i), fz] [] n (exP I b a1 a2 i, R) 0 0 := by
  obtain ⟨hs, ⟨r0, s0⟩, ⟨r1, s1⟩, ⟨r2, s2⟩, ⟨r3, s3⟩, ⟨r4, s4⟩⟩ := id hW
  intro k
  induction k with
  | zero =>
    intro i fz hi
    have hi : i = 6 := by omega
    subst hi
    refine g_iload_n (q := 3) dX5_exchange_2 rfl rfl ?_
    refine g_bipush (q := 5) (v := nI 6) dX5_exchange_3 rfl (by decide) ?_
    refine g_icmp_ge (tgt := 42) (q := 8) dX5_exchange_5 (by decide) rfl (fun _ => ?_) (fun c5 => absurd (nI_le (Nat.le_refl _) (by omega)) c5)
    exact hex fz
  | succ k ih =>
    intro i fz hi
    refine g_iload_n (q := 3) dX5_exchange_2 rfl rfl ?_
    refine g_bipush (q := 5) (v := nI 6) dX5_exchange_3 rfl (by decide) ?_
    refine g_icmp_ge (tgt := 42) (q := 8) dX5_exchange_5 (by decide) rfl (fun c5 => absurd c5 (nI_ge (by omega) (by omega))) (fun _ => ?_)
    refine g_aload_n (q := 9) dX5_exchange_8 rfl rfl ?_
    refine g_iload_n (q := 10) dX5_exchange_9 rfl rfl ?_
    refine g_iload_n (q := 11) dX5_exchange_10 rfl rfl ?_
    refine k_X5_40 (q := 14) rfl (Nat.le_of_ble_eq_true rfl) (by first | assumption | rfl) dX5_exchange_11 rfl (c_X5_fact (by assumption) (by omega) (by omega) ?_)
    rw [exP_at (by omega)]
    refine g_istore (q := 16) dX5_exchange_14 rfl (by decide) rfl rfl ?_
    refine g_aload_n (q := 17) dX5_exchange_16 rfl rfl ?_
    refine g_iload_n (q := 18) dX5_exchange_17 rfl rfl ?_
    refine g_iload_n (q := 19) dX5_exchange_18 rfl rfl ?_
    refine g_aload_n (q := 20) dX5_exchange_19 rfl rfl ?_
    refine g_iload_n (q := 21) dX5_exchange_20 rfl rfl ?_
    refine g_iload_n (q := 22) dX5_exchange_21 rfl rfl ?_
    refine k_X5_40 (q := 25) rfl (Nat.le_of_ble_eq_true rfl) (by first | assumption | rfl) dX5_exchange_22 rfl (c_X5_fact (by assumption) (by omega) (by omega) ?_)
    rw [exP_at (by omega)]
    refine k_X5_44 (q := 28) rfl (Nat.le_of_ble_eq_true rfl) (by first | assumption | rfl) dX5_exchange_25 rfl (c_X5_putFact (by assumption) (by omega) (by omega) ?_)
    refine g_aload_n (q := 29) dX5_exchange_28 rfl rfl ?_
    refine g_iload_n (q := 30) dX5_exchange_29 rfl rfl ?_
    refine g_iload_n (q := 31) dX5_exchange_30 rfl rfl ?_
    refine g_iload (q := 33) dX5_exchange_31 rfl rfl ?_
    refine k_X5_44 (q := 36) rfl (Nat.le_of_ble_eq_true rfl) (by first | assumption | rfl) dX5_exchange_33 rfl (c_X5_putFact (by assumption) (by omega) (by omega) ?_)
    rw [exP_s (by omega)]
    refine g_iincn (q := 39) dX5_exchange_36 rfl rfl (by decide) rfl rfl ?_
    refine g_goto (q := 2) dX5_exchange_39 (by decide) ?_
    exact ih (i + 1) _ (by omega)
set_option maxRecDepth 100000 in
set_option maxHeartbeats 400000 in
theorem c_X5_exchange {d n : Nat} {I : Nat → Nat → Int32} {R : Nat → Nat → Option Nat} {Q : Option Int32 → Wd → Prop} {b a1 a2 : Nat} (hW : isWv R n b) (h1 : a1 < 5) (h2 : a2 < 5) (h : Q none (exP I b a1 a2 6, R)) : Ex (d + 1) 0 0 mX5_exchange [.ref b, .int (nI a1), .int (nI a2)] n (I, R) n Q := by
  refine ex_intro (L0 := [.ref b, .int (nI a1), .int (nI a2), .null, .null]) (by decide +kernel) rfl rfl (Nat.le_of_ble_eq_true rfl) rfl ?_
  refine g_iconst (q := 1) (v := nI 0) dX5_exchange_0 rfl (by decide) ?_
  refine g_istore_n (q := 2) dX5_exchange_1 rfl (by decide) rfl rfl ?_
  have hl := l_X5_exchange_2 (Z := Zm Q n n 0 0) (n0 := n) (d := d) (I := I) hW h1 h2 (fun fz => by
    refine g_vret rfl dX5_exchange_42 (Nat.le_refl _) (Nat.le_refl _) ?_
    exact h) 6 0 .null (by omega)
  rw [exP_0] at hl
  exact hl
set_option maxRecDepth 100000 in
set_option maxHeartbeats 400000 in
theorem c_X5_addMethod {d n : Nat} {I : Nat → Nat → Int32} {R : Nat → Nat → Option Nat} {Q : Option Int32 → Wd → Prop} {b c : Nat} {x : Int32} (hW : isWv R n b) (hc : I b 5 = nI c) (hlt : c < 6) (h : Q none (uI (uI (uI I (b + 1) c x) (b + 2) c (nI 0)) b 5 (nI (c + 1)), R)) : Ex d 0 0 mX5_addMethod [.ref b, .int x] n (I, R) n Q := by
  obtain ⟨hs, ⟨r0, s0⟩, ⟨r1, s1⟩, ⟨r2, s2⟩, ⟨r3, s3⟩, ⟨r4, s4⟩⟩ := id hW
  refine ex_intro (L0 := [.ref b, .int x]) (by decide +kernel) rfl rfl (Nat.le_of_ble_eq_true rfl) rfl ?_
  refine g_aload_n (q := 1) dX5_addMethod_0 rfl rfl ?_
  refine gf_X5_27 (q := 4) rfl (by first | assumption | rfl) dX5_addMethod_1 rfl ?_
  rw [hc]
  refine g_bipush (q := 6) (v := nI 6) dX5_addMethod_4 rfl (by decide) ?_
  refine g_icmp_ge (tgt := 39) (q := 9) dX5_addMethod_6 (by decide) rfl (fun c6 => absurd c6 (nI_ge (by omega) (by omega))) (fun _ => ?_)
  refine g_aload_n (q := 10) dX5_addMethod_9 rfl rfl ?_
  refine gf_X5_9 (q := 13) rfl (by first | assumption | rfl) (by first | assumption | rfl) dX5_addMethod_10 rfl ?_
  refine g_aload_n (q := 14) dX5_addMethod_13 rfl rfl ?_
  refine gf_X5_27 (q := 17) rfl (by first | assumption | rfl) dX5_addMethod_14 rfl ?_
  rw [hc]
  refine g_iload_n (q := 18) dX5_addMethod_17 rfl rfl ?_
  refine g_iastn (q := 19) (by first | assumption | rfl) (by repeat' first | apply nI_a | apply nI_m | exact rfl) (by omega) dX5_addMethod_18 rfl ?_
  refine g_aload_n (q := 20) dX5_addMethod_19 rfl rfl ?_
  refine gf_X5_15 (q := 23) rfl (by first | assumption | rfl) (by first | assumption | rfl) dX5_addMethod_20 rfl ?_
  refine g_aload_n (q := 24) dX5_addMethod_23 rfl rfl ?_
  refine gf_X5_27 (q := 27) rfl (by first | assumption | rfl) dX5_addMethod_24 rfl ?_
  rw [uI_ne (show b ≠ b + 1 by omega), hc]
  refine g_iconst (q := 28) (v := nI 0) dX5_addMethod_27 rfl (by decide) ?_
  refine g_iastn (q := 29) (by first | assumption | rfl) (by repeat' first | apply nI_a | apply nI_m | exact rfl) (by omega) dX5_addMethod_28 rfl ?_
  refine g_aload_n (q := 30) dX5_addMethod_29 rfl rfl ?_
  refine g_dup (q := 31) dX5_addMethod_30 rfl rfl ?_
  refine gf_X5_27 (q := 34) rfl (by first | assumption | rfl) dX5_addMethod_31 rfl ?_
  rw [uI_ne (show b ≠ b + 2 by omega), uI_ne (show b ≠ b + 1 by omega), hc]
  refine g_iconst (q := 35) (v := nI 1) dX5_addMethod_34 rfl (by decide) ?_
  refine g_iadd (q := 36) dX5_addMethod_35 rfl ?_
  rw [nI_add]
  refine pf_X5_27 (q := 39) rfl (by first | assumption | rfl) dX5_addMethod_36 rfl ?_
  refine g_vret rfl dX5_addMethod_39 (Nat.le_refl _) (Nat.le_refl _) ?_
  exact h
set_option maxRecDepth 100000 in
set_option maxHeartbeats 400000 in
theorem c_X5_addStatement {d n : Nat} {I : Nat → Nat → Int32} {R : Nat → Nat → Option Nat} {Q : Option Int32 → Wd → Prop} {b c l : Nat} {x y : Int32} (hW : isWv R n b) (hc : I b 5 = nI (c + 1)) (hlt : c < 6) (hl : I (b + 2) c = nI l) (hl4 : l < 4) (h : Q none (uI (uI (uI I (b + 3) (c * 4 + l) x) (b + 4) (c * 4 + l) y) (b + 2) c (nI (l + 1)), R)) : Ex (d + 1) 0 0 mX5_addStatement [.ref b, .int x, .int y] n (I, R) n Q := by
  obtain ⟨hs, ⟨r0, s0⟩, ⟨r1, s1⟩, ⟨r2, s2⟩, ⟨r3, s3⟩, ⟨r4, s4⟩⟩ := id hW
  refine ex_intro (L0 := [.ref b, .int x, .int y, .null]) (by decide +kernel) rfl rfl (Nat.le_of_ble_eq_true rfl) rfl ?_
  refine g_aload_n (q := 1) dX5_addStatement_0 rfl rfl ?_
  refine gf_X5_27 (q := 4) rfl (by first | assumption | rfl) dX5_addStatement_1 rfl ?_
  rw [hc]
  refine g_iconst (q := 5) (v := nI 1) dX5_addStatement_4 rfl (by decide) ?_
  refine g_isub (q := 6) dX5_addStatement_5 rfl ?_
  rw [show nI (c + 1) - nI 1 = nI c from nI_pred c]
  refine g_istore_n (q := 7) dX5_addStatement_6 rfl (by decide) rfl rfl ?_
  refine g_iload_n (q := 8) dX5_addStatement_7 rfl rfl ?_
  refine g_if_lt (tgt := 44) (q := 11) dX5_addStatement_8 (by decide) rfl (fun c8 => absurd c8 (nI_pos (by omega))) (fun _ => ?_)
  refine g_aload_n (q := 12) dX5_addStatement_11 rfl rfl ?_
  refine gf_X5_15 (q := 15) rfl (by first | assumption | rfl) (by first | assumption | rfl) dX5_addStatement_12 rfl ?_
  refine g_iload_n (q := 16) dX5_addStatement_15 rfl rfl ?_
  refine g_ialdn (q := 17) (by first | assumption | rfl) (by repeat' first | apply nI_a | apply nI_m | exact rfl) (by omega) dX5_addStatement_16 rfl ?_
  rw [hl]
  refine g_iconst (q := 18) (v := nI 4) dX5_addStatement_17 rfl (by decide) ?_
  refine g_icmp_ge (tgt := 44) (q := 21) dX5_addStatement_18 (by decide) rfl (fun c18 => absurd c18 (nI_ge (by omega) (by omega))) (fun _ => ?_)
  refine g_aload_n (q := 22) dX5_addStatement_21 rfl rfl ?_
  refine g_iload_n (q := 23) dX5_addStatement_22 rfl rfl ?_
  refine g_aload_n (q := 24) dX5_addStatement_23 rfl rfl ?_
  refine gf_X5_15 (q := 27) rfl (by first | assumption | rfl) (by first | assumption | rfl) dX5_addStatement_24 rfl ?_
  refine g_iload_n (q := 28) dX5_addStatement_27 rfl rfl ?_
  refine g_ialdn (q := 29) (by first | assumption | rfl) (by repeat' first | apply nI_a | apply nI_m | exact rfl) (by omega) dX5_addStatement_28 rfl ?_
  rw [hl]
  refine g_iload_n (q := 30) dX5_addStatement_29 rfl rfl ?_
  refine g_iload_n (q := 31) dX5_addStatement_30 rfl rfl ?_
  refine k_X5_48 (q := 34) rfl (Nat.le_of_ble_eq_true rfl) (by first | assumption | rfl) dX5_addStatement_31 rfl (c_X5_putStatement (by assumption) (by omega) (by omega) ?_)
  refine g_aload_n (q := 35) dX5_addStatement_34 rfl rfl ?_
  refine gf_X5_15 (q := 38) rfl (by first | assumption | rfl) (by first | assumption | rfl) dX5_addStatement_35 rfl ?_
  refine g_iload_n (q := 39) dX5_addStatement_38 rfl rfl ?_
  refine g_dup2 (q := 40) dX5_addStatement_39 rfl rfl rfl ?_
  refine g_ialdn (q := 41) (by first | assumption | rfl) (by repeat' first | apply nI_a | apply nI_m | exact rfl) (by omega) dX5_addStatement_40 rfl ?_
  rw [uI_ne (show b + 2 ≠ b + 4 by omega), uI_ne (show b + 2 ≠ b + 3 by omega), hl]
  refine g_iconst (q := 42) (v := nI 1) dX5_addStatement_41 rfl (by decide) ?_
  refine g_iadd (q := 43) dX5_addStatement_42 rfl ?_
  rw [nI_add]
  refine g_iastn (q := 44) (by first | assumption | rfl) (by repeat' first | apply nI_a | apply nI_m | exact rfl) (by omega) dX5_addStatement_43 rfl ?_
  refine g_vret rfl dX5_addStatement_44 (Nat.le_refl _) (Nat.le_refl _) ?_
  exact h
set_option maxRecDepth 100000 in
set_option maxHeartbeats 400000 in
theorem c_X5_addAdvice {d n : Nat} {I : Nat → Nat → Int32} {R : Nat → Nat → Option Nat} {Q : Option Int32 → Wd → Prop} {b c : Nat} {x : Int32} (hW : isWv R n b) (hc : I b 6 = nI c) (hlt : c < 5) (h : Q (some (nI c)) (uI (uI I (b + 5) (c * 6 + 5) x) b 6 (nI (c + 1)), R)) : Ex (d + 1) 0 0 mX5_addAdvice [.ref b, .int x] n (I, R) n Q := by
  obtain ⟨hs, ⟨r0, s0⟩, ⟨r1, s1⟩, ⟨r2, s2⟩, ⟨r3, s3⟩, ⟨r4, s4⟩⟩ := id hW
  refine ex_intro (L0 := [.ref b, .int x, .null]) (by decide +kernel) rfl rfl (Nat.le_of_ble_eq_true rfl) rfl ?_
  refine g_aload_n (q := 1) dX5_addAdvice_0 rfl rfl ?_
  refine gf_X5_31 (q := 4) rfl (by first | assumption | rfl) dX5_addAdvice_1 rfl ?_
  rw [hc]
  refine g_iconst (q := 5) (v := nI 4) dX5_addAdvice_4 rfl (by decide) ?_
  refine ma_X5_52 (q := 8) rfl (Nat.le_of_ble_eq_true rfl) dX5_addAdvice_5 rfl ?_
  rw [if_neg (nI_nlt (by omega) (by omega))]
  refine g_istore_n (q := 9) dX5_addAdvice_8 rfl (by decide) rfl rfl ?_
  refine g_aload_n (q := 10) dX5_addAdvice_9 rfl rfl ?_
  refine g_iload_n (q := 11) dX5_addAdvice_10 rfl rfl ?_
  refine g_iconst (q := 12) (v := nI 5) dX5_addAdvice_11 rfl (by decide) ?_
  refine g_iload_n (q := 13) dX5_addAdvice_12 rfl rfl ?_
  refine k_X5_44 (q := 16) rfl (Nat.le_of_ble_eq_true rfl) (by first | assumption | rfl) dX5_addAdvice_13 rfl (c_X5_putFact (by assumption) (by omega) (by omega) ?_)
  refine g_aload_n (q := 17) dX5_addAdvice_16 rfl rfl ?_
  refine g_iload_n (q := 18) dX5_addAdvice_17 rfl rfl ?_
  refine g_iconst (q := 19) (v := nI 1) dX5_addAdvice_18 rfl (by decide) ?_
  refine g_iadd (q := 20) dX5_addAdvice_19 rfl ?_
  rw [nI_add]
  refine pf_X5_31 (q := 23) rfl (by first | assumption | rfl) dX5_addAdvice_20 rfl ?_
  refine g_iload_n (q := 24) dX5_addAdvice_23 rfl rfl ?_
  refine g_iret rfl dX5_addAdvice_24 (Nat.le_refl _) (Nat.le_refl _) ?_
  exact h
def thereF (v : Vv) : Prop := ∀ m, m < vnm v → callF v m >>> vnm v = 0
set_option maxRecDepth 100000 in
set_option maxHeartbeats 400000 in
theorem l_X5_callsOnly_2 {d n : Nat} {I : Nat → Nat → Int32} {R : Nat → Nat → Option Nat} {Q : Option Int32 → Wd → Prop} {b : Nat} {v : Vv} (hW : isWv R n b) (hC : CRep I b v) (hV : VOk0 v) (h1 : thereF v → Q (some (nI 1)) (I, R)) (h0 : ¬ thereF v → Q (some (nI 0)) (I, R)) : ∀ (k i : Nat), i + k = vnm v → (∀ m, m < i → callF v m >>> vnm v = 0) → G mX5_callsOnlyWhatIsThere (rmd (d + 2) 0 0) (Zm Q n n 0 0) n 2 [.ref b, .int (nI i)] [] n (I, R) 0 0 := by
  obtain ⟨hs, ⟨r0, s0⟩, ⟨r1, s1⟩, ⟨r2, s2⟩, ⟨r3, s3⟩, ⟨r4, s4⟩⟩ := id hW
  obtain ⟨hnm, hna, hmm, haa⟩ := id hC
  obtain ⟨v1, v2, v3, v4⟩ := id hV
  intro k
  induction k with
  | zero =>
    intro i hi hp
    have hi : i = vnm v := by omega
    subst hi
    refine g_iload_n (q := 3) dX5_callsOnlyWhatIsThere_2 rfl rfl ?_
    refine g_aload_n (q := 4) dX5_callsOnlyWhatIsThere_3 rfl rfl ?_
    refine gf_X5_27 (q := 7) rfl (by first | assumption | rfl) dX5_callsOnlyWhatIsThere_4 rfl ?_
    rw [hnm]
    refine g_icmp_ge (tgt := 31) (q := 10) dX5_callsOnlyWhatIsThere_7 (by decide) rfl (fun _ => ?_) (fun c7 => absurd (nI_le (Nat.le_refl _) (by omega)) c7)
    refine g_iconst (q := 32) (v := nI 1) dX5_callsOnlyWhatIsThere_31 rfl (by decide) ?_
    refine g_zret rfl (by decide) dX5_callsOnlyWhatIsThere_32 (Nat.le_refl _) (Nat.le_refl _) ?_
    exact h1 hp
  | succ k ih =>
    intro i hi hp
    refine g_iload_n (q := 3) dX5_callsOnlyWhatIsThere_2 rfl rfl ?_
    refine g_aload_n (q := 4) dX5_callsOnlyWhatIsThere_3 rfl rfl ?_
    refine gf_X5_27 (q := 7) rfl (by first | assumption | rfl) dX5_callsOnlyWhatIsThere_4 rfl ?_
    rw [hnm]
    refine g_icmp_ge (tgt := 31) (q := 10) dX5_callsOnlyWhatIsThere_7 (by decide) rfl (fun c7 => absurd c7 (nI_ge (by omega) (by omega))) (fun _ => ?_)
    refine g_aload_n (q := 11) dX5_callsOnlyWhatIsThere_10 rfl rfl ?_
    refine g_iload_n (q := 12) dX5_callsOnlyWhatIsThere_11 rfl rfl ?_
    refine k_X5_57 (q := 15) rfl (Nat.le_of_ble_eq_true rfl) (by first | assumption | rfl) dX5_callsOnlyWhatIsThere_12 rfl (c_X5_calledBy hW hC hV (by omega) ?_)
    refine g_aload_n (q := 16) dX5_callsOnlyWhatIsThere_15 rfl rfl ?_
    refine gf_X5_27 (q := 19) rfl (by first | assumption | rfl) dX5_callsOnlyWhatIsThere_16 rfl ?_
    rw [hnm]
    refine g_ishr (q := 20) dX5_callsOnlyWhatIsThere_19 rfl ?_
    rw [bit_up _ (callF_lt hV (by omega)) _ (by omega)]
    have hsm : callF v i >>> vnm v < 64 := Nat.lt_of_le_of_lt (Nat.shiftRight_le _ _) (callF_lt hV (by omega))
    refine g_if_eq (tgt := 25) (q := 23) dX5_callsOnlyWhatIsThere_20 (by decide) rfl (fun c20 => ?_) (fun c20 => ?_)
    · refine g_iincn (q := 28) dX5_callsOnlyWhatIsThere_25 rfl rfl (by decide) rfl rfl ?_
      refine g_goto (q := 2) dX5_callsOnlyWhatIsThere_28 (by decide) ?_
      refine ih (i + 1) (by omega) (fun m hm => ?_)
      by_cases e : m = i
      · rw [e]; exact (nI_eq (b := 0) (by omega) (by omega)).mp c20
      · exact hp m (by omega)
    · refine g_iconst (q := 24) (v := nI 0) dX5_callsOnlyWhatIsThere_23 rfl (by decide) ?_
      refine g_zret rfl (by decide) dX5_callsOnlyWhatIsThere_24 (Nat.le_refl _) (Nat.le_refl _) ?_
      exact h0 (fun z => c20 (by rw [z i (by omega)]; rfl))
set_option maxRecDepth 100000 in
set_option maxHeartbeats 400000 in
theorem c_X5_callsOnlyWhatIsThere {d n : Nat} {I : Nat → Nat → Int32} {R : Nat → Nat → Option Nat} {Q : Option Int32 → Wd → Prop} {b : Nat} {v : Vv} (hW : isWv R n b) (hC : CRep I b v) (hV : VOk0 v) (h1 : thereF v → Q (some (nI 1)) (I, R)) (h0 : ¬ thereF v → Q (some (nI 0)) (I, R)) : Ex (d + 2) 0 0 mX5_callsOnlyWhatIsThere [.ref b] n (I, R) n Q := by
  refine ex_intro (L0 := [.ref b, .null]) (by decide +kernel) rfl rfl (Nat.le_of_ble_eq_true rfl) rfl ?_
  refine g_iconst (q := 1) (v := nI 0) dX5_callsOnlyWhatIsThere_0 rfl (by decide) ?_
  refine g_istore_n (q := 2) dX5_callsOnlyWhatIsThere_1 rfl (by decide) rfl rfl ?_
  exact l_X5_callsOnly_2 hW hC hV h1 h0 (vnm v) 0 (by omega) (fun m hm => absurd hm (by omega))
