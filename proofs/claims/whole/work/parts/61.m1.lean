set_option maxRecDepth 100000 in
set_option maxHeartbeats 400000 in
theorem c_X7_in {d k : Nat} {I : Nat → Nat → Int32} {Q : Option Int32 → Wd → Prop} {x lo hi : Int32} (h1 : lo ≤ x → x ≤ hi → Q (some (nI 1)) (I, RR k)) (h0 : ¬ (lo ≤ x ∧ x ≤ hi) → Q (some (nI 0)) (I, RR k)) : Ex d 0 0 mX7_in [.int x, .int lo, .int hi] 68 (I, RR k) 68 Q := by
  refine ex_intro (L0 := [.int x, .int lo, .int hi]) (by decide +kernel) rfl rfl (Nat.le_of_ble_eq_true rfl) rfl ?_
  refine g_iload_n (q := 1) dX7_in_0 rfl rfl ?_
  refine g_iload_n (q := 2) dX7_in_1 rfl rfl ?_
  refine g_icmp_lt (tgt := 14) (q := 5) dX7_in_2 (by decide) rfl (fun c2 => ?_) (fun c2 => ?_)
  · refine g_iconst (q := 15) (v := nI 0) dX7_in_14 rfl (by decide) ?_
    refine g_zret rfl (by decide) dX7_in_15 (Nat.le_refl _) (Nat.le_refl _) ?_
    exact h0 (fun z => absurd c2 (Int32.not_lt.mpr z.1))
  · refine g_iload_n (q := 6) dX7_in_5 rfl rfl ?_
    refine g_iload_n (q := 7) dX7_in_6 rfl rfl ?_
    refine g_icmp_gt (tgt := 14) (q := 10) dX7_in_7 (by decide) rfl (fun c7 => ?_) (fun c7 => ?_)
    · refine g_iconst (q := 15) (v := nI 0) dX7_in_14 rfl (by decide) ?_
      refine g_zret rfl (by decide) dX7_in_15 (Nat.le_refl _) (Nat.le_refl _) ?_
      exact h0 (fun z => absurd c7 (Int32.not_lt.mpr z.2))
    · refine g_iconst (q := 11) (v := nI 1) dX7_in_10 rfl (by decide) ?_
      refine g_goto (q := 15) dX7_in_11 (by decide) ?_
      refine g_zret rfl (by decide) dX7_in_15 (Nat.le_refl _) (Nat.le_refl _) ?_
      exact h1 (Int32.not_lt.mp c2) (Int32.not_lt.mp c7)
set_option maxRecDepth 100000 in
set_option maxHeartbeats 400000 in
theorem c_X7_has {d k : Nat} {I : Nat → Nat → Int32} {Q : Option Int32 → Wd → Prop} {x y : Nat} (hx : x < 64) (hy : y < 8) (h1 : x.testBit y = true → Q (some (nI 1)) (I, RR k)) (h0 : x.testBit y = false → Q (some (nI 0)) (I, RR k)) : Ex d 0 0 mX7_has [.int (nI x), .int (nI y)] 68 (I, RR k) 68 Q := by
  refine ex_intro (L0 := [.int (nI x), .int (nI y)]) (by decide +kernel) rfl rfl (Nat.le_of_ble_eq_true rfl) rfl ?_
  refine g_iload_n (q := 1) dX7_has_0 rfl rfl ?_
  refine g_iload_n (q := 2) dX7_has_1 rfl rfl ?_
  refine g_ishr (q := 3) dX7_has_2 rfl ?_
  refine g_iconst (q := 4) (v := nI 1) dX7_has_3 rfl (by decide) ?_
  refine g_iand (q := 5) dX7_has_4 rfl ?_
  rw [bit_has x hx y hy]
  refine g_iconst (q := 6) (v := nI 1) dX7_has_5 rfl (by decide) ?_
  refine g_icmp_ne (tgt := 13) (q := 9) dX7_has_6 (by decide) rfl (fun c6 => ?_) (fun c6 => ?_)
  · refine g_iconst (q := 14) (v := nI 0) dX7_has_13 rfl (by decide) ?_
    refine g_zret rfl (by decide) dX7_has_14 (Nat.le_refl _) (Nat.le_refl _) ?_
    exact h0 (by cases hb : x.testBit y with | false => rfl | true => rw [hb] at c6; exact absurd rfl c6)
  · refine g_iconst (q := 10) (v := nI 1) dX7_has_9 rfl (by decide) ?_
    refine g_goto (q := 14) dX7_has_10 (by decide) ?_
    refine g_zret rfl (by decide) dX7_has_14 (Nat.le_refl _) (Nat.le_refl _) ?_
    exact h1 (by cases hb : x.testBit y with | true => rfl | false => rw [hb] at c6; exact absurd c6 (by decide))
set_option maxRecDepth 100000 in
set_option maxHeartbeats 400000 in
theorem c_X7_found {d k : Nat} {I : Nat → Nat → Int32} {Q : Option Int32 → Wd → Prop} {x : Int32} (h : Q (some (-1000010 - x)) (uI I 52 4 x, RR k)) : Ex d 0 0 mX7_found [.ref 52, .int x] 68 (I, RR k) 68 Q := by
  refine ex_intro (L0 := [.ref 52, .int x]) (by decide +kernel) rfl rfl (Nat.le_of_ble_eq_true rfl) rfl ?_
  refine g_aload_n (q := 1) dX7_found_0 rfl rfl ?_
  refine g_iload_n (q := 2) dX7_found_1 rfl rfl ?_
  refine pf_X7_57 (q := 5) rfl (by first | assumption | rfl) dX7_found_2 rfl ?_
  refine lc_X7_61 (q := 7) rfl dX7_found_5 rfl ?_
  refine g_iload_n (q := 8) dX7_found_7 rfl rfl ?_
  refine g_isub (q := 9) dX7_found_8 rfl ?_
  refine g_iret rfl dX7_found_9 (Nat.le_refl _) (Nat.le_refl _) ?_
  exact h
set_option maxRecDepth 100000 in
set_option maxHeartbeats 400000 in
theorem c_X7_well {d k : Nat} {I : Nat → Nat → Int32} {Q : Option Int32 → Wd → Prop} {x : Int32} (h : Q (some x) (uI I 52 4 (nI 0), RR k)) : Ex d 0 0 mX7_well [.ref 52, .int x] 68 (I, RR k) 68 Q := by
  refine ex_intro (L0 := [.ref 52, .int x]) (by decide +kernel) rfl rfl (Nat.le_of_ble_eq_true rfl) rfl ?_
  refine g_aload_n (q := 1) dX7_well_0 rfl rfl ?_
  refine g_iconst (q := 2) (v := nI 0) dX7_well_1 rfl (by decide) ?_
  refine pf_X7_57 (q := 5) rfl (by first | assumption | rfl) dX7_well_2 rfl ?_
  refine g_iload_n (q := 6) dX7_well_5 rfl rfl ?_
  refine g_iret rfl dX7_well_6 (Nat.le_refl _) (Nat.le_refl _) ?_
  exact h
set_option maxRecDepth 100000 in
set_option maxHeartbeats 400000 in
theorem c_X7_isRow {d k : Nat} {I : Nat → Nat → Int32} {Q : Option Int32 → Wd → Prop} {x : Int32} (h1 : nI 0 ≤ x ∧ x ≤ nI 7 → Q (some (nI 1)) (I, RR k)) (h0 : ¬ (nI 0 ≤ x ∧ x ≤ nI 7) → Q (some (nI 0)) (I, RR k)) : Ex (d + 1) 0 0 mX7_isRow [.int x] 68 (I, RR k) 68 Q := by
  refine ex_intro (L0 := [.int x]) (by decide +kernel) rfl rfl (Nat.le_of_ble_eq_true rfl) rfl ?_
  refine g_iload_n (q := 1) dX7_isRow_0 rfl rfl ?_
  refine g_iconst (q := 2) (v := nI 0) dX7_isRow_1 rfl (by decide) ?_
  refine g_bipush (q := 4) (v := nI 7) dX7_isRow_2 rfl (by decide) ?_
  refine k_X7_62 (q := 7) rfl (Nat.le_of_ble_eq_true rfl) dX7_isRow_4 rfl (c_X7_in (fun z41 z42 => ?_) (fun z4 => ?_))
  · have z4 := And.intro z41 z42
    refine g_zret rfl (by decide) dX7_isRow_7 (Nat.le_refl _) (Nat.le_refl _) ?_
    exact h1 z4
  · refine g_zret rfl (by decide) dX7_isRow_7 (Nat.le_refl _) (Nat.le_refl _) ?_
    exact h0 z4
set_option maxRecDepth 100000 in
set_option maxHeartbeats 400000 in
theorem c_X7_isMissing {d k : Nat} {I : Nat → Nat → Int32} {Q : Option Int32 → Wd → Prop} {r : Nat} (hr8 : r < 8) (h1 : I 53 r = -1000000 → Q (some (nI 1)) (I, RR k)) (h0 : ¬ I 53 r = -1000000 → Q (some (nI 0)) (I, RR k)) : Ex d 0 0 mX7_isMissing [.ref 52, .int (nI r)] 68 (I, RR k) 68 Q := by
  refine ex_intro (L0 := [.ref 52, .int (nI r)]) (by decide +kernel) rfl rfl (Nat.le_of_ble_eq_true rfl) rfl ?_
  refine g_aload_n (q := 1) dX7_isMissing_0 rfl rfl ?_
  refine gf_X7_7 (q := 4) rfl (by first | assumption | rfl) (by first | assumption | rfl) dX7_isMissing_1 rfl ?_
  refine g_iload_n (q := 5) dX7_isMissing_4 rfl rfl ?_
  refine g_ialdn (q := 6) (by first | assumption | rfl) (by repeat' first | apply nI_a | apply nI_m | exact rfl) (by omega) dX7_isMissing_5 rfl ?_
  refine lc_X7_56 (q := 8) rfl dX7_isMissing_6 rfl ?_
  refine g_icmp_ne (tgt := 15) (q := 11) dX7_isMissing_8 (by decide) rfl (fun c8 => ?_) (fun c8 => ?_)
  · refine g_iconst (q := 16) (v := nI 0) dX7_isMissing_15 rfl (by decide) ?_
    refine g_zret rfl (by decide) dX7_isMissing_16 (Nat.le_refl _) (Nat.le_refl _) ?_
    exact h0 c8
  · refine g_iconst (q := 12) (v := nI 1) dX7_isMissing_11 rfl (by decide) ?_
    refine g_goto (q := 16) dX7_isMissing_12 (by decide) ?_
    refine g_zret rfl (by decide) dX7_isMissing_16 (Nat.le_refl _) (Nat.le_refl _) ?_
    exact h1 c8
set_option maxRecDepth 100000 in
set_option maxHeartbeats 400000 in
theorem c_X7_lowest {d k : Nat} {I : Nat → Nat → Int32} {Q : Option Int32 → Wd → Prop} {l v : Int32} (h : Q (some (lowF l v)) (I, RR k)) : Ex d 0 0 mX7_lowest [.int l, .int v] 68 (I, RR k) 68 Q := by
  refine ex_intro (L0 := [.int l, .int v]) (by decide +kernel) rfl rfl (Nat.le_of_ble_eq_true rfl) rfl ?_
  refine g_iload_n (q := 1) dX7_lowest_0 rfl rfl ?_
  refine g_if_ne (tgt := 14) (q := 4) dX7_lowest_1 (by decide) rfl (fun c1 => ?_) (fun c1 => ?_)
  · refine g_iload_n (q := 15) dX7_lowest_14 rfl rfl ?_
    refine g_iconst (q := 16) (v := nI 1) dX7_lowest_15 rfl (by decide) ?_
    refine g_icmp_ne (tgt := 29) (q := 19) dX7_lowest_16 (by decide) rfl (fun c16 => ?_) (fun c16 => ?_)
    · refine g_iload_n (q := 30) dX7_lowest_29 rfl rfl ?_
      refine g_iret rfl dX7_lowest_30 (Nat.le_refl _) (Nat.le_refl _) ?_
      unfold lowF at h
      rw [if_neg c1, if_neg c16] at h
      exact h
    · refine g_iload_n (q := 20) dX7_lowest_19 rfl rfl ?_
      refine g_bipush (q := 22) (v := nI 16) dX7_lowest_20 rfl (by decide) ?_
      refine g_ishl (q := 23) dX7_lowest_22 rfl ?_
      refine g_bipush (q := 25) (v := nI 16) dX7_lowest_23 rfl (by decide) ?_
      refine g_ishr (q := 26) dX7_lowest_25 rfl ?_
      rw [low16]
      refine g_goto (q := 30) dX7_lowest_26 (by decide) ?_
      refine g_iret rfl dX7_lowest_30 (Nat.le_refl _) (Nat.le_refl _) ?_
      unfold lowF at h
      rw [if_neg c1, if_pos c16] at h
      exact h
  · refine g_iload_n (q := 5) dX7_lowest_4 rfl rfl ?_
    refine g_bipush (q := 7) (v := nI 24) dX7_lowest_5 rfl (by decide) ?_
    refine g_ishl (q := 8) dX7_lowest_7 rfl ?_
    refine g_bipush (q := 10) (v := nI 24) dX7_lowest_8 rfl (by decide) ?_
    refine g_ishr (q := 11) dX7_lowest_10 rfl ?_
    rw [low8]
    refine g_goto (q := 30) dX7_lowest_11 (by decide) ?_
    refine g_iret rfl dX7_lowest_30 (Nat.le_refl _) (Nat.le_refl _) ?_
    unfold lowF at h
    rw [if_pos c1] at h
    exact h
theorem MRows.eq {I J : Nat → Nat → Int32} {w : Rw} (h : MRows I w) (e3 : J 53 = I 53) (e4 : J 54 = I 54) (e5 : J 55 = I 55) : MRows J w := by
  unfold MRows; rw [e3, e4, e5]; exact h
theorem MTape.eq {I J : Nat → Nat → Int32} {t : List Nat} (h : MTape I t) (e2 : J 52 6 = I 52 6) (e3 : J 57 = I 57) : MTape J t := by
  unfold MTape; rw [e2, e3]; exact h
theorem MRep.eq {I J : Nat → Nat → Int32} {p o : Nat} {v : Vv} (h : MRep I p o v) (e : J p = I p) : MRep J p o v := by
  unfold MRep; rw [e]; exact h
theorem MImg.eq {I J : Nat → Nat → Int32} {g : Nat → Option Vv} (h : MImg I g) (e2 : J 62 = I 62) (e3 : J 63 = I 63) : MImg J g := by
  intro q hq
  rw [e3]
  rcases h q hq with a | ⟨u, a, b, c, d⟩
  · exact Or.inl a
  · exact Or.inr ⟨u, a, b, c.eq e2, d⟩
theorem MPast.eq {I J : Nat → Nat → Int32} (e : J 61 = I 61) {o : Nat} : ∀ (n : Nat) (us : List Vv), MPast I o n us → MPast J o n us := by
  intro n
  induction n with
  | zero => intro us h; exact h
  | succ n ih =>
    intro us h
    obtain ⟨u, t, h1, h2, h3, h4⟩ := h
    exact ⟨u, t, h1, h2.eq e, h3, ih t h4⟩
theorem MActs.eq {I J : Nat → Nat → Int32} {us : List Vv} (h : MActs I us) (e7 : J 52 17 = I 52 17) (e8 : J 61 = I 61) : MActs J us := ⟨e7.trans h.1, h.2.1, MPast.eq e8 _ _ h.2.2⟩
theorem MTr.eq {I J : Nat → Nat → Int32} {t : List Nat} (h : MTr I t) (e2 : J 52 31 = I 52 31) (e3 : J 67 = I 67) : MTr J t := by
  unfold MTr; rw [e2, e3]; exact h
/-- the fields of the reference that its state speaks of -/
theorem RepM.fnd {I : Nat → Nat → Int32} {S : Sg} (h : RepM I S) {x : Nat} (hx : x < 6) : RepM (uI I 52 4 (nI x)) (S.1, x, S.2.2) := by
  obtain ⟨h1, h2, h3, h4, h5, h6, h7, h8⟩ := h
  have e : ∀ p, p ≠ 52 → uI I 52 4 (nI x) p = I p := fun p hp => uI_ne hp
  have f : ∀ j, j ≠ 4 → uI I 52 4 (nI x) 52 j = I 52 j := fun j hj => by simp [uI, hj]
  exact ⟨h1.eq (e 53 (by decide)) (e 54 (by decide)) (e 55 (by decide)), ⟨uI_eq, hx⟩, h3.eq (f 6 (by decide)) (e 57 (by decide)), ⟨(f 7 (by decide)).trans h4.1, h4.2⟩, ⟨h5.1.eq (e 58 (by decide)), h5.2⟩, h6.eq (f 17 (by decide)) (e 61 (by decide)), h7.eq (e 62 (by decide)) (e 63 (by decide)), h8.eq (f 31 (by decide)) (e 67 (by decide))⟩
theorem RepM.rows {I J : Nat → Nat → Int32} {S : Sg} {w : Rw} (h : RepM I S) (hw : MRows J w) (e : ∀ p, p < 53 ∨ 57 ≤ p → J p = I p) : RepM J (w, S.2) := by
  obtain ⟨h1, h2, h3, h4, h5, h6, h7, h8⟩ := h
  have e0 := e 52 (by omega)
  exact ⟨hw, by rw [e0]; exact h2, h3.eq (by rw [e0]) (e 57 (by omega)), by rw [e0]; exact h4, ⟨h5.1.eq (e 58 (by omega)), h5.2⟩, h6.eq (by rw [e0]) (e 61 (by omega)), h7.eq (e 62 (by omega)) (e 63 (by omega)), h8.eq (by rw [e0]) (e 67 (by omega))⟩

theorem nI_none {n : Nat} (h : n < 1000) : ¬ nI n = -1000000 := by
  intro z
  have h1 := congrArg Int32.toInt z
  rw [nI_toInt (by omega)] at h1
  have h2 : (-1000000 : Int32).toInt = -1000000 := by decide
  rw [h2] at h1
  omega
theorem MRows.up {I J : Nat → Nat → Int32} {w : Rw} {r : Nat} {x : Option (Nat × Nat × (Nat → Int32))} (h : MRows I w) (e3 : ∀ q, q ≠ r → J 53 q = I 53 q) (e4 : ∀ q, q ≠ r → J 54 q = I 54 q) (e5 : ∀ q, q ≠ r → ∀ j, j < 40 → J 55 (40 * q + j) = I 55 (40 * q + j))
    (hx : (x = none ∧ J 53 r = -1000000) ∨ ∃ l z it, x = some (l, z, it) ∧ J 53 r = nI l ∧ J 54 r = nI z ∧ l < 3 ∧ z ≤ 40 ∧ ∀ j, j < z → J 55 (40 * r + j) = it j) : MRows J (upR w r x) := by
  intro q hq
  unfold upR
  by_cases hqr : q = r
  · subst hqr
    rw [if_pos rfl]
    exact hx
  · rw [if_neg hqr, e3 q hqr, e4 q hqr]
    rcases h q hq with a | ⟨l, z, it, a, b, c, d, e, f⟩
    · exact Or.inl a
    · exact Or.inr ⟨l, z, it, a, b, c, d, e, fun j hj => by rw [e5 q hqr j (by omega)]; exact f j hj⟩
/-- from o on the first k of a row are 0 -/
def zo (I : Nat → Nat → Int32) (p o k : Nat) : Nat → Nat → Int32 := fun a j => if a = p ∧ o ≤ j ∧ j < o + k then nI 0 else I a j
theorem zo_s {I : Nat → Nat → Int32} {p o k : Nat} : uI (zo I p o k) p (o + k) (nI 0) = zo I p o (k + 1) := by
  funext a j
  simp only [uI, zo]
  by_cases h1 : a = p
  · by_cases h2 : j = o + k
    · have : o ≤ j ∧ j < o + (k + 1) := by omega
      simp [h1, h2]
    · by_cases h3 : o ≤ j ∧ j < o + k
      · have : o ≤ j ∧ j < o + (k + 1) := by omega
        simp [h1, h2, h3, this]
      · have : ¬ (o ≤ j ∧ j < o + (k + 1)) := by omega
        rw [if_neg (fun z => h2 z.2), if_neg (fun z => h3 z.2), if_neg (fun z => this z.2)]
  · simp [h1]
theorem zo_0 {I : Nat → Nat → Int32} {p o : Nat} : zo I p o 0 = I := by
  funext a j
  unfold zo
  rw [if_neg (by omega)]

set_option maxRecDepth 100000 in
set_option maxHeartbeats 400000 in
theorem l_mrow {D k a b c n0 : Nat} {Z : Zt} {I : Nat → Nat → Int32} (ha : a < 8) (hex : G mX7_row (rmd D 0 0) Z n0 78 [.ref 52, .int (nI a), .int (nI b), .int (nI c), .int (nI 40)] [] 68 (zo I 55 (40 * a) 40, RR k) 0 0) : ∀ (n i : Nat), i + n = 40 → G mX7_row (rmd D 0 0) Z n0 52 [.ref 52, .int (nI a), .int (nI b), .int (nI c), .int (nI i)] [] 68 (zo I 55 (40 * a) i, RR k) 0 0 := by
  intro n
  induction n with
  | zero =>
    intro i hi
    have hi : i = 40 := by omega
    subst hi
    refine g_iload (q := 54) dX7_row_52 rfl rfl ?_
    refine g_bipush (q := 56) (v := nI 40) dX7_row_54 rfl (by decide) ?_
    refine g_icmp_ge (tgt := 78) (q := 59) dX7_row_56 (by decide) rfl (fun _ => ?_) (fun c56 => absurd (nI_le (by omega) (by omega)) c56)
    exact hex
  | succ n ih =>
    intro i hi
    refine g_iload (q := 54) dX7_row_52 rfl rfl ?_
    refine g_bipush (q := 56) (v := nI 40) dX7_row_54 rfl (by decide) ?_
    refine g_icmp_ge (tgt := 78) (q := 59) dX7_row_56 (by decide) rfl (fun c56 => absurd c56 (nI_ge (by omega) (by omega))) (fun _ => ?_)
    refine g_aload_n (q := 60) dX7_row_59 rfl rfl ?_
    refine gf_X7_16 (q := 63) rfl (by first | assumption | rfl) (by first | assumption | rfl) dX7_row_60 rfl ?_
    refine g_bipush (q := 65) (v := nI 40) dX7_row_63 rfl (by decide) ?_
    refine g_iload_n (q := 66) dX7_row_65 rfl rfl ?_
    refine g_imul (q := 67) dX7_row_66 rfl ?_
    refine g_iload (q := 69) dX7_row_67 rfl rfl ?_
    refine g_iadd (q := 70) dX7_row_69 rfl ?_
    refine g_iconst (q := 71) (v := nI 0) dX7_row_70 rfl (by decide) ?_
    refine g_iastn (q := 72) (by first | assumption | rfl) (by repeat' first | apply nI_a | apply nI_m | exact rfl) (by omega) dX7_row_71 rfl ?_
    rw [zo_s]
    refine g_iincn (q := 75) dX7_row_72 rfl rfl (by decide) rfl rfl ?_
    refine g_goto (q := 52) dX7_row_75 (by decide) ?_
    exact ih (i + 1) (by omega)
set_option maxRecDepth 100000 in
set_option maxHeartbeats 400000 in
theorem c_X7_row {d k : Nat} {I : Nat → Nat → Int32} {Q : Option Int32 → Wd → Prop} {S : Sg} {r l c : Int32} (hr : RepM I S) (h : ∀ I2, RepM I2 (rowS S r l c).2 → FrM I I2 → Q (some (rowS S r l c).1) (I2, RR k)) : Ex (d + 2) 0 0 mX7_row [.ref 52, .int r, .int l, .int c] 68 (I, RR k) 68 Q := by
  refine ex_intro (L0 := [.ref 52, .int r, .int l, .int c, .null]) (by decide +kernel) rfl rfl (Nat.le_of_ble_eq_true rfl) rfl ?_
  refine g_iload_n (q := 1) dX7_row_0 rfl rfl ?_
  refine k_X7_66 (q := 4) rfl (Nat.le_of_ble_eq_true rfl) dX7_row_1 rfl (c_X7_isRow (fun z1 => ?_) (fun z1 => ?_))
  · refine g_if_eq (tgt := 22) (q := 7) dX7_row_4 (by decide) rfl (fun c4 => absurd c4 (by decide)) (fun _ => ?_)
    refine g_iload_n (q := 8) dX7_row_7 rfl rfl ?_
    refine g_iconst (q := 9) (v := nI 0) dX7_row_8 rfl (by decide) ?_
    refine g_iconst (q := 10) (v := nI 2) dX7_row_9 rfl (by decide) ?_
    refine k_X7_62 (q := 13) rfl (Nat.le_of_ble_eq_true rfl) dX7_row_10 rfl (c_X7_in (fun z101 z102 => ?_) (fun z10 => ?_))
    · have z10 := And.intro z101 z102
      refine g_if_eq (tgt := 22) (q := 16) dX7_row_13 (by decide) rfl (fun c13 => absurd c13 (by decide)) (fun _ => ?_)
      refine g_iload_n (q := 17) dX7_row_16 rfl rfl ?_
      refine g_bipush (q := 19) (v := nI 40) dX7_row_17 rfl (by decide) ?_
      refine g_icmp_le (tgt := 25) (q := 22) dX7_row_19 (by decide) rfl (fun c19 => ?_) (fun c19 => ?_)
      · refine g_iload_n (q := 26) dX7_row_25 rfl rfl ?_
        refine g_if_ge (tgt := 35) (q := 29) dX7_row_26 (by decide) rfl (fun c26 => ?_) (fun c26 => ?_)
        · have y1 := z1
          have y10 := z10
          obtain ⟨a, ha, rfl⟩ := inR_nat (by decide) z1
          obtain ⟨b, hb, rfl⟩ := inR_nat (by decide) z10
          obtain ⟨c, hc, rfl⟩ := inR_nat (N := 40) (by decide) ⟨c26, c19⟩
          rw [rowS, if_pos y1, if_pos y10, if_pos c19, if_pos c26, nI_clamp (by omega), nI_clamp (by omega), nI_clamp (by omega)] at h
          refine g_aload_n (q := 36) dX7_row_35 rfl rfl ?_
          refine gf_X7_7 (q := 39) rfl (by first | assumption | rfl) (by first | assumption | rfl) dX7_row_36 rfl ?_
          refine g_iload_n (q := 40) dX7_row_39 rfl rfl ?_
          refine g_iload_n (q := 41) dX7_row_40 rfl rfl ?_
          refine g_iastn (q := 42) (by first | assumption | rfl) (by repeat' first | apply nI_a | apply nI_m | exact rfl) (by omega) dX7_row_41 rfl ?_
          refine g_aload_n (q := 43) dX7_row_42 rfl rfl ?_
          refine gf_X7_13 (q := 46) rfl (by first | assumption | rfl) (by first | assumption | rfl) dX7_row_43 rfl ?_
          refine g_iload_n (q := 47) dX7_row_46 rfl rfl ?_
          refine g_iload_n (q := 48) dX7_row_47 rfl rfl ?_
          refine g_iastn (q := 49) (by first | assumption | rfl) (by repeat' first | apply nI_a | apply nI_m | exact rfl) (by omega) dX7_row_48 rfl ?_
          refine g_iconst (q := 50) (v := nI 0) dX7_row_49 rfl (by decide) ?_
          refine g_istore (q := 52) dX7_row_50 rfl (by decide) rfl rfl ?_
          have hl := l_mrow (D := d + 2) (k := k) (a := a) (b := b) (c := c) (Z := Zm Q 68 68 0 0) (n0 := 68) (I := uI (uI I 53 a (nI b)) 54 a (nI c)) (by omega) ?_ 40 0 rfl
          · rw [zo_0] at hl
            exact hl
          refine g_aload_n (q := 79) dX7_row_78 rfl rfl ?_
          refine g_iload_n (q := 80) dX7_row_79 rfl rfl ?_
          refine k_X7_75 (q := 83) rfl (Nat.le_of_ble_eq_true rfl) (by first | assumption | rfl) dX7_row_80 rfl (c_X7_well ?_)
          refine g_iret rfl dX7_row_83 (Nat.le_refl _) (Nat.le_refl _) ?_
          refine h _ ?_ (FrM.tr (fun p hp => ?_) (FrM.ui (by decide)))
          · refine RepM.fnd (x := 0) (RepM.rows hr (MRows.up (r := a) hr.1 (fun q hq => ?_) (fun q hq => ?_) (fun q hq j hj => ?_) (Or.inr ⟨b, c, fun _ => nI 0, rfl, ?_, ?_, by omega, by omega, fun j hj => ?_⟩)) (fun p hp => ?_)) (by decide)
            · simp [zo, uI, hq]
            · simp [zo, uI, hq]
            · have : ¬ (40 * a ≤ 40 * q + j ∧ 40 * q + j < 40 * a + 40) := by omega
              simp only [zo, uI]
              rw [if_neg (fun z => this z.2)]
              simp
            · simp [zo, uI]
            · simp [zo, uI]
            · unfold zo; rw [if_pos ⟨rfl, by omega, by omega⟩]
            · have n1 : p ≠ 53 := by omega
              have n2 : p ≠ 54 := by omega
              have n3 : p ≠ 55 := by omega
              funext j; simp [zo, uI, n1, n2, n3]
          · have n1 : p ≠ 53 := by omega
            have n2 : p ≠ 54 := by omega
            have n3 : p ≠ 55 := by omega
            funext j; simp [zo, uI, n1, n2, n3]
        · refine g_aload_n (q := 30) dX7_row_29 rfl rfl ?_
          refine g_iconst (q := 31) (v := nI 4) dX7_row_30 rfl (by decide) ?_
          refine k_X7_71 (q := 34) rfl (Nat.le_of_ble_eq_true rfl) (by first | assumption | rfl) dX7_row_31 rfl (c_X7_found ?_)
          refine g_iret rfl dX7_row_34 (Nat.le_refl _) (Nat.le_refl _) ?_
          rw [rowS, if_pos z1, if_pos z10, if_pos c19, if_neg c26] at h
          exact h _ (hr.fnd (by decide)) (FrM.ui (by decide))
      · refine lc_X7_70 (q := 24) rfl dX7_row_22 rfl ?_
        refine g_iret rfl dX7_row_24 (Nat.le_refl _) (Nat.le_refl _) ?_
        rw [rowS, if_pos z1, if_pos z10, if_neg c19] at h
        exact h I hr FrM.rf
    · refine g_if_eq (tgt := 22) (q := 16) dX7_row_13 (by decide) rfl (fun _ => ?_) (fun c13 => absurd c13 (by decide))
      refine lc_X7_70 (q := 24) rfl dX7_row_22 rfl ?_
      refine g_iret rfl dX7_row_24 (Nat.le_refl _) (Nat.le_refl _) ?_
      rw [rowS, if_pos z1, if_neg z10] at h
      exact h I hr FrM.rf
  · refine g_if_eq (tgt := 22) (q := 7) dX7_row_4 (by decide) rfl (fun _ => ?_) (fun c4 => absurd c4 (by decide))
    refine lc_X7_70 (q := 24) rfl dX7_row_22 rfl ?_
    refine g_iret rfl dX7_row_24 (Nat.le_refl _) (Nat.le_refl _) ?_
    rw [rowS, if_neg z1] at h
    exact h I hr FrM.rf
