/-! the class's reading of the text: the tape at 2, its bytes at 3, into the weave at 10 -/
def tkJ (t : List Nat) (p : Nat) : Int32 := if kdT t p = 0 then -2 else if kdT t p = 1 then nI (t.getD p 0) else if kdT t p = 2 then -1 else -3
def RC (J : Nat → Nat → Int32) (t : List Nat) (s : Ps) : Prop := RTape J t ∧ J 2 2 = nI s.2 ∧ J 2 6 = nI s.1 ∧ s.1 < 5 ∧ s.2 ≤ t.length ∧ (s.1 = 0 → J 2 3 = nI (nxt t s.2) ∧ J 2 4 = tkJ t s.2 ∧ (kdT t s.2 = 2 → J 2 5 = nI (tkV t s.2)))
theorem RC.eq {I J : Nat → Nat → Int32} {t : List Nat} {s : Ps} (h : RC I t s) (e2 : J 2 = I 2) (e3 : J 3 = I 3) : RC J t s := by
  unfold RC RTape; rw [e2, e3]; exact h
theorem RTape.b {J : Nat → Nat → Int32} {t : List Nat} (h : RTape J t) (p : Nat) : t.getD p 0 < 256 := by
  by_cases hp : p < t.length
  · exact (h.2.2 p hp).2
  · rw [List.getD_eq_getElem?_getD, List.getElem?_eq_none (by omega)]; decide
theorem kdT_lt (t : List Nat) (p : Nat) : kdT t p = 0 ∨ kdT t p = 1 ∨ kdT t p = 2 ∨ kdT t p = 3 := by
  unfold kdT
  repeat' split
  all_goals decide
theorem tkJ_0 {t : List Nat} {p : Nat} (h : kdT t p = 0) : tkJ t p = -2 := by unfold tkJ; rw [if_pos h]
theorem tkJ_1 {t : List Nat} {p : Nat} (h : kdT t p = 1) : tkJ t p = nI (t.getD p 0) := by unfold tkJ; rw [if_neg (by omega), if_pos h]
theorem tkJ_2 {t : List Nat} {p : Nat} (h : kdT t p = 2) : tkJ t p = -1 := by unfold tkJ; rw [if_neg (by omega), if_neg (by omega), if_pos h]
theorem tkJ_3 {t : List Nat} {p : Nat} (h : kdT t p = 3) : tkJ t p = -3 := by unfold tkJ; rw [if_neg (by omega), if_neg (by omega), if_neg (by omega)]
theorem nI_neg3 {n : Nat} (h : n < 2 ^ 31) : ¬ nI n = -1 ∧ ¬ nI n = -2 ∧ ¬ nI n = -3 := by
  have e := nI_toInt h
  refine ⟨fun z => ?_, fun z => ?_, fun z => ?_⟩
  · have h1 := congrArg Int32.toInt z; rw [e, show (-1 : Int32).toInt = -1 by decide] at h1; omega
  · have h1 := congrArg Int32.toInt z; rw [e, show (-2 : Int32).toInt = -2 by decide] at h1; omega
  · have h1 := congrArg Int32.toInt z; rw [e, show (-3 : Int32).toInt = -3 by decide] at h1; omega
theorem tkJ_num {t : List Nat} {p : Nat} (hb : t.getD p 0 < 256) : tkJ t p = -1 ↔ kdT t p = 2 := by
  constructor
  · intro h
    rcases kdT_lt t p with e | e | e | e
    · rw [tkJ_0 e] at h; exact absurd h (by decide)
    · rw [tkJ_1 e] at h; exact absurd h (nI_neg3 (by omega)).1
    · exact e
    · rw [tkJ_3 e] at h; exact absurd h (by decide)
  · exact tkJ_2
theorem tkJ_end {t : List Nat} {p : Nat} (hb : t.getD p 0 < 256) : tkJ t p = -2 ↔ kdT t p = 0 := by
  constructor
  · intro h
    rcases kdT_lt t p with e | e | e | e
    · exact e
    · rw [tkJ_1 e] at h; exact absurd h (nI_neg3 (by omega)).2.1
    · rw [tkJ_2 e] at h; exact absurd h (by decide)
    · rw [tkJ_3 e] at h; exact absurd h (by decide)
  · exact tkJ_0
theorem tkJ_chr {t : List Nat} {p x : Nat} (hb : t.getD p 0 < 256) (hx : x < 1000) : tkJ t p = nI x ↔ chr t p x = true := by
  have n := nI_neg3 (n := x) (by omega)
  rw [chr_iff]
  constructor
  · intro h
    rcases kdT_lt t p with e | e | e | e
    · rw [tkJ_0 e] at h; exact absurd h.symm n.2.1
    · rw [tkJ_1 e] at h; exact ⟨e, (nI_eq (by omega) (by omega)).mp h⟩
    · rw [tkJ_2 e] at h; exact absurd h.symm n.1
    · rw [tkJ_3 e] at h; exact absurd h.symm n.2.2
  · rintro ⟨e, h⟩
    rw [tkJ_1 e, h]
theorem Fr2 {I J : Nat → Nat → Int32} (h : Fr [2] I J) {p : Nat} (hp : p ≠ 2) : J p = I p := h p (by simp [hp])
theorem Fr2.u {I : Nat → Nat → Int32} {j : Nat} {x : Int32} : Fr [2] I (uI I 2 j x) := Fr.ui (by decide)
theorem RTape.f2 {I J : Nat → Nat → Int32} {t : List Nat} (h : RTape I t) (hF : Fr [2] I J) (e : J 2 1 = I 2 1) : RTape J t := ⟨e.trans h.1, h.2.1, fun j hj => by rw [Fr2 hF (by decide)]; exact h.2.2 j hj⟩
def vcI (t : List Nat) (p : Nat) : Nat → Int32
  | 0 => nI 0
  | j + 1 => vcI t p j * nI 10 + nI (t.getD (p + j) 0) - nI 48
theorem dg1 : ∀ c, c < 58 → 48 ≤ c → nI 0 * nI 10 + nI c - nI 48 = nI (c - 48) := by decide +kernel
theorem dg2 : ∀ a, a < 58 → 48 ≤ a → ∀ c, c < 58 → 48 ≤ c → nI (a - 48) * nI 10 + nI c - nI 48 = nI (10 * (a - 48) + (c - 48)) := by decide +kernel
theorem vcI_v {t : List Nat} {p : Nat} (h : isD t p) (h2 : dgN t p ≤ 2) : vcI t p (dgN t p) = nI (tkV t p) := by
  have h0 := dgN_pos h
  have e1 : vcI t p 1 = nI (t.getD p 0 - 48) := dg1 _ (Nat.lt_succ_of_le h.2.2) h.2.1
  unfold tkV
  by_cases e : dgN t p = 1
  · rw [e, if_pos rfl]; exact e1
  · have e : dgN t p = 2 := by omega
    rw [e, if_neg (by decide)]
    have hd := (dgN_all (t := t) (p := p) (j := 1) (by omega)).2
    show vcI t p 1 * nI 10 + nI (t.getD (p + 1) 0) - nI 48 = _
    rw [e1]
    exact dg2 _ (Nat.lt_succ_of_le h.2.2) h.2.1 _ (Nat.lt_succ_of_le hd.2) hd.1

set_option maxRecDepth 100000 in
set_option maxHeartbeats 400000 in
theorem c_X4_isFigure {d k : Nat} {I : Nat → Nat → Int32} {Q : Option Int32 → Wd → Prop} {x : Int32} (h1 : nI 48 ≤ x ∧ x ≤ nI 57 → Q (some (nI 1)) (I, RR k)) (h0 : ¬ (nI 48 ≤ x ∧ x ≤ nI 57) → Q (some (nI 0)) (I, RR k)) : Ex d 0 0 mX4_isFigure [.int x] 68 (I, RR k) 68 Q := by
  refine ex_intro (L0 := [.int x]) (by decide +kernel) rfl rfl (Nat.le_of_ble_eq_true rfl) rfl ?_
  refine g_iload_n (q := 1) dX4_isFigure_0 rfl rfl ?_
  refine g_bipush (q := 3) (v := nI 48) dX4_isFigure_1 rfl (by decide) ?_
  refine g_icmp_lt (tgt := 16) (q := 6) dX4_isFigure_3 (by decide) rfl (fun c3 => ?_) (fun c3 => ?_)
  · refine g_iconst (q := 17) (v := nI 0) dX4_isFigure_16 rfl (by decide) ?_
    refine g_zret rfl (by decide) dX4_isFigure_17 (Nat.le_refl _) (Nat.le_refl _) ?_
    exact h0 (fun z => absurd c3 (Int32.not_lt.mpr z.1))
  · refine g_iload_n (q := 7) dX4_isFigure_6 rfl rfl ?_
    refine g_bipush (q := 9) (v := nI 57) dX4_isFigure_7 rfl (by decide) ?_
    refine g_icmp_gt (tgt := 16) (q := 12) dX4_isFigure_9 (by decide) rfl (fun c9 => ?_) (fun c9 => ?_)
    · refine g_iconst (q := 17) (v := nI 0) dX4_isFigure_16 rfl (by decide) ?_
      refine g_zret rfl (by decide) dX4_isFigure_17 (Nat.le_refl _) (Nat.le_refl _) ?_
      exact h0 (fun z => absurd c9 (Int32.not_lt.mpr z.2))
    · refine g_iconst (q := 13) (v := nI 1) dX4_isFigure_12 rfl (by decide) ?_
      refine g_goto (q := 17) dX4_isFigure_13 (by decide) ?_
      refine g_zret rfl (by decide) dX4_isFigure_17 (Nat.le_refl _) (Nat.le_refl _) ?_
      exact h1 ⟨Int32.not_lt.mp c3, Int32.not_lt.mp c9⟩
set_option maxRecDepth 100000 in
set_option maxHeartbeats 400000 in
theorem c_X4_isLetterOrSign {d k : Nat} {I : Nat → Nat → Int32} {Q : Option Int32 → Wd → Prop} {x : Int32} (h1 : ((nI 97 ≤ x ∧ x ≤ nI 122) ∨ x = nI 44 ∨ x = nI 59) → Q (some (nI 1)) (I, RR k)) (h0 : ¬ ((nI 97 ≤ x ∧ x ≤ nI 122) ∨ x = nI 44 ∨ x = nI 59) → Q (some (nI 0)) (I, RR k)) : Ex d 0 0 mX4_isLetterOrSign [.int x] 68 (I, RR k) 68 Q := by
  refine ex_intro (L0 := [.int x]) (by decide +kernel) rfl rfl (Nat.le_of_ble_eq_true rfl) rfl ?_
  refine g_iload_n (q := 1) dX4_isLetterOrSign_0 rfl rfl ?_
  refine g_bipush (q := 3) (v := nI 97) dX4_isLetterOrSign_1 rfl (by decide) ?_
  refine g_icmp_lt (tgt := 12) (q := 6) dX4_isLetterOrSign_3 (by decide) rfl (fun c3 => ?_) (fun c3 => ?_)
  · refine g_iload_n (q := 13) dX4_isLetterOrSign_12 rfl rfl ?_
    refine g_bipush (q := 15) (v := nI 44) dX4_isLetterOrSign_13 rfl (by decide) ?_
    refine g_icmp_eq (tgt := 24) (q := 18) dX4_isLetterOrSign_15 (by decide) rfl (fun c15 => ?_) (fun c15 => ?_)
    · refine g_iconst (q := 25) (v := nI 1) dX4_isLetterOrSign_24 rfl (by decide) ?_
      refine g_goto (q := 29) dX4_isLetterOrSign_25 (by decide) ?_
      refine g_zret rfl (by decide) dX4_isLetterOrSign_29 (Nat.le_refl _) (Nat.le_refl _) ?_
      exact h1 (Or.inr (Or.inl c15))
    · refine g_iload_n (q := 19) dX4_isLetterOrSign_18 rfl rfl ?_
      refine g_bipush (q := 21) (v := nI 59) dX4_isLetterOrSign_19 rfl (by decide) ?_
      refine g_icmp_ne (tgt := 28) (q := 24) dX4_isLetterOrSign_21 (by decide) rfl (fun c21 => ?_) (fun c21 => ?_)
      · refine g_iconst (q := 29) (v := nI 0) dX4_isLetterOrSign_28 rfl (by decide) ?_
        refine g_zret rfl (by decide) dX4_isLetterOrSign_29 (Nat.le_refl _) (Nat.le_refl _) ?_
        exact h0 (fun z => z.elim (fun y => absurd c3 (Int32.not_lt.mpr y.1)) (fun y => y.elim c15 c21))
      · refine g_iconst (q := 25) (v := nI 1) dX4_isLetterOrSign_24 rfl (by decide) ?_
        refine g_goto (q := 29) dX4_isLetterOrSign_25 (by decide) ?_
        refine g_zret rfl (by decide) dX4_isLetterOrSign_29 (Nat.le_refl _) (Nat.le_refl _) ?_
        exact h1 (Or.inr (Or.inr c21))
  · refine g_iload_n (q := 7) dX4_isLetterOrSign_6 rfl rfl ?_
    refine g_bipush (q := 9) (v := nI 122) dX4_isLetterOrSign_7 rfl (by decide) ?_
    refine g_icmp_le (tgt := 24) (q := 12) dX4_isLetterOrSign_9 (by decide) rfl (fun c9 => ?_) (fun c9 => ?_)
    · refine g_iconst (q := 25) (v := nI 1) dX4_isLetterOrSign_24 rfl (by decide) ?_
      refine g_goto (q := 29) dX4_isLetterOrSign_25 (by decide) ?_
      refine g_zret rfl (by decide) dX4_isLetterOrSign_29 (Nat.le_refl _) (Nat.le_refl _) ?_
      exact h1 (Or.inl ⟨Int32.not_lt.mp c3, c9⟩)
    · refine g_iload_n (q := 13) dX4_isLetterOrSign_12 rfl rfl ?_
      refine g_bipush (q := 15) (v := nI 44) dX4_isLetterOrSign_13 rfl (by decide) ?_
      refine g_icmp_eq (tgt := 24) (q := 18) dX4_isLetterOrSign_15 (by decide) rfl (fun c15 => ?_) (fun c15 => ?_)
      · refine g_iconst (q := 25) (v := nI 1) dX4_isLetterOrSign_24 rfl (by decide) ?_
        refine g_goto (q := 29) dX4_isLetterOrSign_25 (by decide) ?_
        refine g_zret rfl (by decide) dX4_isLetterOrSign_29 (Nat.le_refl _) (Nat.le_refl _) ?_
        exact h1 (Or.inr (Or.inl c15))
      · refine g_iload_n (q := 19) dX4_isLetterOrSign_18 rfl rfl ?_
        refine g_bipush (q := 21) (v := nI 59) dX4_isLetterOrSign_19 rfl (by decide) ?_
        refine g_icmp_ne (tgt := 28) (q := 24) dX4_isLetterOrSign_21 (by decide) rfl (fun c21 => ?_) (fun c21 => ?_)
        · refine g_iconst (q := 29) (v := nI 0) dX4_isLetterOrSign_28 rfl (by decide) ?_
          refine g_zret rfl (by decide) dX4_isLetterOrSign_29 (Nat.le_refl _) (Nat.le_refl _) ?_
          exact h0 (fun z => z.elim (fun y => c9 y.2) (fun y => y.elim c15 c21))
        · refine g_iconst (q := 25) (v := nI 1) dX4_isLetterOrSign_24 rfl (by decide) ?_
          refine g_goto (q := 29) dX4_isLetterOrSign_25 (by decide) ?_
          refine g_zret rfl (by decide) dX4_isLetterOrSign_29 (Nat.le_refl _) (Nat.le_refl _) ?_
          exact h1 (Or.inr (Or.inr c21))
def Sof (I W : Nat → Nat → Int32) (t : List Nat) (p j : Nat) : Prop := Fr [2] I W ∧ W 2 1 = I 2 1 ∧ W 2 2 = nI p ∧ W 2 3 = nI (p + j) ∧ W 2 5 = vcI t p j ∧ W 2 6 = I 2 6
set_option maxRecDepth 100000 in
set_option maxHeartbeats 400000 in
theorem l_sof {d k : Nat} {I : Nat → Nat → Int32} {Q : Option Int32 → Wd → Prop} {t : List Nat} {p : Nat} (hT : RTape I t) (hp : p ≤ t.length) (hex : ∀ W, Sof I W t p (dgN t p) → G mX4_step (rmd (d + 3) 0 0) (Zm Q 68 68 0 0) 68 76 [.ref 2] [] 68 (W, RR k) 0 0) : ∀ (n j : Nat) (W : Nat → Nat → Int32), j + n = dgN t p → Sof I W t p j → G mX4_step (rmd (d + 3) 0 0) (Zm Q 68 68 0 0) 68 13 [.ref 2] [] 68 (W, RR k) 0 0 := by
  have hle := dgN_le hp
  have h130 := hT.2.1
  intro n
  induction n with
  | zero =>
    intro j W hj hS
    have hj : j = dgN t p := by omega
    subst hj
    obtain ⟨w0, w1, w2, w3, w5, w6⟩ := id hS
    have w1 : W 2 1 = nI t.length := w1.trans hT.1
    have hend := dgN_end (t := t) (p := p)
    refine g_aload_n (q := 14) dX4_step_13 rfl rfl ?_
    refine gf_X4_22 (q := 17) rfl (by first | assumption | rfl) dX4_step_14 rfl ?_
    rw [w3]
    refine g_aload_n (q := 18) dX4_step_17 rfl rfl ?_
    refine gf_X4_15 (q := 21) rfl (by first | assumption | rfl) dX4_step_18 rfl ?_
    rw [w1]
    refine g_icmp_ge (tgt := 76) (q := 24) dX4_step_21 (by decide) rfl (fun c21 => ?_) (fun c21 => ?_)
    · exact hex W hS
    · have hlt : p + dgN t p < t.length := by
        have : ¬ t.length ≤ p + dgN t p := fun z => c21 (nI_le z (by omega))
        omega
      have hb := hT.b (p + dgN t p)
      refine g_aload_n (q := 25) dX4_step_24 rfl rfl ?_
      refine gf_X4_9 (q := 28) rfl (by first | assumption | rfl) (by first | assumption | rfl) dX4_step_25 rfl ?_
      refine g_aload_n (q := 29) dX4_step_28 rfl rfl ?_
      refine gf_X4_22 (q := 32) rfl (by first | assumption | rfl) dX4_step_29 rfl ?_
      rw [w3]
      refine g_ialdn (q := 33) (by first | assumption | rfl) (by repeat' first | apply nI_a | apply nI_m | exact rfl) (by omega) dX4_step_32 rfl ?_
      rw [Fr2 w0 (by decide), (hT.2.2 _ hlt).1]
      refine k_X4_100 (q := 36) rfl (Nat.le_of_ble_eq_true rfl) dX4_step_33 rfl (c_X4_isFigure (fun z => absurd ⟨hlt, (nI_leI (by omega) (by omega)).mp z.1, (nI_leI (by omega) (by omega)).mp z.2⟩ hend) (fun _ => ?_))
      refine g_if_eq (tgt := 76) (q := 39) dX4_step_36 (by decide) rfl (fun _ => ?_) (fun c36 => absurd c36 (by decide))
      exact hex W hS
  | succ n ih =>
    intro j W hj hS
    obtain ⟨w0, w1, w2, w3, w5, w6⟩ := hS
    have w1' : W 2 1 = nI t.length := w1.trans hT.1
    have hd := dgN_all (t := t) (p := p) (j := j) (by omega)
    have hlt := hd.1
    have hb := hT.b (p + j)
    refine g_aload_n (q := 14) dX4_step_13 rfl rfl ?_
    refine gf_X4_22 (q := 17) rfl (by first | assumption | rfl) dX4_step_14 rfl ?_
    rw [w3]
    refine g_aload_n (q := 18) dX4_step_17 rfl rfl ?_
    refine gf_X4_15 (q := 21) rfl (by first | assumption | rfl) dX4_step_18 rfl ?_
    rw [w1']
    refine g_icmp_ge (tgt := 76) (q := 24) dX4_step_21 (by decide) rfl (fun c21 => absurd c21 (nI_ge (by omega) (by omega))) (fun _ => ?_)
    refine g_aload_n (q := 25) dX4_step_24 rfl rfl ?_
    refine gf_X4_9 (q := 28) rfl (by first | assumption | rfl) (by first | assumption | rfl) dX4_step_25 rfl ?_
    refine g_aload_n (q := 29) dX4_step_28 rfl rfl ?_
    refine gf_X4_22 (q := 32) rfl (by first | assumption | rfl) dX4_step_29 rfl ?_
    rw [w3]
    refine g_ialdn (q := 33) (by first | assumption | rfl) (by repeat' first | apply nI_a | apply nI_m | exact rfl) (by omega) dX4_step_32 rfl ?_
    rw [Fr2 w0 (by decide), (hT.2.2 _ hlt).1]
    refine k_X4_100 (q := 36) rfl (Nat.le_of_ble_eq_true rfl) dX4_step_33 rfl (c_X4_isFigure (fun _ => ?_) (fun z => absurd ⟨nI_le hd.2.1 (by omega), nI_le hd.2.2 (by omega)⟩ z))
    refine g_if_eq (tgt := 76) (q := 39) dX4_step_36 (by decide) rfl (fun c36 => absurd c36 (by decide)) (fun _ => ?_)
    refine g_aload_n (q := 40) dX4_step_39 rfl rfl ?_
    refine g_aload_n (q := 41) dX4_step_40 rfl rfl ?_
    refine gf_X4_28 (q := 44) rfl (by first | assumption | rfl) dX4_step_41 rfl ?_
    rw [w5]
    refine g_bipush (q := 46) (v := nI 10) dX4_step_44 rfl (by decide) ?_
    refine g_imul (q := 47) dX4_step_46 rfl ?_
    refine g_aload_n (q := 48) dX4_step_47 rfl rfl ?_
    refine gf_X4_9 (q := 51) rfl (by first | assumption | rfl) (by first | assumption | rfl) dX4_step_48 rfl ?_
    refine g_aload_n (q := 52) dX4_step_51 rfl rfl ?_
    refine gf_X4_22 (q := 55) rfl (by first | assumption | rfl) dX4_step_52 rfl ?_
    rw [w3]
    refine g_ialdn (q := 56) (by first | assumption | rfl) (by repeat' first | apply nI_a | apply nI_m | exact rfl) (by omega) dX4_step_55 rfl ?_
    rw [Fr2 w0 (by decide), (hT.2.2 _ hlt).1]
    refine g_iadd (q := 57) dX4_step_56 rfl ?_
    refine g_bipush (q := 59) (v := nI 48) dX4_step_57 rfl (by decide) ?_
    refine g_isub (q := 60) dX4_step_59 rfl ?_
    refine pf_X4_28 (q := 63) rfl (by first | assumption | rfl) dX4_step_60 rfl ?_
    refine g_aload_n (q := 64) dX4_step_63 rfl rfl ?_
    refine g_dup (q := 65) dX4_step_64 rfl rfl ?_
    refine gf_X4_22 (q := 68) rfl (by first | assumption | rfl) dX4_step_65 rfl ?_
    rw [uI_n2 (by decide), w3]
    refine g_iconst (q := 69) (v := nI 1) dX4_step_68 rfl (by decide) ?_
    refine g_iadd (q := 70) dX4_step_69 rfl ?_
    rw [nI_add]
    refine pf_X4_22 (q := 73) rfl (by first | assumption | rfl) dX4_step_70 rfl ?_
    refine g_goto (q := 13) dX4_step_73 (by decide) ?_
    refine ih (j + 1) _ (by omega) ⟨Fr.tr (Fr.tr w0 Fr2.u) Fr2.u, ?_, ?_, uI_eq, ?_, ?_⟩
    · rw [uI_n2 (by decide), uI_n2 (by decide)]; exact w1
    · rw [uI_n2 (by decide), uI_n2 (by decide)]; exact w2
    · rw [uI_n2 (by decide), uI_eq]; rfl
    · rw [uI_n2 (by decide), uI_n2 (by decide)]; exact w6
set_option maxRecDepth 100000 in
set_option maxHeartbeats 400000 in
theorem c_X4_step {d k : Nat} {I : Nat → Nat → Int32} {Q : Option Int32 → Wd → Prop} {t : List Nat} {q : Nat} (hT : RTape I t) (hq : q ≤ t.length) (h3 : I 2 3 = nI q) (h6 : I 2 6 = nI 0) (h : ∀ J, Fr [2] I J → RC J t (0, q) → Q none (J, RR k)) : Ex (d + 3) 0 0 mX4_step [.ref 2] 68 (I, RR k) 68 Q := by
  have h130 := hT.2.1
  have hb := hT.b q
  have hle := dgN_le hq
  refine ex_intro (L0 := [.ref 2]) (by decide +kernel) rfl rfl (Nat.le_of_ble_eq_true rfl) rfl ?_
  refine g_aload_n (q := 1) dX4_step_0 rfl rfl ?_
  refine g_aload_n (q := 2) dX4_step_1 rfl rfl ?_
  refine gf_X4_22 (q := 5) rfl (by first | assumption | rfl) dX4_step_2 rfl ?_
  rw [h3]
  refine pf_X4_19 (q := 8) rfl (by first | assumption | rfl) dX4_step_5 rfl ?_
  refine g_aload_n (q := 9) dX4_step_8 rfl rfl ?_
  refine g_iconst (q := 10) (v := nI 0) dX4_step_9 rfl (by decide) ?_
  refine pf_X4_28 (q := 13) rfl (by first | assumption | rfl) dX4_step_10 rfl ?_
  refine l_sof hT hq (fun W hS => ?_) (dgN t q) 0 _ (by omega) ⟨Fr.tr Fr2.u Fr2.u, ?_, ?_, ?_, uI_eq, ?_⟩
  · obtain ⟨wF, w1', w2, w3, w5, w6⟩ := hS
    have w1 : W 2 1 = nI t.length := w1'.trans hT.1
    refine g_aload_n (q := 77) dX4_step_76 rfl rfl ?_
    refine gf_X4_22 (q := 80) rfl (by first | assumption | rfl) dX4_step_77 rfl ?_
    rw [w3]
    refine g_aload_n (q := 81) dX4_step_80 rfl rfl ?_
    refine gf_X4_19 (q := 84) rfl (by first | assumption | rfl) dX4_step_81 rfl ?_
    rw [w2]
    refine g_icmp_le (tgt := 113) (q := 87) dX4_step_84 (by decide) rfl (fun c84 => ?_) (fun c84 => ?_)
    · have h0 : dgN t q = 0 := by have := (nI_leI (by omega) (by omega)).mp c84; omega
      have hD : ¬ isD t q := fun z => by have := dgN_pos z; omega
      refine g_aload_n (q := 114) dX4_step_113 rfl rfl ?_
      refine gf_X4_19 (q := 117) rfl (by first | assumption | rfl) dX4_step_114 rfl ?_
      rw [w2]
      refine g_aload_n (q := 118) dX4_step_117 rfl rfl ?_
      refine gf_X4_15 (q := 121) rfl (by first | assumption | rfl) dX4_step_118 rfl ?_
      rw [w1]
      refine g_icmp_lt (tgt := 133) (q := 124) dX4_step_121 (by decide) rfl (fun c121 => ?_) (fun c121 => ?_)
      · have hlt : q < t.length := (nI_ltI (by omega) (by omega)).mp c121
        refine g_aload_n (q := 134) dX4_step_133 rfl rfl ?_
        refine g_aload_n (q := 135) dX4_step_134 rfl rfl ?_
        refine gf_X4_9 (q := 138) rfl (by first | assumption | rfl) (by first | assumption | rfl) dX4_step_135 rfl ?_
        refine g_aload_n (q := 139) dX4_step_138 rfl rfl ?_
        refine gf_X4_19 (q := 142) rfl (by first | assumption | rfl) dX4_step_139 rfl ?_
        rw [w2]
        refine g_ialdn (q := 143) (by first | assumption | rfl) (by repeat' first | apply nI_a | apply nI_m | exact rfl) (by omega) dX4_step_142 rfl ?_
        rw [Fr2 wF (by decide), (hT.2.2 q hlt).1]
        refine k_X4_104 (q := 146) rfl (Nat.le_of_ble_eq_true rfl) dX4_step_143 rfl (c_X4_isLetterOrSign (fun z143 => ?_) (fun z143 => ?_))
        · refine g_if_eq (tgt := 161) (q := 149) dX4_step_146 (by decide) rfl (fun c146 => absurd c146 (by decide)) (fun _ => ?_)
          refine g_aload_n (q := 150) dX4_step_149 rfl rfl ?_
          refine gf_X4_9 (q := 153) rfl (by first | assumption | rfl) (by first | assumption | rfl) dX4_step_150 rfl ?_
          refine g_aload_n (q := 154) dX4_step_153 rfl rfl ?_
          refine gf_X4_19 (q := 157) rfl (by first | assumption | rfl) dX4_step_154 rfl ?_
          rw [w2]
          refine g_ialdn (q := 158) (by first | assumption | rfl) (by repeat' first | apply nI_a | apply nI_m | exact rfl) (by omega) dX4_step_157 rfl ?_
          rw [Fr2 wF (by decide), (hT.2.2 q hlt).1]
          refine g_goto (q := 163) dX4_step_158 (by decide) ?_
          refine pf_X4_25 (q := 166) rfl (by first | assumption | rfl) dX4_step_163 rfl ?_
          refine g_aload_n (q := 167) dX4_step_166 rfl rfl ?_
          refine g_dup (q := 168) dX4_step_167 rfl rfl ?_
          refine gf_X4_22 (q := 171) rfl (by first | assumption | rfl) dX4_step_168 rfl ?_
          rw [uI_n2 (by decide), w3]
          refine g_iconst (q := 172) (v := nI 1) dX4_step_171 rfl (by decide) ?_
          refine g_iadd (q := 173) dX4_step_172 rfl ?_
          rw [nI_add]
          refine pf_X4_22 (q := 176) rfl (by first | assumption | rfl) dX4_step_173 rfl ?_
          refine g_vret rfl dX4_step_176 (Nat.le_refl _) (Nat.le_refl _) ?_
          have hc : isC t q := z143.elim (fun y => Or.inl ⟨(nI_leI (by omega) (by omega)).mp y.1, (nI_leI (by omega) (by omega)).mp y.2⟩) (fun y => Or.inr (y.elim (fun z => Or.inl ((nI_eq (by omega) (by omega)).mp z)) (fun z => Or.inr ((nI_eq (by omega) (by omega)).mp z))))
          have hge : ¬ t.length ≤ q := by omega
          have hk : kdT t q = 1 := by unfold kdT; rw [if_neg hge, if_neg hD, if_pos hc]
          refine h _ (Fr.tr wF (Fr.tr Fr2.u Fr2.u)) ⟨hT.f2 (Fr.tr wF (Fr.tr Fr2.u Fr2.u)) (((uI_n2 (by decide)).trans (uI_n2 (by decide))).trans w1'), ((uI_n2 (by decide)).trans (uI_n2 (by decide))).trans w2, ((uI_n2 (by decide)).trans (uI_n2 (by decide))).trans (w6.trans h6), Nat.zero_lt_succ 4, hq, fun _ => ⟨?_, ?_, fun z => absurd (z.symm.trans hk) (by decide)⟩⟩
          · rw [uI_eq]; congr 1; show q + dgN t q + 1 = nxt t q; unfold nxt; rw [if_neg hge, if_neg hD, h0]
          · rw [uI_n2 (by decide), uI_eq]; exact (tkJ_1 hk).symm
        · refine g_if_eq (tgt := 161) (q := 149) dX4_step_146 (by decide) rfl (fun _ => ?_) (fun c146 => absurd c146 (by decide))
          refine g_bipush (q := 163) (v := (-3)) dX4_step_161 rfl (by decide) ?_
          refine pf_X4_25 (q := 166) rfl (by first | assumption | rfl) dX4_step_163 rfl ?_
          refine g_aload_n (q := 167) dX4_step_166 rfl rfl ?_
          refine g_dup (q := 168) dX4_step_167 rfl rfl ?_
          refine gf_X4_22 (q := 171) rfl (by first | assumption | rfl) dX4_step_168 rfl ?_
          rw [uI_n2 (by decide), w3]
          refine g_iconst (q := 172) (v := nI 1) dX4_step_171 rfl (by decide) ?_
          refine g_iadd (q := 173) dX4_step_172 rfl ?_
          rw [nI_add]
          refine pf_X4_22 (q := 176) rfl (by first | assumption | rfl) dX4_step_173 rfl ?_
          refine g_vret rfl dX4_step_176 (Nat.le_refl _) (Nat.le_refl _) ?_
          have hc : ¬ isC t q := fun z => z143 (z.elim (fun y => Or.inl ⟨nI_le y.1 (by omega), nI_le y.2 (by omega)⟩) (fun y => Or.inr (y.elim (fun x => Or.inl (by rw [x])) (fun x => Or.inr (by rw [x])))))
          have hge : ¬ t.length ≤ q := by omega
          have hk : kdT t q = 3 := by unfold kdT; rw [if_neg hge, if_neg hD, if_neg hc]
          refine h _ (Fr.tr wF (Fr.tr Fr2.u Fr2.u)) ⟨hT.f2 (Fr.tr wF (Fr.tr Fr2.u Fr2.u)) (((uI_n2 (by decide)).trans (uI_n2 (by decide))).trans w1'), ((uI_n2 (by decide)).trans (uI_n2 (by decide))).trans w2, ((uI_n2 (by decide)).trans (uI_n2 (by decide))).trans (w6.trans h6), Nat.zero_lt_succ 4, hq, fun _ => ⟨?_, ?_, fun z => absurd (z.symm.trans hk) (by decide)⟩⟩
          · rw [uI_eq]; congr 1; show q + dgN t q + 1 = nxt t q; unfold nxt; rw [if_neg hge, if_neg hD, h0]
          · rw [uI_n2 (by decide), uI_eq]; exact (tkJ_3 hk).symm
      · refine g_aload_n (q := 125) dX4_step_124 rfl rfl ?_
        refine g_bipush (q := 127) (v := (-2)) dX4_step_125 rfl (by decide) ?_
        refine pf_X4_25 (q := 130) rfl (by first | assumption | rfl) dX4_step_127 rfl ?_
        refine g_goto (q := 176) dX4_step_130 (by decide) ?_
        refine g_vret rfl dX4_step_176 (Nat.le_refl _) (Nat.le_refl _) ?_
        have hge : t.length ≤ q := by
          have : ¬ q < t.length := fun z => c121 (nI_lt z (by omega))
          omega
        have hk : kdT t q = 0 := by unfold kdT; rw [if_pos hge]
        refine h _ (Fr.tr wF Fr2.u) ⟨hT.f2 (Fr.tr wF Fr2.u) ((uI_n2 (by decide)).trans w1'), (uI_n2 (by decide)).trans w2, (uI_n2 (by decide)).trans (w6.trans h6), Nat.zero_lt_succ 4, hq, fun _ => ⟨?_, by rw [uI_eq, tkJ_0 hk], fun z => absurd (z.symm.trans hk) (by decide)⟩⟩
        rw [uI_n2 (by decide), w3, h0, show nxt t (0, q).2 = q by unfold nxt; rw [if_pos hge]]
        rfl
    · have hpos : ¬ q + dgN t q ≤ q := fun z => c84 (nI_le z (by omega))
      have hD : isD t q := dgN_all (t := t) (p := q) (j := 0) (by omega)
      refine g_aload_n (q := 88) dX4_step_87 rfl rfl ?_
      refine g_aload_n (q := 89) dX4_step_88 rfl rfl ?_
      refine gf_X4_22 (q := 92) rfl (by first | assumption | rfl) dX4_step_89 rfl ?_
      rw [w3]
      refine g_aload_n (q := 93) dX4_step_92 rfl rfl ?_
      refine gf_X4_19 (q := 96) rfl (by first | assumption | rfl) dX4_step_93 rfl ?_
      rw [w2]
      refine g_isub (q := 97) dX4_step_96 rfl ?_
      rw [nI_sb (by omega), show q + dgN t q - q = dgN t q by omega]
      refine g_iconst (q := 98) (v := nI 2) dX4_step_97 rfl (by decide) ?_
      refine g_icmp_le (tgt := 106) (q := 101) dX4_step_98 (by decide) rfl (fun c98 => ?_) (fun c98 => ?_)
      · refine g_iconst (q := 107) (v := (-1)) dX4_step_106 rfl (by decide) ?_
        refine pf_X4_25 (q := 110) rfl (by first | assumption | rfl) dX4_step_107 rfl ?_
        refine g_goto (q := 176) dX4_step_110 (by decide) ?_
        refine g_vret rfl dX4_step_176 (Nat.le_refl _) (Nat.le_refl _) ?_
        have hge : ¬ t.length ≤ q := by have := hD.1; omega
        refine h _ (Fr.tr wF Fr2.u) ⟨hT.f2 (Fr.tr wF Fr2.u) ((uI_n2 (by decide)).trans w1'), (uI_n2 (by decide)).trans w2, (uI_n2 (by decide)).trans (w6.trans h6), Nat.zero_lt_succ 4, hq, fun _ => ⟨?_, ?_, fun z => ?_⟩⟩
        · rw [uI_n2 (by decide), w3]; congr 1; show q + dgN t q = nxt t q; unfold nxt; rw [if_neg hge, if_pos hD]
        · rw [uI_eq]
          have e : dgN t q ≤ 2 := (nI_leI (by omega) (by omega)).mp c98
          rw [tkJ_2 (show kdT t (0, q).2 = 2 by unfold kdT; rw [if_neg hge, if_pos hD, if_pos e])]
        · rw [uI_n2 (by decide), w5]; exact vcI_v hD (kd2 z).2
      · refine g_bipush (q := 103) (v := (-3)) dX4_step_101 rfl (by decide) ?_
        refine g_goto (q := 107) dX4_step_103 (by decide) ?_
        refine pf_X4_25 (q := 110) rfl (by first | assumption | rfl) dX4_step_107 rfl ?_
        refine g_goto (q := 176) dX4_step_110 (by decide) ?_
        refine g_vret rfl dX4_step_176 (Nat.le_refl _) (Nat.le_refl _) ?_
        have hge : ¬ t.length ≤ q := by have := hD.1; omega
        refine h _ (Fr.tr wF Fr2.u) ⟨hT.f2 (Fr.tr wF Fr2.u) ((uI_n2 (by decide)).trans w1'), (uI_n2 (by decide)).trans w2, (uI_n2 (by decide)).trans (w6.trans h6), Nat.zero_lt_succ 4, hq, fun _ => ⟨?_, ?_, fun z => ?_⟩⟩
        · rw [uI_n2 (by decide), w3]; congr 1; show q + dgN t q = nxt t q; unfold nxt; rw [if_neg hge, if_pos hD]
        · rw [uI_eq]
          have e : ¬ dgN t q ≤ 2 := fun z => c98 (nI_le z (by omega))
          rw [tkJ_3 (show kdT t (0, q).2 = 3 by unfold kdT; rw [if_neg hge, if_pos hD, if_neg e])]
        · rw [uI_n2 (by decide), w5]; exact vcI_v hD (kd2 z).2
  · rw [uI_n2 (by decide), uI_n2 (by decide)]
  · rw [uI_n2 (by decide), uI_eq]
  · rw [uI_n2 (by decide), uI_n2 (by decide)]; exact h3
  · rw [uI_n2 (by decide), uI_n2 (by decide)]
set_option maxRecDepth 100000 in
set_option maxHeartbeats 400000 in
theorem c_X4_faultBy {d k : Nat} {I : Nat → Nat → Int32} {Q : Option Int32 → Wd → Prop} {t : List Nat} {s : Ps} {f : Nat} (hR : RC I t s) (hf : f < 5) (h : ∀ J, Fr [2] I J → RC J t (muS false f s) → Q none (J, RR k)) : Ex d 0 0 mX4_faultBy [.ref 2, .int (nI f)] 68 (I, RR k) 68 Q := by
  obtain ⟨r1, r2, r3, r4, r5, r6⟩ := id hR
  refine ex_intro (L0 := [.ref 2, .int (nI f)]) (by decide +kernel) rfl rfl (Nat.le_of_ble_eq_true rfl) rfl ?_
  refine g_aload_n (q := 1) dX4_faultBy_0 rfl rfl ?_
  refine gf_X4_31 (q := 4) rfl (by first | assumption | rfl) dX4_faultBy_1 rfl ?_
  rw [r3]
  refine g_if_ne (tgt := 12) (q := 7) dX4_faultBy_4 (by decide) rfl (fun c4 => ?_) (fun c4 => ?_)
  · refine g_vret rfl dX4_faultBy_12 (Nat.le_refl _) (Nat.le_refl _) ?_
    have hs : ¬ s.1 = 0 := fun z => c4 (by rw [z]; rfl)
    rw [muS_n hs] at h
    exact h I Fr.rf hR
  · refine g_aload_n (q := 8) dX4_faultBy_7 rfl rfl ?_
    refine g_iload_n (q := 9) dX4_faultBy_8 rfl rfl ?_
    refine pf_X4_31 (q := 12) rfl (by first | assumption | rfl) dX4_faultBy_9 rfl ?_
    refine g_vret rfl dX4_faultBy_12 (Nat.le_refl _) (Nat.le_refl _) ?_
    have hs : s.1 = 0 := (nI_eq (b := 0) (by omega) (by omega)).mp c4
    rw [show muS false f s = (f, s.2) from if_pos ⟨hs, rfl⟩] at h
    by_cases e : f = 0
    · subst e
      refine h _ Fr2.u ⟨r1.f2 Fr2.u (uI_n2 (by decide)), (uI_n2 (by decide)).trans r2, uI_eq, hf, r5, fun _ => ?_⟩
      obtain ⟨q1, q2, q3⟩ := r6 hs
      exact ⟨(uI_n2 (by decide)).trans q1, (uI_n2 (by decide)).trans q2, fun z => (uI_n2 (by decide)).trans (q3 z)⟩
    · exact h _ Fr2.u ⟨r1.f2 Fr2.u (uI_n2 (by decide)), (uI_n2 (by decide)).trans r2, uI_eq, hf, r5, fun z => absurd z e⟩
set_option maxRecDepth 100000 in
set_option maxHeartbeats 400000 in
theorem c_X4_readNumber {d k : Nat} {I : Nat → Nat → Int32} {Q : Option Int32 → Wd → Prop} {t : List Nat} {s : Ps} {lo hi : Nat} (hR : RC I t s) (hlh : lo ≤ hi) (hhi : hi < 1000) (h : ∀ J x, Fr [2] I J → RC J t (nmS t lo hi s) → lo ≤ x → x ≤ hi → ((nmS t lo hi s).1 = 0 → x = tkV t s.2) → Q (some (nI x)) (J, RR k)) : Ex (d + 4) 0 0 mX4_readNumber [.ref 2, .int (nI lo), .int (nI hi)] 68 (I, RR k) 68 Q := by
  obtain ⟨r1, r2, r3, r4, r5, r6⟩ := id hR
  have h130 := r1.2.1
  have hb := r1.b s.2
  have hnx := nxt_le r5
  refine ex_intro (L0 := [.ref 2, .int (nI lo), .int (nI hi), .null]) (by decide +kernel) rfl rfl (Nat.le_of_ble_eq_true rfl) rfl ?_
  refine g_aload_n (q := 1) dX4_readNumber_0 rfl rfl ?_
  refine gf_X4_31 (q := 4) rfl (by first | assumption | rfl) dX4_readNumber_1 rfl ?_
  rw [r3]
  refine g_if_eq (tgt := 9) (q := 7) dX4_readNumber_4 (by decide) rfl (fun c4 => ?_) (fun c4 => ?_)
  · have hs : s.1 = 0 := (nI_eq (b := 0) (by omega) (by omega)).mp c4
    obtain ⟨q1, q2, q3⟩ := r6 hs
    refine g_aload_n (q := 10) dX4_readNumber_9 rfl rfl ?_
    refine gf_X4_25 (q := 13) rfl (by first | assumption | rfl) dX4_readNumber_10 rfl ?_
    rw [q2]
    refine g_iconst (q := 14) (v := (-1)) dX4_readNumber_13 rfl (by decide) ?_
    refine g_icmp_eq (tgt := 24) (q := 17) dX4_readNumber_14 (by decide) rfl (fun c14 => ?_) (fun c14 => ?_)
    · have hk : kdT t s.2 = 2 := (tkJ_num hb).mp c14
      have hv := tkV_lt hk
      refine g_aload_n (q := 25) dX4_readNumber_24 rfl rfl ?_
      refine gf_X4_28 (q := 28) rfl (by first | assumption | rfl) dX4_readNumber_25 rfl ?_
      rw [q3 hk]
      refine g_iload_n (q := 29) dX4_readNumber_28 rfl rfl ?_
      refine g_iload_n (q := 30) dX4_readNumber_29 rfl rfl ?_
      refine k_X4_96 (q := 33) rfl (Nat.le_of_ble_eq_true rfl) dX4_readNumber_30 rfl (c_X6_isWithin (fun z301 z302 => ?_) (fun z30 => ?_))
      · have z30 := And.intro z301 z302
        refine g_if_ne (tgt := 43) (q := 36) dX4_readNumber_33 (by decide) rfl (fun _ => ?_) (fun c33 => absurd c33 (by decide))
        refine g_aload_n (q := 44) dX4_readNumber_43 rfl rfl ?_
        refine gf_X4_28 (q := 47) rfl (by first | assumption | rfl) dX4_readNumber_44 rfl ?_
        rw [q3 hk]
        refine g_istore_n (q := 48) dX4_readNumber_47 rfl (by decide) rfl rfl ?_
        refine g_aload_n (q := 49) dX4_readNumber_48 rfl rfl ?_
        refine k_X4_39 (q := 52) rfl (Nat.le_of_ble_eq_true rfl) (by first | assumption | rfl) dX4_readNumber_49 rfl (c_X4_step r1 hnx q1 (by rw [r3, hs]) (fun J g1 g2 => ?_))
        refine g_iload_n (q := 53) dX4_readNumber_52 rfl rfl ?_
        refine g_iret rfl dX4_readNumber_53 (Nat.le_refl _) (Nat.le_refl _) ?_
        have hn : lo ≤ tkV t s.2 ∧ tkV t s.2 ≤ hi := ⟨(nI_leI (by omega) (by omega)).mp z30.1, (nI_leI (by omega) (by omega)).mp z30.2⟩
        rw [show nmS t lo hi s = (0, nxt t s.2) by unfold nmS; rw [if_pos hs, if_pos hk, if_pos hn]] at h
        exact h J (tkV t s.2) g1 g2 hn.1 hn.2 (fun _ => rfl)
      · refine g_if_ne (tgt := 43) (q := 36) dX4_readNumber_33 (by decide) rfl (fun c33 => absurd c33 (by decide)) (fun _ => ?_)
        refine g_aload_n (q := 37) dX4_readNumber_36 rfl rfl ?_
        refine g_iconst (q := 38) (v := nI 2) dX4_readNumber_37 rfl (by decide) ?_
        refine k_X4_53 (q := 41) rfl (Nat.le_of_ble_eq_true rfl) (by first | assumption | rfl) dX4_readNumber_38 rfl (c_X4_faultBy hR (by decide) (fun J g1 g2 => ?_))
        refine g_iload_n (q := 42) dX4_readNumber_41 rfl rfl ?_
        refine g_iret rfl dX4_readNumber_42 (Nat.le_refl _) (Nat.le_refl _) ?_
        rw [show muS false 2 s = (2, s.2) from if_pos ⟨hs, rfl⟩] at g2
        have hn : ¬ (lo ≤ tkV t s.2 ∧ tkV t s.2 ≤ hi) := fun z => z30 ⟨nI_le z.1 (by omega), nI_le z.2 (by omega)⟩
        rw [show nmS t lo hi s = (2, s.2) by unfold nmS; rw [if_pos hs, if_pos hk, if_neg hn]] at h
        exact h J lo g1 g2 (Nat.le_refl _) hlh (fun z => absurd z (by show ¬ (2 : Nat) = 0; decide))
    · refine g_aload_n (q := 18) dX4_readNumber_17 rfl rfl ?_
      refine g_iconst (q := 19) (v := nI 1) dX4_readNumber_18 rfl (by decide) ?_
      refine k_X4_53 (q := 22) rfl (Nat.le_of_ble_eq_true rfl) (by first | assumption | rfl) dX4_readNumber_19 rfl (c_X4_faultBy hR (by decide) (fun J g1 g2 => ?_))
      refine g_iload_n (q := 23) dX4_readNumber_22 rfl rfl ?_
      refine g_iret rfl dX4_readNumber_23 (Nat.le_refl _) (Nat.le_refl _) ?_
      rw [show muS false 1 s = (1, s.2) from if_pos ⟨hs, rfl⟩] at g2
      have hk : ¬ kdT t s.2 = 2 := fun z => c14 ((tkJ_num hb).mpr z)
      rw [show nmS t lo hi s = (1, s.2) by unfold nmS; rw [if_pos hs, if_neg hk]] at h
      exact h J lo g1 g2 (Nat.le_refl _) hlh (fun z => absurd z (by show ¬ (1 : Nat) = 0; decide))
  · refine g_iload_n (q := 8) dX4_readNumber_7 rfl rfl ?_
    refine g_iret rfl dX4_readNumber_8 (Nat.le_refl _) (Nat.le_refl _) ?_
    have hs : ¬ s.1 = 0 := fun z => c4 (by rw [z]; rfl)
    rw [nmS_n hs] at h
    exact h I lo Fr.rf hR (Nat.le_refl _) hlh (fun z => absurd z hs)
set_option maxRecDepth 100000 in
set_option maxHeartbeats 400000 in
theorem c_X4_skip {d k : Nat} {I : Nat → Nat → Int32} {Q : Option Int32 → Wd → Prop} {t : List Nat} {s : Ps} {c : Nat} (hR : RC I t s) (hc : c < 256) (h : ∀ J, Fr [2] I J → RC J t (tkS t (chr t s.2 c) 1 s) → Q none (J, RR k)) : Ex (d + 4) 0 0 mX4_skip [.ref 2, .int (nI c)] 68 (I, RR k) 68 Q := by
  obtain ⟨r1, r2, r3, r4, r5, r6⟩ := id hR
  have h130 := r1.2.1
  have hb := r1.b s.2
  have hnx := nxt_le r5
  refine ex_intro (L0 := [.ref 2, .int (nI c)]) (by decide +kernel) rfl rfl (Nat.le_of_ble_eq_true rfl) rfl ?_
  refine g_aload_n (q := 1) dX4_skip_0 rfl rfl ?_
  refine gf_X4_31 (q := 4) rfl (by first | assumption | rfl) dX4_skip_1 rfl ?_
  rw [r3]
  refine g_if_eq (tgt := 8) (q := 7) dX4_skip_4 (by decide) rfl (fun c4 => ?_) (fun c4 => ?_)
  · have hs : s.1 = 0 := (nI_eq (b := 0) (by omega) (by omega)).mp c4
    obtain ⟨q1, q2, q3⟩ := r6 hs
    refine g_aload_n (q := 9) dX4_skip_8 rfl rfl ?_
    refine gf_X4_25 (q := 12) rfl (by first | assumption | rfl) dX4_skip_9 rfl ?_
    rw [q2]
    refine g_iload_n (q := 13) dX4_skip_12 rfl rfl ?_
    refine g_icmp_ne (tgt := 23) (q := 16) dX4_skip_13 (by decide) rfl (fun c13 => ?_) (fun c13 => ?_)
    · refine g_aload_n (q := 24) dX4_skip_23 rfl rfl ?_
      refine g_iconst (q := 25) (v := nI 1) dX4_skip_24 rfl (by decide) ?_
      refine k_X4_53 (q := 28) rfl (Nat.le_of_ble_eq_true rfl) (by first | assumption | rfl) dX4_skip_25 rfl (c_X4_faultBy hR (by decide) (fun J g1 g2 => ?_))
      refine g_vret rfl dX4_skip_28 (Nat.le_refl _) (Nat.le_refl _) ?_
      rw [show muS false 1 s = (1, s.2) from if_pos ⟨hs, rfl⟩] at g2
      have hk : ¬ chr t s.2 c = true := fun z => c13 ((tkJ_chr hb (by omega)).mpr z)
      rw [show tkS t (chr t s.2 c) 1 s = (1, s.2) by unfold tkS; rw [if_pos hs, if_neg hk]] at h
      exact h J g1 g2
    · refine g_aload_n (q := 17) dX4_skip_16 rfl rfl ?_
      refine k_X4_39 (q := 20) rfl (Nat.le_of_ble_eq_true rfl) (by first | assumption | rfl) dX4_skip_17 rfl (c_X4_step r1 hnx q1 (by rw [r3, hs]) (fun J g1 g2 => ?_))
      refine g_goto (q := 28) dX4_skip_20 (by decide) ?_
      refine g_vret rfl dX4_skip_28 (Nat.le_refl _) (Nat.le_refl _) ?_
      have hk : chr t s.2 c = true := (tkJ_chr hb (by omega)).mp c13
      rw [show tkS t (chr t s.2 c) 1 s = (0, nxt t s.2) by unfold tkS; rw [if_pos hs, if_pos hk]] at h
      exact h J g1 g2
  · refine g_vret rfl dX4_skip_7 (Nat.le_refl _) (Nat.le_refl _) ?_
    have hs : ¬ s.1 = 0 := fun z => c4 (by rw [z]; rfl)
    rw [tkS_n hs] at h
    exact h I Fr.rf hR
def soI (x : Int32) : Int32 := if x = nI 101 then nI 0 else if x = nI 99 then nI 1 else if x = nI 102 then nI 2 else -1
def kdI (x : Int32) : Int32 := if x = nI 97 then nI 1 else if x = nI 114 then nI 2 else if x = nI 116 then nI 3 else if x = nI 111 then nI 4 else if x = nI 98 then nI 5 else nI 0
theorem soI_n : ∀ c, c < 256 → soI (nI c) = if soC c < 3 then nI (soC c) else -1 := by decide +kernel
theorem kdI_n : ∀ c, c < 256 → kdI (nI c) = nI (kdC c) := by decide +kernel
theorem soI_t {t : List Nat} {p : Nat} (hb : t.getD p 0 < 256) : soI (tkJ t p) = if soN t p < 3 then nI (soN t p) else -1 := by
  unfold soN
  rcases kdT_lt t p with e | e | e | e
  · rw [tkJ_0 e, if_neg (show ¬ kdT t p = 1 by omega)]; decide
  · rw [tkJ_1 e, if_pos e]; exact soI_n _ hb
  · rw [tkJ_2 e, if_neg (show ¬ kdT t p = 1 by omega)]; decide
  · rw [tkJ_3 e, if_neg (show ¬ kdT t p = 1 by omega)]; decide
theorem kdI_t {t : List Nat} {p : Nat} (hb : t.getD p 0 < 256) : kdI (tkJ t p) = nI (kdN t p) := by
  unfold kdN
  rcases kdT_lt t p with e | e | e | e
  · rw [tkJ_0 e, if_neg (show ¬ kdT t p = 1 by omega)]; decide
  · rw [tkJ_1 e, if_pos e]; exact kdI_n _ hb
  · rw [tkJ_2 e, if_neg (show ¬ kdT t p = 1 by omega)]; decide
  · rw [tkJ_3 e, if_neg (show ¬ kdT t p = 1 by omega)]; decide
theorem tb_out {x : Int32} (h1 : ¬ x = nI 99) (h2 : ¬ x = nI 100) (h3 : ¬ x = nI 101) (h4 : ¬ x = nI 102) : x.toInt < 99 ∨ (102 : Int) < x.toInt := by
  apply Decidable.byContradiction
  intro hz
  have e : x.toInt = 99 ∨ x.toInt = 100 ∨ x.toInt = 101 ∨ x.toInt = 102 := by omega
  rcases e with e | e | e | e
  · exact h1 (Int32.toInt_inj.mp (e.trans (by decide)))
  · exact h2 (Int32.toInt_inj.mp (e.trans (by decide)))
  · exact h3 (Int32.toInt_inj.mp (e.trans (by decide)))
  · exact h4 (Int32.toInt_inj.mp (e.trans (by decide)))

set_option maxRecDepth 100000 in
set_option maxHeartbeats 400000 in
theorem c_X4_sortOf {d k : Nat} {I : Nat → Nat → Int32} {Q : Option Int32 → Wd → Prop} {x : Int32} (h : Q (some (soI x)) (I, RR k)) : Ex d 0 0 mX4_sortOf [.int x] 68 (I, RR k) 68 Q := by
  refine ex_intro (L0 := [.int x]) (by decide +kernel) rfl rfl (Nat.le_of_ble_eq_true rfl) rfl ?_
  refine g_iload_n (q := 1) dX4_sortOf_0 rfl rfl ?_
  by_cases e99 : x = nI 99
  · subst e99
    refine g_tabIn (q := 0) (tgt := 34) (off := 33) dX4_sortOf_1 (by decide) (by decide) (by decide) (by decide) ?_
    refine g_iconst (q := 35) (v := nI 1) dX4_sortOf_34 rfl (by decide) ?_
    refine g_iret rfl dX4_sortOf_35 (Nat.le_refl _) (Nat.le_refl _) ?_
    exact h
  · by_cases e100 : x = nI 100
    · subst e100
      refine g_tabIn (q := 0) (tgt := 38) (off := 37) dX4_sortOf_1 (by decide) (by decide) (by decide) (by decide) ?_
      refine g_iconst (q := 39) (v := (-1)) dX4_sortOf_38 rfl (by decide) ?_
      refine g_iret rfl dX4_sortOf_39 (Nat.le_refl _) (Nat.le_refl _) ?_
      exact h
    · by_cases e101 : x = nI 101
      · subst e101
        refine g_tabIn (q := 0) (tgt := 32) (off := 31) dX4_sortOf_1 (by decide) (by decide) (by decide) (by decide) ?_
        refine g_iconst (q := 33) (v := nI 0) dX4_sortOf_32 rfl (by decide) ?_
        refine g_iret rfl dX4_sortOf_33 (Nat.le_refl _) (Nat.le_refl _) ?_
        exact h
      · by_cases e102 : x = nI 102
        · subst e102
          refine g_tabIn (q := 0) (tgt := 36) (off := 35) dX4_sortOf_1 (by decide) (by decide) (by decide) (by decide) ?_
          refine g_iconst (q := 37) (v := nI 2) dX4_sortOf_36 rfl (by decide) ?_
          refine g_iret rfl dX4_sortOf_37 (Nat.le_refl _) (Nat.le_refl _) ?_
          exact h
        · refine g_tabOut (q := 0) (tgt := 38) dX4_sortOf_1 (tb_out e99 e100 e101 e102) (by decide) ?_
          refine g_iconst (q := 39) (v := (-1)) dX4_sortOf_38 rfl (by decide) ?_
          refine g_iret rfl dX4_sortOf_39 (Nat.le_refl _) (Nat.le_refl _) ?_
          unfold soI at h
          rw [if_neg e101, if_neg e99, if_neg e102] at h
          exact h
theorem lk_out {z : Int} (h1 : ¬ z = 97) (h2 : ¬ z = 98) (h3 : ¬ z = 111) (h4 : ¬ z = 114) (h5 : ¬ z = 116) : Op.lookupswitch.offset (#[(97, 51), (98, 59), (111, 57), (114, 53), (116, 55)] : Array (Int × Int)).toList 61 z = 61 := by
  simp [Op.lookupswitch.offset, Ne.symm h1, Ne.symm h2, Ne.symm h3, Ne.symm h4, Ne.symm h5, h1, h2, h3, h4, h5]
set_option maxRecDepth 100000 in
set_option maxHeartbeats 400000 in
theorem c_X4_kindOf {d k : Nat} {I : Nat → Nat → Int32} {Q : Option Int32 → Wd → Prop} {x : Int32} (h : Q (some (kdI x)) (I, RR k)) : Ex d 0 0 mX4_kindOf [.int x] 68 (I, RR k) 68 Q := by
  refine ex_intro (L0 := [.int x]) (by decide +kernel) rfl rfl (Nat.le_of_ble_eq_true rfl) rfl ?_
  refine g_iload_n (q := 1) dX4_kindOf_0 rfl rfl ?_
  by_cases e97 : x = nI 97
  · subst e97
    refine g_lookup (q := 0) (tgt := 52) (off := 51) dX4_kindOf_1 (by decide) (by decide) (by decide) ?_
    refine g_iconst (q := 53) (v := nI 1) dX4_kindOf_52 rfl (by decide) ?_
    refine g_iret rfl dX4_kindOf_53 (Nat.le_refl _) (Nat.le_refl _) ?_
    exact h
  · by_cases e98 : x = nI 98
    · subst e98
      refine g_lookup (q := 0) (tgt := 60) (off := 59) dX4_kindOf_1 (by decide) (by decide) (by decide) ?_
      refine g_iconst (q := 61) (v := nI 5) dX4_kindOf_60 rfl (by decide) ?_
      refine g_iret rfl dX4_kindOf_61 (Nat.le_refl _) (Nat.le_refl _) ?_
      exact h
    · by_cases e111 : x = nI 111
      · subst e111
        refine g_lookup (q := 0) (tgt := 58) (off := 57) dX4_kindOf_1 (by decide) (by decide) (by decide) ?_
        refine g_iconst (q := 59) (v := nI 4) dX4_kindOf_58 rfl (by decide) ?_
        refine g_iret rfl dX4_kindOf_59 (Nat.le_refl _) (Nat.le_refl _) ?_
        exact h
      · by_cases e114 : x = nI 114
        · subst e114
          refine g_lookup (q := 0) (tgt := 54) (off := 53) dX4_kindOf_1 (by decide) (by decide) (by decide) ?_
          refine g_iconst (q := 55) (v := nI 2) dX4_kindOf_54 rfl (by decide) ?_
          refine g_iret rfl dX4_kindOf_55 (Nat.le_refl _) (Nat.le_refl _) ?_
          exact h
        · by_cases e116 : x = nI 116
          · subst e116
            refine g_lookup (q := 0) (tgt := 56) (off := 55) dX4_kindOf_1 (by decide) (by decide) (by decide) ?_
            refine g_iconst (q := 57) (v := nI 3) dX4_kindOf_56 rfl (by decide) ?_
            refine g_iret rfl dX4_kindOf_57 (Nat.le_refl _) (Nat.le_refl _) ?_
            exact h
          · refine g_lookup (q := 0) (tgt := 62) (off := 61) dX4_kindOf_1 (by decide) ?_ (by decide) ?_
            · have n97 : ¬ x.toInt = 97 := fun z => e97 (Int32.toInt_inj.mp (z.trans (by decide)))
              have n98 : ¬ x.toInt = 98 := fun z => e98 (Int32.toInt_inj.mp (z.trans (by decide)))
              have n111 : ¬ x.toInt = 111 := fun z => e111 (Int32.toInt_inj.mp (z.trans (by decide)))
              have n114 : ¬ x.toInt = 114 := fun z => e114 (Int32.toInt_inj.mp (z.trans (by decide)))
              have n116 : ¬ x.toInt = 116 := fun z => e116 (Int32.toInt_inj.mp (z.trans (by decide)))
              exact lk_out n97 n98 n111 n114 n116
            refine g_iconst (q := 63) (v := nI 0) dX4_kindOf_62 rfl (by decide) ?_
            refine g_iret rfl dX4_kindOf_63 (Nat.le_refl _) (Nat.le_refl _) ?_
            unfold kdI at h
            rw [if_neg e97, if_neg e114, if_neg e116, if_neg e111, if_neg e98] at h
            exact h
