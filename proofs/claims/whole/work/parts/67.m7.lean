/-! the reference's run: a heap of what is going on -/
def FrR (I J : Nat → Nat → Int32) : Prop := (∀ p, p ≠ 52 → p ≠ 64 → p ≠ 65 → p ≠ 66 → J p = I p) ∧ ∀ j, j < 21 ∨ 29 < j → J 52 j = I 52 j
theorem FrR.rf {I : Nat → Nat → Int32} : FrR I I := ⟨fun _ _ _ _ _ => rfl, fun _ _ => rfl⟩
theorem FrR.tr {I J K : Nat → Nat → Int32} (h1 : FrR I J) (h2 : FrR J K) : FrR I K := ⟨fun p a b c d => (h2.1 p a b c d).trans (h1.1 p a b c d), fun j a => (h2.2 j a).trans (h1.2 j a)⟩
theorem FrR.u {I : Nat → Nat → Int32} {p j : Nat} {x : Int32} (h : p = 64 ∨ p = 65 ∨ p = 66 ∨ (p = 52 ∧ 21 ≤ j ∧ j ≤ 29)) : FrR I (uI I p j x) := ⟨fun q h1 h2 h3 h4 => uI_ne (by omega), fun i hi => by
  simp only [uI]
  rw [if_neg (by omega)]⟩
theorem FrR.m {I J : Nat → Nat → Int32} (h : FrR I J) : FrM I J := fun p hp => h.1 p (by omega) (by omega) (by omega) (by omega)
theorem uI_uI {I : Nat → Nat → Int32} {p j : Nat} {x y : Int32} : uI (uI I p j x) p j y = uI I p j y := by
  funext a b
  simp only [uI]
  split <;> rfl
theorem uI_n2 {I : Nat → Nat → Int32} {p j i : Nat} {x : Int32} (h : i ≠ j) : uI I p j x p i = I p i := by simp [uI, h]
/-- what is on the heap at U -/
def Ent (I : Nat → Nat → Int32) (U : Nat) (w m x mt a : Int32) : Prop := I 64 (7 * U) = w ∧ I 64 (7 * U + 1) = m ∧ I 64 (7 * U + 2) = x ∧ I 64 (7 * U + 3) = mt ∧ I 64 (7 * U + 4) = a
def Psh (I J : Nat → Nat → Int32) (T : Nat) (w m x mt a : Int32) : Prop := (∀ j, j < 7 * T → J 64 j = I 64 j) ∧ Ent J T w m x mt a ∧ J 64 (7 * T + 5) = -1 ∧ J 64 (7 * T + 6) = x ∧ J 52 21 = nI (T + 1) ∧ (∀ p, p ≠ 52 → p ≠ 64 → J p = I p) ∧ ∀ j, j ≠ 21 → J 52 j = I 52 j
theorem Psh.fr {I J : Nat → Nat → Int32} {T : Nat} {w m x mt a : Int32} (h : Psh I J T w m x mt a) : FrR I J := ⟨fun p h1 h2 _ _ => h.2.2.2.2.2.1 p h1 h2, fun j hj => h.2.2.2.2.2.2 j (by omega)⟩
/-- the run is in state s, T are on the heap, the methods are going on as go says -/
def RS (v : Vv) (I : Nat → Nat → Int32) (s : Rs) (T : Nat) (go : Nat → Nat) : Prop := I 52 21 = nI T ∧ I 52 24 = nI s.1.length ∧ I 52 27 = nI s.2.1 ∧ I 52 28 = nI (testsF v s) ∧ I 52 29 = nI 0 ∧ (∀ j, j < s.1.length → I 66 j = nI (s.1.getD j 0)) ∧ s.1.length ≤ 99 ∧ s.2.1 ≤ 300 ∧ ∀ m, m < 6 → I 65 m = nI (go m)
/-- the same but for the heap, its height, what failed and what was given -/
theorem RS.eq {v : Vv} {I J : Nat → Nat → Int32} {s : Rs} {T U : Nat} {go : Nat → Nat} (h : RS v I s T go) (e1 : J 52 21 = nI U) (e2 : ∀ j, j = 24 ∨ j = 27 ∨ j = 28 ∨ j = 29 → J 52 j = I 52 j) (e3 : J 65 = I 65) (e4 : J 66 = I 66) : RS v J s U go := by
  obtain ⟨h1, h2, h3, h4, h5, h6, h7, h8, h9⟩ := h
  exact ⟨e1, (e2 24 (by omega)).trans h2, (e2 27 (by omega)).trans h3, (e2 28 (by omega)).trans h4, (e2 29 (by omega)).trans h5, fun j hj => by rw [e4]; exact h6 j hj, h7, h8, fun m hm => by rw [e3]; exact h9 m hm⟩
theorem RS.psh {v : Vv} {I J : Nat → Nat → Int32} {s : Rs} {T : Nat} {go : Nat → Nat} {w m x mt a : Int32} (h : RS v I s T go) (hp : Psh I J T w m x mt a) : RS v J s (T + 1) go :=
  h.eq hp.2.2.2.2.1 (fun j hj => hp.2.2.2.2.2.2 j (by omega)) (hp.2.2.2.2.2.1 65 (by decide) (by decide)) (hp.2.2.2.2.2.1 66 (by decide) (by decide))
def emW (I : Nat → Nat → Int32) (n x : Nat) : Nat → Nat → Int32 := uI (uI I 66 n (nI x)) 52 24 (nI (n + 1))
theorem emW_64 {I : Nat → Nat → Int32} {n x : Nat} : emW I n x 64 = I 64 := (uI_ne (by decide)).trans (uI_ne (by decide))
theorem emW_f {I : Nat → Nat → Int32} {n x j : Nat} (h : j ≠ 24) : emW I n x 52 j = I 52 j := by
  unfold emW; rw [uI_n2 h, uI_ne (by decide)]
theorem emW_fr {I : Nat → Nat → Int32} {n x : Nat} : FrR I (emW I n x) := FrR.tr (FrR.u (Or.inr (Or.inr (Or.inl rfl)))) (FrR.u (by omega))
theorem RS_emit {v : Vv} {I : Nat → Nat → Int32} {s : Rs} {T : Nat} {go : Nat → Nat} {x : Nat} (h : RS v I s T go) (hl : s.1.length < 99) : RS v (emW I s.1.length x) (s.1 ++ [x], s.2) T go := by
  obtain ⟨h1, h2, h3, h4, h5, h6, h7, h8, h9⟩ := h
  refine ⟨(emW_f (by decide)).trans h1, by simp [emW, uI], (emW_f (by decide)).trans h3, (emW_f (by decide)).trans h4, (emW_f (by decide)).trans h5, fun j hj => ?_, by simp; omega, h8, fun m hm => ?_⟩
  · have hj : j < s.1.length + 1 := by simpa using hj
    by_cases e : j = s.1.length
    · subst e; simp [emW, uI]
    · have e2 : j < s.1.length := by omega
      have : emW I s.1.length x 66 j = I 66 j := by simp [emW, uI, e]
      rw [this, h6 j e2]
      simp [List.getElem?_append_left e2]
  · rw [show emW I s.1.length x 65 = I 65 from (uI_ne (by decide)).trans (uI_ne (by decide))]
    exact h9 m hm

set_option maxRecDepth 100000 in
set_option maxHeartbeats 400000 in
theorem c_X7_emits {d k : Nat} {I : Nat → Nat → Int32} {Q : Option Int32 → Wd → Prop} {n x : Nat} (hn : I 52 24 = nI n) (hn99 : n ≤ 99) (h1 : n < 99 → Q none (emW I n x, RR k)) (h0 : n = 99 → Q none (uI I 52 29 (nI 1), RR k)) : Ex d 0 0 mX7_emits [.ref 52, .int (nI x)] 68 (I, RR k) 68 Q := by
  refine ex_intro (L0 := [.ref 52, .int (nI x)]) (by decide +kernel) rfl rfl (Nat.le_of_ble_eq_true rfl) rfl ?_
  refine g_aload_n (q := 1) dX7_emits_0 rfl rfl ?_
  refine gf_X7_176 (q := 4) rfl (by first | assumption | rfl) dX7_emits_1 rfl ?_
  rw [hn]
  refine g_bipush (q := 6) (v := nI 99) dX7_emits_4 rfl (by decide) ?_
  refine g_icmp_ne (tgt := 17) (q := 9) dX7_emits_6 (by decide) rfl (fun c6 => ?_) (fun c6 => ?_)
  · have hlt : n < 99 := by
      have : ¬ n = 99 := fun z => c6 (by rw [z])
      omega
    refine g_aload_n (q := 18) dX7_emits_17 rfl rfl ?_
    refine gf_X7_50 (q := 21) rfl (by first | assumption | rfl) (by first | assumption | rfl) dX7_emits_18 rfl ?_
    refine g_aload_n (q := 22) dX7_emits_21 rfl rfl ?_
    refine gf_X7_176 (q := 25) rfl (by first | assumption | rfl) dX7_emits_22 rfl ?_
    rw [hn]
    refine g_iload_n (q := 26) dX7_emits_25 rfl rfl ?_
    refine g_iastn (q := 27) (by first | assumption | rfl) (by repeat' first | apply nI_a | apply nI_m | exact rfl) (by omega) dX7_emits_26 rfl ?_
    refine g_aload_n (q := 28) dX7_emits_27 rfl rfl ?_
    refine g_dup (q := 29) dX7_emits_28 rfl rfl ?_
    refine gf_X7_176 (q := 32) rfl (by first | assumption | rfl) dX7_emits_29 rfl ?_
    rw [uI_ne (by decide), hn]
    refine g_iconst (q := 33) (v := nI 1) dX7_emits_32 rfl (by decide) ?_
    refine g_iadd (q := 34) dX7_emits_33 rfl ?_
    rw [nI_add]
    refine pf_X7_176 (q := 37) rfl (by first | assumption | rfl) dX7_emits_34 rfl ?_
    refine g_vret rfl dX7_emits_37 (Nat.le_refl _) (Nat.le_refl _) ?_
    exact h1 hlt
  · refine g_aload_n (q := 10) dX7_emits_9 rfl rfl ?_
    refine g_iconst (q := 11) (v := nI 1) dX7_emits_10 rfl (by decide) ?_
    refine pf_X7_179 (q := 14) rfl (by decide) (by decide) (by first | assumption | rfl) dX7_emits_11 rfl ?_
    refine g_goto (q := 37) dX7_emits_14 (by decide) ?_
    refine g_vret rfl dX7_emits_37 (Nat.le_refl _) (Nat.le_refl _) ?_
    exact h0 ((nI_eq (by omega) (by omega)).mp c6)
set_option maxRecDepth 100000 in
set_option maxHeartbeats 400000 in
theorem c_X7_pushes {d k : Nat} {I : Nat → Nat → Int32} {Q : Option Int32 → Wd → Prop} {T : Nat} {w m x mt a : Int32} (htop : I 52 21 = nI T) (hT : T < 100) (h : ∀ J, Psh I J T w m x mt a → Q none (J, RR k)) : Ex d 0 0 mX7_pushes [.ref 52, .int w, .int m, .int x, .int mt, .int a] 68 (I, RR k) 68 Q := by
  refine ex_intro (L0 := [.ref 52, .int w, .int m, .int x, .int mt, .int a, .null]) (by decide +kernel) rfl rfl (Nat.le_of_ble_eq_true rfl) rfl ?_
  refine g_bipush (q := 2) (v := nI 7) dX7_pushes_0 rfl (by decide) ?_
  refine g_aload_n (q := 3) dX7_pushes_2 rfl rfl ?_
  refine gf_X7_183 (q := 6) rfl (by first | assumption | rfl) dX7_pushes_3 rfl ?_
  rw [htop]
  refine g_imul (q := 7) dX7_pushes_6 rfl ?_
  rw [show nI 7 * nI T = nI (7 * T) from nI_m rfl rfl]
  refine g_istore (q := 9) dX7_pushes_7 rfl (by decide) rfl rfl ?_
  refine g_aload_n (q := 10) dX7_pushes_9 rfl rfl ?_
  refine gf_X7_44 (q := 13) rfl (by first | assumption | rfl) (by first | assumption | rfl) dX7_pushes_10 rfl ?_
  refine g_iload (q := 15) dX7_pushes_13 rfl rfl ?_
  refine g_iconst (q := 16) (v := nI 0) dX7_pushes_15 rfl (by decide) ?_
  refine g_iadd (q := 17) dX7_pushes_16 rfl ?_
  refine g_iload_n (q := 18) dX7_pushes_17 rfl rfl ?_
  refine g_iastn (q := 19) (by first | assumption | rfl) (by repeat' first | apply nI_a | apply nI_m | exact rfl) (by omega) dX7_pushes_18 rfl ?_
  refine g_aload_n (q := 20) dX7_pushes_19 rfl rfl ?_
  refine gf_X7_44 (q := 23) rfl (by first | assumption | rfl) (by first | assumption | rfl) dX7_pushes_20 rfl ?_
  refine g_iload (q := 25) dX7_pushes_23 rfl rfl ?_
  refine g_iconst (q := 26) (v := nI 1) dX7_pushes_25 rfl (by decide) ?_
  refine g_iadd (q := 27) dX7_pushes_26 rfl ?_
  refine g_iload_n (q := 28) dX7_pushes_27 rfl rfl ?_
  refine g_iastn (q := 29) (by first | assumption | rfl) (by repeat' first | apply nI_a | apply nI_m | exact rfl) (by omega) dX7_pushes_28 rfl ?_
  refine g_aload_n (q := 30) dX7_pushes_29 rfl rfl ?_
  refine gf_X7_44 (q := 33) rfl (by first | assumption | rfl) (by first | assumption | rfl) dX7_pushes_30 rfl ?_
  refine g_iload (q := 35) dX7_pushes_33 rfl rfl ?_
  refine g_iconst (q := 36) (v := nI 2) dX7_pushes_35 rfl (by decide) ?_
  refine g_iadd (q := 37) dX7_pushes_36 rfl ?_
  refine g_iload_n (q := 38) dX7_pushes_37 rfl rfl ?_
  refine g_iastn (q := 39) (by first | assumption | rfl) (by repeat' first | apply nI_a | apply nI_m | exact rfl) (by omega) dX7_pushes_38 rfl ?_
  refine g_aload_n (q := 40) dX7_pushes_39 rfl rfl ?_
  refine gf_X7_44 (q := 43) rfl (by first | assumption | rfl) (by first | assumption | rfl) dX7_pushes_40 rfl ?_
  refine g_iload (q := 45) dX7_pushes_43 rfl rfl ?_
  refine g_iconst (q := 46) (v := nI 3) dX7_pushes_45 rfl (by decide) ?_
  refine g_iadd (q := 47) dX7_pushes_46 rfl ?_
  refine g_iload (q := 49) dX7_pushes_47 rfl rfl ?_
  refine g_iastn (q := 50) (by first | assumption | rfl) (by repeat' first | apply nI_a | apply nI_m | exact rfl) (by omega) dX7_pushes_49 rfl ?_
  refine g_aload_n (q := 51) dX7_pushes_50 rfl rfl ?_
  refine gf_X7_44 (q := 54) rfl (by first | assumption | rfl) (by first | assumption | rfl) dX7_pushes_51 rfl ?_
  refine g_iload (q := 56) dX7_pushes_54 rfl rfl ?_
  refine g_iconst (q := 57) (v := nI 4) dX7_pushes_56 rfl (by decide) ?_
  refine g_iadd (q := 58) dX7_pushes_57 rfl ?_
  refine g_iload (q := 60) dX7_pushes_58 rfl rfl ?_
  refine g_iastn (q := 61) (by first | assumption | rfl) (by repeat' first | apply nI_a | apply nI_m | exact rfl) (by omega) dX7_pushes_60 rfl ?_
  refine g_aload_n (q := 62) dX7_pushes_61 rfl rfl ?_
  refine gf_X7_44 (q := 65) rfl (by first | assumption | rfl) (by first | assumption | rfl) dX7_pushes_62 rfl ?_
  refine g_iload (q := 67) dX7_pushes_65 rfl rfl ?_
  refine g_iconst (q := 68) (v := nI 5) dX7_pushes_67 rfl (by decide) ?_
  refine g_iadd (q := 69) dX7_pushes_68 rfl ?_
  refine g_iconst (q := 70) (v := (-1)) dX7_pushes_69 rfl (by decide) ?_
  refine g_iastn (q := 71) (by first | assumption | rfl) (by repeat' first | apply nI_a | apply nI_m | exact rfl) (by omega) dX7_pushes_70 rfl ?_
  refine g_aload_n (q := 72) dX7_pushes_71 rfl rfl ?_
  refine gf_X7_44 (q := 75) rfl (by first | assumption | rfl) (by first | assumption | rfl) dX7_pushes_72 rfl ?_
  refine g_iload (q := 77) dX7_pushes_75 rfl rfl ?_
  refine g_bipush (q := 79) (v := nI 6) dX7_pushes_77 rfl (by decide) ?_
  refine g_iadd (q := 80) dX7_pushes_79 rfl ?_
  refine g_iload_n (q := 81) dX7_pushes_80 rfl rfl ?_
  refine g_iastn (q := 82) (by first | assumption | rfl) (by repeat' first | apply nI_a | apply nI_m | exact rfl) (by omega) dX7_pushes_81 rfl ?_
  refine g_aload_n (q := 83) dX7_pushes_82 rfl rfl ?_
  refine g_dup (q := 84) dX7_pushes_83 rfl rfl ?_
  refine gf_X7_183 (q := 87) rfl (by first | assumption | rfl) dX7_pushes_84 rfl ?_
  rw [show ∀ J, uI J 64 (7 * T + 6) x 52 21 = J 52 21 from fun J => by rw [uI_ne (by decide)]]
  simp only [uI_ne (show 52 ≠ 64 by decide)]
  rw [htop]
  refine g_iconst (q := 88) (v := nI 1) dX7_pushes_87 rfl (by decide) ?_
  refine g_iadd (q := 89) dX7_pushes_88 rfl ?_
  rw [nI_add]
  refine pf_X7_183 (q := 92) rfl (by first | assumption | rfl) dX7_pushes_89 rfl ?_
  refine g_vret rfl dX7_pushes_92 (Nat.le_refl _) (Nat.le_refl _) ?_
  refine h _ ⟨fun j hj => ?_, ⟨?_, ?_, ?_, ?_, ?_⟩, ?_, ?_, ?_, fun p h1 h2 => ?_, fun j hj => ?_⟩
  · have n0 : j ≠ 7 * T + 0 := by omega
    have n1 : j ≠ 7 * T + 1 := by omega
    have n2 : j ≠ 7 * T + 2 := by omega
    have n3 : j ≠ 7 * T + 3 := by omega
    have n4 : j ≠ 7 * T + 4 := by omega
    have n5 : j ≠ 7 * T + 5 := by omega
    have n6 : j ≠ 7 * T + 6 := by omega
    rw [uI_ne (by decide), uI_n2 n6, uI_n2 n5, uI_n2 n4, uI_n2 n3, uI_n2 n2, uI_n2 n1, uI_n2 n0]
  · simp [uI]
  · simp [uI]
  · simp [uI]
  · simp [uI]
  · simp [uI]
  · simp [uI]
  · simp [uI]
  · simp [uI]
  · funext j; simp [uI, h1, h2]
  · rw [uI_n2 hj]
    simp only [uI_ne (show 52 ≠ 64 by decide)]
set_option maxRecDepth 100000 in
set_option maxHeartbeats 400000 in
theorem c_X7_ends {d k : Nat} {I : Nat → Nat → Int32} {Q : Option Int32 → Wd → Prop} {U : Nat} {f r : Int32} (htop : I 52 21 = nI (U + 1)) (h : Q none (uI (uI (uI I 52 21 (nI U)) 52 25 f) 52 26 r, RR k)) : Ex d 0 0 mX7_ends [.ref 52, .int f, .int r] 68 (I, RR k) 68 Q := by
  refine ex_intro (L0 := [.ref 52, .int f, .int r]) (by decide +kernel) rfl rfl (Nat.le_of_ble_eq_true rfl) rfl ?_
  refine g_aload_n (q := 1) dX7_ends_0 rfl rfl ?_
  refine g_dup (q := 2) dX7_ends_1 rfl rfl ?_
  refine gf_X7_183 (q := 5) rfl (by first | assumption | rfl) dX7_ends_2 rfl ?_
  rw [htop]
  refine g_iconst (q := 6) (v := nI 1) dX7_ends_5 rfl (by decide) ?_
  refine g_isub (q := 7) dX7_ends_6 rfl ?_
  rw [show nI (U + 1) - nI 1 = nI U from nI_pred U]
  refine pf_X7_183 (q := 10) rfl (by first | assumption | rfl) dX7_ends_7 rfl ?_
  refine g_aload_n (q := 11) dX7_ends_10 rfl rfl ?_
  refine g_iload_n (q := 12) dX7_ends_11 rfl rfl ?_
  refine pf_X7_204 (q := 15) rfl (by first | assumption | rfl) dX7_ends_12 rfl ?_
  refine g_aload_n (q := 16) dX7_ends_15 rfl rfl ?_
  refine g_iload_n (q := 17) dX7_ends_16 rfl rfl ?_
  refine pf_X7_207 (q := 20) rfl (by first | assumption | rfl) dX7_ends_17 rfl ?_
  refine g_vret rfl dX7_ends_20 (Nat.le_refl _) (Nat.le_refl _) ?_
  exact h
def nxF (mt : Nat) : Nat → Nat → Option Nat
  | 0, _ => none
  | j + 1, p => if mt.testBit p = true then some p else nxF mt j (p + 1)
def wxF (mt j p : Nat) : Nat × Nat := match nxF mt j p with
  | none => (2, 0)
  | some a => (1, a)
theorem nx_none {mt n : Nat} (h : mt < 2 ^ n) : ∀ j p, n ≤ p → nxF mt j p = none := by
  intro j
  induction j with
  | zero => intro p _; rfl
  | succ j ih =>
    intro p hp
    have : mt.testBit p = false := Nat.testBit_lt_two_pow (Nat.lt_of_lt_of_le h (Nat.pow_le_pow_right (by decide) hp))
    rw [nxF, if_neg (by rw [this]; decide)]
    exact ih (p + 1) (by omega)

set_option maxRecDepth 100000 in
set_option maxHeartbeats 400000 in
theorem l_goes {d k p T mt : Nat} {v : Vv} {m x u5 : Int32} {I : Nat → Nat → Int32} {Q : Option Int32 → Wd → Prop} (hsp : shn 68 p = (1, 92)) (hM : MRep I p 0 v) (hV : VOk v) (hmt : mt < 2 ^ vna v) (hmt6 : mt < 64) (htop : I 52 21 = nI T) (hT : T < 100) : ∀ (j a : Nat), a + j = 5 → (∀ J, Psh I J T (nI (wxF mt j a).1) m x (nI mt) (nI (wxF mt j a).2) → Q none (J, RR k)) → G mX7_goesOn (rmd (d + 1) 0 0) (Zm Q 68 68 0 0) 68 4 [.ref 52, .ref p, .int m, .int x, .int (nI mt), .int u5, .int (nI a)] [] 68 (I, RR k) 0 0 := by
  obtain ⟨v1, v2, v3, v4⟩ := id hV
  have hb : ∀ a, a ≤ 5 → vna v ≤ a → ∀ j, (∀ J, Psh I J T (nI (wxF mt j a).1) m x (nI mt) (nI (wxF mt j a).2) → Q none (J, RR k)) → G mX7_goesOn (rmd (d + 1) 0 0) (Zm Q 68 68 0 0) 68 28 [.ref 52, .ref p, .int m, .int x, .int (nI mt), .int u5, .int (nI a)] [] 68 (I, RR k) 0 0 := by
    intro a ha5 hna j h
    have e : wxF mt j a = (2, 0) := by unfold wxF; rw [nx_none hmt j a hna]
    rw [e] at h
    refine g_aload_n (q := 29) dX7_goesOn_28 rfl rfl ?_
    refine g_iload (q := 31) dX7_goesOn_29 rfl rfl ?_
    refine g_aload_n (q := 32) dX7_goesOn_31 rfl rfl ?_
    refine g_iconst (q := 33) (v := nI 1) dX7_goesOn_32 rfl (by decide) ?_
    refine g_ialdn (q := 34) (by first | assumption | rfl) (by repeat' first | apply nI_a | apply nI_m | exact rfl) (by omega) dX7_goesOn_33 rfl ?_
    rw [hM.na]
    refine g_icmp_ge (tgt := 41) (q := 37) dX7_goesOn_34 (by decide) rfl (fun _ => ?_) (fun c34 => absurd (nI_le hna (by omega)) c34)
    refine g_iconst (q := 42) (v := nI 2) dX7_goesOn_41 rfl (by decide) ?_
    refine g_iload_n (q := 43) dX7_goesOn_42 rfl rfl ?_
    refine g_iload_n (q := 44) dX7_goesOn_43 rfl rfl ?_
    refine g_iload (q := 46) dX7_goesOn_44 rfl rfl ?_
    refine g_iload (q := 48) dX7_goesOn_46 rfl rfl ?_
    refine g_aload_n (q := 49) dX7_goesOn_48 rfl rfl ?_
    refine g_iconst (q := 50) (v := nI 1) dX7_goesOn_49 rfl (by decide) ?_
    refine g_ialdn (q := 51) (by first | assumption | rfl) (by repeat' first | apply nI_a | apply nI_m | exact rfl) (by omega) dX7_goesOn_50 rfl ?_
    rw [hM.na]
    refine g_icmp_ge (tgt := 59) (q := 54) dX7_goesOn_51 (by decide) rfl (fun _ => ?_) (fun c51 => absurd (nI_le hna (by omega)) c51)
    refine g_iconst (q := 60) (v := nI 0) dX7_goesOn_59 rfl (by decide) ?_
    refine k_X7_186 (q := 63) rfl (Nat.le_of_ble_eq_true rfl) (by first | assumption | rfl) dX7_goesOn_60 rfl (c_X7_pushes htop hT (fun J hJ => ?_))
    refine g_vret rfl dX7_goesOn_63 (Nat.le_refl _) (Nat.le_refl _) ?_
    exact h J hJ
  intro j
  induction j with
  | zero =>
    intro a ha h
    have ha : a = 5 := by omega
    subst ha
    refine g_iload (q := 6) dX7_goesOn_4 rfl rfl ?_
    refine g_aload_n (q := 7) dX7_goesOn_6 rfl rfl ?_
    refine g_iconst (q := 8) (v := nI 1) dX7_goesOn_7 rfl (by decide) ?_
    refine g_ialdn (q := 9) (by first | assumption | rfl) (by repeat' first | apply nI_a | apply nI_m | exact rfl) (by omega) dX7_goesOn_8 rfl ?_
    rw [hM.na]
    refine g_icmp_ge (tgt := 28) (q := 12) dX7_goesOn_9 (by decide) rfl (fun _ => ?_) (fun c9 => absurd (nI_le v2 (by omega)) c9)
    exact hb 5 (by omega) v2 0 h
  | succ j ih =>
    intro a ha h
    refine g_iload (q := 6) dX7_goesOn_4 rfl rfl ?_
    refine g_aload_n (q := 7) dX7_goesOn_6 rfl rfl ?_
    refine g_iconst (q := 8) (v := nI 1) dX7_goesOn_7 rfl (by decide) ?_
    refine g_ialdn (q := 9) (by first | assumption | rfl) (by repeat' first | apply nI_a | apply nI_m | exact rfl) (by omega) dX7_goesOn_8 rfl ?_
    rw [hM.na]
    refine g_icmp_ge (tgt := 28) (q := 12) dX7_goesOn_9 (by decide) rfl (fun c9 => ?_) (fun c9 => ?_)
    · exact hb a (by omega) ((nI_leI (by omega) (by omega)).mp c9) (j + 1) h
    · have hlt : a < vna v := by
        have : ¬ vna v ≤ a := fun z => c9 (nI_le z (by omega))
        omega
      refine g_iload (q := 14) dX7_goesOn_12 rfl rfl ?_
      refine g_iload (q := 16) dX7_goesOn_14 rfl rfl ?_
      refine k_X7_166 (q := 19) rfl (Nat.le_of_ble_eq_true rfl) dX7_goesOn_16 rfl (c_X7_has hmt6 (by omega) (fun z16 => ?_) (fun z16 => ?_))
      · refine g_if_ne (tgt := 28) (q := 22) dX7_goesOn_19 (by decide) rfl (fun _ => ?_) (fun c19 => absurd c19 (by decide))
        have e : wxF mt (j + 1) a = (1, a) := by unfold wxF; rw [nxF, if_pos z16]
        rw [e] at h
        refine g_aload_n (q := 29) dX7_goesOn_28 rfl rfl ?_
        refine g_iload (q := 31) dX7_goesOn_29 rfl rfl ?_
        refine g_aload_n (q := 32) dX7_goesOn_31 rfl rfl ?_
        refine g_iconst (q := 33) (v := nI 1) dX7_goesOn_32 rfl (by decide) ?_
        refine g_ialdn (q := 34) (by first | assumption | rfl) (by repeat' first | apply nI_a | apply nI_m | exact rfl) (by omega) dX7_goesOn_33 rfl ?_
        rw [hM.na]
        refine g_icmp_ge (tgt := 41) (q := 37) dX7_goesOn_34 (by decide) rfl (fun c34 => absurd c34 (nI_ge hlt (by omega))) (fun _ => ?_)
        refine g_iconst (q := 38) (v := nI 1) dX7_goesOn_37 rfl (by decide) ?_
        refine g_goto (q := 42) dX7_goesOn_38 (by decide) ?_
        refine g_iload_n (q := 43) dX7_goesOn_42 rfl rfl ?_
        refine g_iload_n (q := 44) dX7_goesOn_43 rfl rfl ?_
        refine g_iload (q := 46) dX7_goesOn_44 rfl rfl ?_
        refine g_iload (q := 48) dX7_goesOn_46 rfl rfl ?_
        refine g_aload_n (q := 49) dX7_goesOn_48 rfl rfl ?_
        refine g_iconst (q := 50) (v := nI 1) dX7_goesOn_49 rfl (by decide) ?_
        refine g_ialdn (q := 51) (by first | assumption | rfl) (by repeat' first | apply nI_a | apply nI_m | exact rfl) (by omega) dX7_goesOn_50 rfl ?_
        rw [hM.na]
        refine g_icmp_ge (tgt := 59) (q := 54) dX7_goesOn_51 (by decide) rfl (fun c51 => absurd c51 (nI_ge hlt (by omega))) (fun _ => ?_)
        refine g_iload (q := 56) dX7_goesOn_54 rfl rfl ?_
        refine g_goto (q := 60) dX7_goesOn_56 (by decide) ?_
        refine k_X7_186 (q := 63) rfl (Nat.le_of_ble_eq_true rfl) (by first | assumption | rfl) dX7_goesOn_60 rfl (c_X7_pushes htop hT (fun J hJ => ?_))
        refine g_vret rfl dX7_goesOn_63 (Nat.le_refl _) (Nat.le_refl _) ?_
        exact h J hJ
      · refine g_if_ne (tgt := 28) (q := 22) dX7_goesOn_19 (by decide) rfl (fun c19 => absurd c19 (by decide)) (fun _ => ?_)
        refine g_iincn (q := 25) dX7_goesOn_22 rfl rfl (by decide) rfl rfl ?_
        refine g_goto (q := 4) dX7_goesOn_25 (by decide) ?_
        have e : wxF mt (j + 1) a = wxF mt j (a + 1) := by unfold wxF; rw [nxF, if_neg (by rw [z16]; decide)]
        rw [e] at h
        exact ih (a + 1) (by omega) h
set_option maxRecDepth 100000 in
set_option maxHeartbeats 400000 in
theorem c_X7_goesOn {d k : Nat} {I : Nat → Nat → Int32} {Q : Option Int32 → Wd → Prop} {p T mt j a : Nat} {v : Vv} {m x : Int32} (hsp : shn 68 p = (1, 92)) (hM : MRep I p 0 v) (hV : VOk v) (hmt : mt < 2 ^ vna v) (hmt6 : mt < 64) (htop : I 52 21 = nI T) (hT : T < 100) (haj : a + j = 5) (h : ∀ J, Psh I J T (nI (wxF mt j a).1) m x (nI mt) (nI (wxF mt j a).2) → Q none (J, RR k)) : Ex (d + 1) 0 0 mX7_goesOn [.ref 52, .ref p, .int m, .int x, .int (nI mt), .int (nI a)] 68 (I, RR k) 68 Q := by
  refine ex_intro (L0 := [.ref 52, .ref p, .int m, .int x, .int (nI mt), .int (nI a), .null]) (by decide +kernel) rfl rfl (Nat.le_of_ble_eq_true rfl) rfl ?_
  refine g_iload (q := 2) dX7_goesOn_0 rfl rfl ?_
  refine g_istore (q := 4) dX7_goesOn_2 rfl (by decide) rfl rfl ?_
  exact l_goes hsp hM hV hmt hmt6 htop hT j a haj h
def upC (co : Nat → Nat) (m : Nat) : Nat → Nat := fun z => if z = m then co m + 1 else co z
theorem tests_up {v : Vv} {co : Nat → Nat} {m : Nat} (hm : m < vnm v) {l : List Nat} {c d : Nat} : testsF v (l, c, upC co m) = testsF v (l, d, co) + testF v m := by
  have : ∀ n, smN n (fun z => upC co m z * testF v z) = smN n (fun z => co z * testF v z) + if m < n then testF v m else 0 := by
    intro n
    induction n with
    | zero => simp [smN]
    | succ n ih =>
      rw [smN, smN, ih]
      by_cases h1 : m < n
      · have h2 : m < n + 1 := by omega
        have h3 : ¬ n = m := by omega
        simp only [if_pos h1, if_pos h2, upC, if_neg h3]
        omega
      · by_cases h4 : n = m
        · subst h4
          simp only [if_neg h1, upC, if_true, Nat.add_mul, Nat.one_mul, if_pos (Nat.lt_succ_self n)]
          omega
        · have h2 : ¬ m < n + 1 := by omega
          simp only [if_neg h1, if_neg h2, upC, if_neg h4]
          omega
  have := this (vnm v)
  rw [if_pos hm] at this
  exact this
/-- g tells which methods are going on -/
def Gof (g : Nat) (go : Nat → Nat) : Prop := ∀ m, m < 6 → (g.testBit m = true ↔ 0 < go m)
theorem Gof.up {g : Nat} {go : Nat → Nat} {m : Nat} (h : Gof g go) : Gof (g ||| 1 <<< m) (upC go m) := by
  intro z hz
  rw [Nat.testBit_or, Bool.or_eq_true, h z hz]
  have : (1 <<< m).testBit z = true ↔ m = z := by
    rw [Nat.one_shiftLeft, Nat.testBit_two_pow]
    simp
  rw [this]
  unfold upC
  by_cases e : z = m
  · simp [e]
  · rw [if_neg e]
    constructor
    · rintro (h1 | h1)
      · exact h1
      · exact absurd h1.symm e
    · exact Or.inl
def tbF (v : Vv) (m a : Nat) : Nat := if knownF v m a = 2 then 1 else 0

set_option maxRecDepth 100000 in
set_option maxHeartbeats 400000 in
theorem l_callsBy {d k p m x gg tb : Nat} {v : Vv} {goo : Nat → Nat} {J : Nat → Nat → Int32} {Q : Option Int32 → Wd → Prop} (hsp : shn 68 p = (1, 92)) (hp52 : p ≠ 52) (hM0 : MRep J p 0 v) (hV : VOk v) (hm : m < vnm v) (hx : x < 10) (hgg : Gof gg goo) (hgb : ∀ z, z < 6 → goo z < 2 ^ 31) (hJ65 : ∀ z, z < 6 → J 65 z = nI (goo z)) (hex : ∀ l6 l7 l8, G mX7_callsBy (rmd (d + 3) 0 0) (Zm Q 68 68 0 0) 68 168 [.ref 52, .ref p, .int (nI m), .int (nI x), .int (nI (orN (vna v) (mbit v m x gg))), .int (nI (vna v)), l6, l7, l8] [] 68 (uI J 52 28 (nI (tb + smN (vna v) (tbF v m))), RR k) 0 0) : ∀ (t a : Nat) (l6 l7 l8 : Value), a + t = vna v → G mX7_callsBy (rmd (d + 3) 0 0) (Zm Q 68 68 0 0) 68 42 [.ref 52, .ref p, .int (nI m), .int (nI x), .int (nI (orN a (mbit v m x gg))), .int (nI a), l6, l7, l8] [] 68 (uI J 52 28 (nI (tb + smN a (tbF v m))), RR k) 0 0 := by
  obtain ⟨v1, v2, v3, v4⟩ := id hV
  intro t
  induction t with
  | zero =>
    intro a l6 l7 l8 hi
    have hi : a = vna v := by omega
    subst hi
    have hM : ∀ x, MRep (uI J 52 28 x) p 0 v := fun x => hM0.eq (uI_ne hp52)
    refine g_iload (q := 44) dX7_callsBy_42 rfl rfl ?_
    refine g_aload_n (q := 45) dX7_callsBy_44 rfl rfl ?_
    refine g_iconst (q := 46) (v := nI 1) dX7_callsBy_45 rfl (by decide) ?_
    refine g_ialdn (q := 47) (by first | assumption | rfl) (by repeat' first | apply nI_a | apply nI_m | exact rfl) (by omega) dX7_callsBy_46 rfl ?_
    rw [(hM _).na]
    refine g_icmp_ge (tgt := 168) (q := 50) dX7_callsBy_47 (by decide) rfl (fun _ => ?_) (fun c47 => absurd (Int32.le_refl _) c47)
    exact hex _ _ _
  | succ t ih =>
    intro a l6 l7 l8 hi
    have ha : a < vna v := by omega
    have hM : MRep (uI J 52 28 (nI (tb + smN a (tbF v m)))) p 0 v := hM0.eq (uI_ne hp52)
    have k4 := v4 a ha
    have hk3 := knownF_lt v m a
    have hps : orN a (mbit v m x gg) < 64 := Nat.lt_trans (meantP_lt (v := v) (m := m) (x := x) (g := gg) (k := a) (by omega)) (by decide)
    have hbs : mbit v m x gg a < 64 := Nat.lt_trans (mbit_lt (by omega)) (by decide)
    refine g_iload (q := 44) dX7_callsBy_42 rfl rfl ?_
    refine g_aload_n (q := 45) dX7_callsBy_44 rfl rfl ?_
    refine g_iconst (q := 46) (v := nI 1) dX7_callsBy_45 rfl (by decide) ?_
    refine g_ialdn (q := 47) (by first | assumption | rfl) (by repeat' first | apply nI_a | apply nI_m | exact rfl) (by omega) dX7_callsBy_46 rfl ?_
    rw [hM.na]
    refine g_icmp_ge (tgt := 168) (q := 50) dX7_callsBy_47 (by decide) rfl (fun c47 => absurd c47 (nI_ge (by omega) (by omega))) (fun _ => ?_)
    refine g_bipush (q := 52) (v := nI 62) dX7_callsBy_50 rfl (by decide) ?_
    refine g_bipush (q := 54) (v := nI 6) dX7_callsBy_52 rfl (by decide) ?_
    refine g_iload (q := 56) dX7_callsBy_54 rfl rfl ?_
    refine g_imul (q := 57) dX7_callsBy_56 rfl ?_
    refine g_iadd (q := 58) dX7_callsBy_57 rfl ?_
    rw [show nI 62 + nI 6 * nI a = nI (62 + 6 * a) from nI_a rfl (nI_m rfl rfl)]
    refine g_istore (q := 60) dX7_callsBy_58 rfl (by decide) rfl rfl ?_
    refine g_aload_n (q := 61) dX7_callsBy_60 rfl rfl ?_
    refine g_iload (q := 63) dX7_callsBy_61 rfl rfl ?_
    refine g_iconst (q := 64) (v := nI 5) dX7_callsBy_63 rfl (by decide) ?_
    refine g_iadd (q := 65) dX7_callsBy_64 rfl ?_
    refine g_ialdn (q := 66) (by first | assumption | rfl) (by repeat' first | apply nI_a | apply nI_m | exact rfl) (by omega) dX7_callsBy_65 rfl ?_
    rw [hM.f4 ha]
    refine g_istore (q := 68) dX7_callsBy_66 rfl (by decide) rfl rfl ?_
    refine g_iload (q := 70) dX7_callsBy_68 rfl rfl ?_
    refine g_bipush (q := 72) (v := nI 6) dX7_callsBy_70 rfl (by decide) ?_
    refine g_icmp_eq (tgt := 92) (q := 75) dX7_callsBy_72 (by decide) rfl (fun c72 => ?_) (fun c72 => ?_)
    · refine g_iconst (q := 93) (v := nI 1) dX7_callsBy_92 rfl (by decide) ?_
      refine g_goto (q := 97) dX7_callsBy_93 (by decide) ?_
      have hon : vfa v a 4 = 6 ∨ gg.testBit (vfa v a 4) = true := Or.inl ((nI_eq (by omega) (by omega)).mp c72)
      refine g_istore (q := 99) dX7_callsBy_97 rfl (by decide) rfl rfl ?_
      refine g_iload (q := 101) dX7_callsBy_99 rfl rfl ?_
      refine g_aload_n (q := 102) dX7_callsBy_101 rfl rfl ?_
      refine g_iload_n (q := 103) dX7_callsBy_102 rfl rfl ?_
      refine g_iload (q := 105) dX7_callsBy_103 rfl rfl ?_
      refine k_X7_172 (q := 108) rfl (Nat.le_of_ble_eq_true rfl) dX7_callsBy_105 rfl (c_X7_isPlace hsp hM hV (by assumption) (by assumption) (fun z105 => ?_) (fun z105 => ?_))
      · refine g_if_eq (tgt := 133) (q := 111) dX7_callsBy_108 (by decide) rfl (fun c108 => absurd c108 (by decide)) (fun _ => ?_)
        refine g_iload_n (q := 112) dX7_callsBy_111 rfl rfl ?_
        refine g_aload_n (q := 113) dX7_callsBy_112 rfl rfl ?_
        refine g_iload (q := 115) dX7_callsBy_113 rfl rfl ?_
        refine g_iconst (q := 116) (v := nI 4) dX7_callsBy_115 rfl (by decide) ?_
        refine g_iadd (q := 117) dX7_callsBy_116 rfl ?_
        refine g_ialdn (q := 118) (by first | assumption | rfl) (by repeat' first | apply nI_a | apply nI_m | exact rfl) (by omega) dX7_callsBy_117 rfl ?_
        rw [hM.f3 ha]
        refine g_icmp_ge (tgt := 133) (q := 121) dX7_callsBy_118 (by decide) rfl (fun c118 => ?_) (fun c118 => ?_)
        · refine g_iconst (q := 134) (v := nI 0) dX7_callsBy_133 rfl (by decide) ?_
          refine g_ior (q := 135) dX7_callsBy_134 rfl ?_
          rw [show nI 0 = nI (mbit v m x gg a) by unfold mbit; rw [if_neg (fun z => absurd z.2.1 (Nat.not_lt.mpr ((nI_leI (by omega) (by omega)).mp c118)))], bit_or _ hps _ hbs, show orN a (mbit v m x gg) ||| mbit v m x gg a = orN (a + 1) (mbit v m x gg) from rfl]
          refine g_istore (q := 137) dX7_callsBy_135 rfl (by decide) rfl rfl ?_
          refine g_aload_n (q := 138) dX7_callsBy_137 rfl rfl ?_
          refine g_dup (q := 139) dX7_callsBy_138 rfl rfl ?_
          refine gf_X7_193 (q := 142) rfl (by first | assumption | rfl) dX7_callsBy_139 rfl ?_
          rw [uI_eq]
          refine g_aload_n (q := 143) dX7_callsBy_142 rfl rfl ?_
          refine g_iload_n (q := 144) dX7_callsBy_143 rfl rfl ?_
          refine g_iload (q := 146) dX7_callsBy_144 rfl rfl ?_
          refine k_X7_196 (q := 149) rfl (Nat.le_of_ble_eq_true rfl) dX7_callsBy_146 rfl (c_X7_aheadOf hsp hM hV (by assumption) (by assumption) ?_)
          refine g_iconst (q := 150) (v := nI 2) dX7_callsBy_149 rfl (by decide) ?_
          refine g_icmp_ne (tgt := 157) (q := 153) dX7_callsBy_150 (by decide) rfl (fun c150 => ?_) (fun c150 => ?_)
          · refine g_iconst (q := 158) (v := nI 0) dX7_callsBy_157 rfl (by decide) ?_
            have hk2 : tbF v m a = 0 := if_neg (fun z => c150 (by rw [z]))
            refine g_iadd (q := 159) dX7_callsBy_158 rfl ?_
            rw [nI_add]
            refine pf_X7_193 (q := 162) rfl (by first | assumption | rfl) dX7_callsBy_159 rfl ?_
            rw [uI_uI, show tb + smN a (tbF v m) + 0 = tb + smN (a + 1) (tbF v m) by rw [smN, hk2]; omega]
            refine g_iincn (q := 165) dX7_callsBy_162 rfl rfl (by decide) rfl rfl ?_
            refine g_goto (q := 42) dX7_callsBy_165 (by decide) ?_
            exact ih (a + 1) _ _ _ (by omega)
          · refine g_iconst (q := 154) (v := nI 1) dX7_callsBy_153 rfl (by decide) ?_
            refine g_goto (q := 158) dX7_callsBy_154 (by decide) ?_
            have hk2 : tbF v m a = 1 := if_pos ((nI_eq (by omega) (by omega)).mp c150)
            refine g_iadd (q := 159) dX7_callsBy_158 rfl ?_
            rw [nI_add]
            refine pf_X7_193 (q := 162) rfl (by first | assumption | rfl) dX7_callsBy_159 rfl ?_
            rw [uI_uI, show tb + smN a (tbF v m) + 1 = tb + smN (a + 1) (tbF v m) by rw [smN, hk2]; omega]
            refine g_iincn (q := 165) dX7_callsBy_162 rfl rfl (by decide) rfl rfl ?_
            refine g_goto (q := 42) dX7_callsBy_165 (by decide) ?_
            exact ih (a + 1) _ _ _ (by omega)
        · refine g_iload (q := 123) dX7_callsBy_121 rfl rfl ?_
          refine g_if_eq (tgt := 133) (q := 126) dX7_callsBy_123 (by decide) rfl (fun c123 => absurd c123 (by decide)) (fun _ => ?_)
          refine g_iconst (q := 127) (v := nI 1) dX7_callsBy_126 rfl (by decide) ?_
          refine g_iload (q := 129) dX7_callsBy_127 rfl rfl ?_
          refine g_ishl (q := 130) dX7_callsBy_129 rfl ?_
          refine g_goto (q := 134) dX7_callsBy_130 (by decide) ?_
          have hbel : x < vfa v a 3 := by
            have : ¬ vfa v a 3 ≤ x := fun z => c118 (nI_le z (by omega))
            omega
          refine g_ior (q := 135) dX7_callsBy_134 rfl ?_
          rw [bit_sh a (by omega), show 1 <<< a = mbit v m x gg a by unfold mbit; rw [if_pos ⟨z105, hbel, hon⟩], bit_or _ hps _ hbs, show orN a (mbit v m x gg) ||| mbit v m x gg a = orN (a + 1) (mbit v m x gg) from rfl]
          refine g_istore (q := 137) dX7_callsBy_135 rfl (by decide) rfl rfl ?_
          refine g_aload_n (q := 138) dX7_callsBy_137 rfl rfl ?_
          refine g_dup (q := 139) dX7_callsBy_138 rfl rfl ?_
          refine gf_X7_193 (q := 142) rfl (by first | assumption | rfl) dX7_callsBy_139 rfl ?_
          rw [uI_eq]
          refine g_aload_n (q := 143) dX7_callsBy_142 rfl rfl ?_
          refine g_iload_n (q := 144) dX7_callsBy_143 rfl rfl ?_
          refine g_iload (q := 146) dX7_callsBy_144 rfl rfl ?_
          refine k_X7_196 (q := 149) rfl (Nat.le_of_ble_eq_true rfl) dX7_callsBy_146 rfl (c_X7_aheadOf hsp hM hV (by assumption) (by assumption) ?_)
          refine g_iconst (q := 150) (v := nI 2) dX7_callsBy_149 rfl (by decide) ?_
          refine g_icmp_ne (tgt := 157) (q := 153) dX7_callsBy_150 (by decide) rfl (fun c150 => ?_) (fun c150 => ?_)
          · refine g_iconst (q := 158) (v := nI 0) dX7_callsBy_157 rfl (by decide) ?_
            have hk2 : tbF v m a = 0 := if_neg (fun z => c150 (by rw [z]))
            refine g_iadd (q := 159) dX7_callsBy_158 rfl ?_
            rw [nI_add]
            refine pf_X7_193 (q := 162) rfl (by first | assumption | rfl) dX7_callsBy_159 rfl ?_
            rw [uI_uI, show tb + smN a (tbF v m) + 0 = tb + smN (a + 1) (tbF v m) by rw [smN, hk2]; omega]
            refine g_iincn (q := 165) dX7_callsBy_162 rfl rfl (by decide) rfl rfl ?_
            refine g_goto (q := 42) dX7_callsBy_165 (by decide) ?_
            exact ih (a + 1) _ _ _ (by omega)
          · refine g_iconst (q := 154) (v := nI 1) dX7_callsBy_153 rfl (by decide) ?_
            refine g_goto (q := 158) dX7_callsBy_154 (by decide) ?_
            have hk2 : tbF v m a = 1 := if_pos ((nI_eq (by omega) (by omega)).mp c150)
            refine g_iadd (q := 159) dX7_callsBy_158 rfl ?_
            rw [nI_add]
            refine pf_X7_193 (q := 162) rfl (by first | assumption | rfl) dX7_callsBy_159 rfl ?_
            rw [uI_uI, show tb + smN a (tbF v m) + 1 = tb + smN (a + 1) (tbF v m) by rw [smN, hk2]; omega]
            refine g_iincn (q := 165) dX7_callsBy_162 rfl rfl (by decide) rfl rfl ?_
            refine g_goto (q := 42) dX7_callsBy_165 (by decide) ?_
            exact ih (a + 1) _ _ _ (by omega)
      · refine g_if_eq (tgt := 133) (q := 111) dX7_callsBy_108 (by decide) rfl (fun _ => ?_) (fun c108 => absurd c108 (by decide))
        refine g_iconst (q := 134) (v := nI 0) dX7_callsBy_133 rfl (by decide) ?_
        refine g_ior (q := 135) dX7_callsBy_134 rfl ?_
        rw [show nI 0 = nI (mbit v m x gg a) by unfold mbit; rw [if_neg (fun z => by rw [z105] at z; exact absurd z.1 (by decide))], bit_or _ hps _ hbs, show orN a (mbit v m x gg) ||| mbit v m x gg a = orN (a + 1) (mbit v m x gg) from rfl]
        refine g_istore (q := 137) dX7_callsBy_135 rfl (by decide) rfl rfl ?_
        refine g_aload_n (q := 138) dX7_callsBy_137 rfl rfl ?_
        refine g_dup (q := 139) dX7_callsBy_138 rfl rfl ?_
        refine gf_X7_193 (q := 142) rfl (by first | assumption | rfl) dX7_callsBy_139 rfl ?_
        rw [uI_eq]
        refine g_aload_n (q := 143) dX7_callsBy_142 rfl rfl ?_
        refine g_iload_n (q := 144) dX7_callsBy_143 rfl rfl ?_
        refine g_iload (q := 146) dX7_callsBy_144 rfl rfl ?_
        refine k_X7_196 (q := 149) rfl (Nat.le_of_ble_eq_true rfl) dX7_callsBy_146 rfl (c_X7_aheadOf hsp hM hV (by assumption) (by assumption) ?_)
        refine g_iconst (q := 150) (v := nI 2) dX7_callsBy_149 rfl (by decide) ?_
        refine g_icmp_ne (tgt := 157) (q := 153) dX7_callsBy_150 (by decide) rfl (fun c150 => ?_) (fun c150 => ?_)
        · refine g_iconst (q := 158) (v := nI 0) dX7_callsBy_157 rfl (by decide) ?_
          have hk2 : tbF v m a = 0 := if_neg (fun z => c150 (by rw [z]))
          refine g_iadd (q := 159) dX7_callsBy_158 rfl ?_
          rw [nI_add]
          refine pf_X7_193 (q := 162) rfl (by first | assumption | rfl) dX7_callsBy_159 rfl ?_
          rw [uI_uI, show tb + smN a (tbF v m) + 0 = tb + smN (a + 1) (tbF v m) by rw [smN, hk2]; omega]
          refine g_iincn (q := 165) dX7_callsBy_162 rfl rfl (by decide) rfl rfl ?_
          refine g_goto (q := 42) dX7_callsBy_165 (by decide) ?_
          exact ih (a + 1) _ _ _ (by omega)
        · refine g_iconst (q := 154) (v := nI 1) dX7_callsBy_153 rfl (by decide) ?_
          refine g_goto (q := 158) dX7_callsBy_154 (by decide) ?_
          have hk2 : tbF v m a = 1 := if_pos ((nI_eq (by omega) (by omega)).mp c150)
          refine g_iadd (q := 159) dX7_callsBy_158 rfl ?_
          rw [nI_add]
          refine pf_X7_193 (q := 162) rfl (by first | assumption | rfl) dX7_callsBy_159 rfl ?_
          rw [uI_uI, show tb + smN a (tbF v m) + 1 = tb + smN (a + 1) (tbF v m) by rw [smN, hk2]; omega]
          refine g_iincn (q := 165) dX7_callsBy_162 rfl rfl (by decide) rfl rfl ?_
          refine g_goto (q := 42) dX7_callsBy_165 (by decide) ?_
          exact ih (a + 1) _ _ _ (by omega)
    · refine g_iload (q := 77) dX7_callsBy_75 rfl rfl ?_
      refine g_bipush (q := 79) (v := nI 6) dX7_callsBy_77 rfl (by decide) ?_
      refine g_icmp_ge (tgt := 96) (q := 82) dX7_callsBy_79 (by decide) rfl (fun c79 => ?_) (fun c79 => ?_)
      · refine g_iconst (q := 97) (v := nI 0) dX7_callsBy_96 rfl (by decide) ?_
        have n6 : ¬ vfa v a 4 = 6 := fun z => c72 (by rw [z])
        have := (nI_leI (a := 6) (b := vfa v a 4) (by omega) (by omega)).mp c79
        exact absurd this (by omega)
      · have h46 : vfa v a 4 < 6 := by
          have : ¬ 6 ≤ vfa v a 4 := fun z => c79 (nI_le z (by omega))
          omega
        refine g_aload_n (q := 83) dX7_callsBy_82 rfl rfl ?_
        refine gf_X7_47 (q := 86) rfl (by first | assumption | rfl) (by first | assumption | rfl) dX7_callsBy_83 rfl ?_
        refine g_iload (q := 88) dX7_callsBy_86 rfl rfl ?_
        refine g_ialdn (q := 89) (by first | assumption | rfl) (by repeat' first | apply nI_a | apply nI_m | exact rfl) (by omega) dX7_callsBy_88 rfl ?_
        rw [uI_ne (by decide), hJ65 _ (by omega)]
        refine g_if_le (tgt := 96) (q := 92) dX7_callsBy_89 (by decide) rfl (fun c89 => ?_) (fun c89 => ?_)
        · refine g_iconst (q := 97) (v := nI 0) dX7_callsBy_96 rfl (by decide) ?_
          have n6 : ¬ vfa v a 4 = 6 := fun z => c72 (by rw [z])
          have hon : ¬ (vfa v a 4 = 6 ∨ gg.testBit (vfa v a 4) = true) := fun z => z.elim n6 (fun y => by
            have h1 := (hgg (vfa v a 4) (by omega)).mp y
            have h2 : nI (goo (vfa v a 4)) ≤ nI 0 := c89
            have h3 := (nI_leI (hgb _ (by omega)) (by omega)).mp h2
            omega)
          refine g_istore (q := 99) dX7_callsBy_97 rfl (by decide) rfl rfl ?_
          refine g_iload (q := 101) dX7_callsBy_99 rfl rfl ?_
          refine g_aload_n (q := 102) dX7_callsBy_101 rfl rfl ?_
          refine g_iload_n (q := 103) dX7_callsBy_102 rfl rfl ?_
          refine g_iload (q := 105) dX7_callsBy_103 rfl rfl ?_
          refine k_X7_172 (q := 108) rfl (Nat.le_of_ble_eq_true rfl) dX7_callsBy_105 rfl (c_X7_isPlace hsp hM hV (by assumption) (by assumption) (fun z105 => ?_) (fun z105 => ?_))
          · refine g_if_eq (tgt := 133) (q := 111) dX7_callsBy_108 (by decide) rfl (fun c108 => absurd c108 (by decide)) (fun _ => ?_)
            refine g_iload_n (q := 112) dX7_callsBy_111 rfl rfl ?_
            refine g_aload_n (q := 113) dX7_callsBy_112 rfl rfl ?_
            refine g_iload (q := 115) dX7_callsBy_113 rfl rfl ?_
            refine g_iconst (q := 116) (v := nI 4) dX7_callsBy_115 rfl (by decide) ?_
            refine g_iadd (q := 117) dX7_callsBy_116 rfl ?_
            refine g_ialdn (q := 118) (by first | assumption | rfl) (by repeat' first | apply nI_a | apply nI_m | exact rfl) (by omega) dX7_callsBy_117 rfl ?_
            rw [hM.f3 ha]
            refine g_icmp_ge (tgt := 133) (q := 121) dX7_callsBy_118 (by decide) rfl (fun c118 => ?_) (fun c118 => ?_)
            · refine g_iconst (q := 134) (v := nI 0) dX7_callsBy_133 rfl (by decide) ?_
              refine g_ior (q := 135) dX7_callsBy_134 rfl ?_
              rw [show nI 0 = nI (mbit v m x gg a) by unfold mbit; rw [if_neg (fun z => absurd z.2.1 (Nat.not_lt.mpr ((nI_leI (by omega) (by omega)).mp c118)))], bit_or _ hps _ hbs, show orN a (mbit v m x gg) ||| mbit v m x gg a = orN (a + 1) (mbit v m x gg) from rfl]
              refine g_istore (q := 137) dX7_callsBy_135 rfl (by decide) rfl rfl ?_
              refine g_aload_n (q := 138) dX7_callsBy_137 rfl rfl ?_
              refine g_dup (q := 139) dX7_callsBy_138 rfl rfl ?_
              refine gf_X7_193 (q := 142) rfl (by first | assumption | rfl) dX7_callsBy_139 rfl ?_
              rw [uI_eq]
              refine g_aload_n (q := 143) dX7_callsBy_142 rfl rfl ?_
              refine g_iload_n (q := 144) dX7_callsBy_143 rfl rfl ?_
              refine g_iload (q := 146) dX7_callsBy_144 rfl rfl ?_
              refine k_X7_196 (q := 149) rfl (Nat.le_of_ble_eq_true rfl) dX7_callsBy_146 rfl (c_X7_aheadOf hsp hM hV (by assumption) (by assumption) ?_)
              refine g_iconst (q := 150) (v := nI 2) dX7_callsBy_149 rfl (by decide) ?_
              refine g_icmp_ne (tgt := 157) (q := 153) dX7_callsBy_150 (by decide) rfl (fun c150 => ?_) (fun c150 => ?_)
              · refine g_iconst (q := 158) (v := nI 0) dX7_callsBy_157 rfl (by decide) ?_
                have hk2 : tbF v m a = 0 := if_neg (fun z => c150 (by rw [z]))
                refine g_iadd (q := 159) dX7_callsBy_158 rfl ?_
                rw [nI_add]
                refine pf_X7_193 (q := 162) rfl (by first | assumption | rfl) dX7_callsBy_159 rfl ?_
                rw [uI_uI, show tb + smN a (tbF v m) + 0 = tb + smN (a + 1) (tbF v m) by rw [smN, hk2]; omega]
                refine g_iincn (q := 165) dX7_callsBy_162 rfl rfl (by decide) rfl rfl ?_
                refine g_goto (q := 42) dX7_callsBy_165 (by decide) ?_
                exact ih (a + 1) _ _ _ (by omega)
              · refine g_iconst (q := 154) (v := nI 1) dX7_callsBy_153 rfl (by decide) ?_
                refine g_goto (q := 158) dX7_callsBy_154 (by decide) ?_
                have hk2 : tbF v m a = 1 := if_pos ((nI_eq (by omega) (by omega)).mp c150)
                refine g_iadd (q := 159) dX7_callsBy_158 rfl ?_
                rw [nI_add]
                refine pf_X7_193 (q := 162) rfl (by first | assumption | rfl) dX7_callsBy_159 rfl ?_
                rw [uI_uI, show tb + smN a (tbF v m) + 1 = tb + smN (a + 1) (tbF v m) by rw [smN, hk2]; omega]
                refine g_iincn (q := 165) dX7_callsBy_162 rfl rfl (by decide) rfl rfl ?_
                refine g_goto (q := 42) dX7_callsBy_165 (by decide) ?_
                exact ih (a + 1) _ _ _ (by omega)
            · refine g_iload (q := 123) dX7_callsBy_121 rfl rfl ?_
              refine g_if_eq (tgt := 133) (q := 126) dX7_callsBy_123 (by decide) rfl (fun _ => ?_) (fun c123 => absurd c123 (by decide))
              refine g_iconst (q := 134) (v := nI 0) dX7_callsBy_133 rfl (by decide) ?_
              have hbel : x < vfa v a 3 := by
                have : ¬ vfa v a 3 ≤ x := fun z => c118 (nI_le z (by omega))
                omega
              refine g_ior (q := 135) dX7_callsBy_134 rfl ?_
              rw [show nI 0 = nI (mbit v m x gg a) by unfold mbit; rw [if_neg (fun z => hon z.2.2)], bit_or _ hps _ hbs, show orN a (mbit v m x gg) ||| mbit v m x gg a = orN (a + 1) (mbit v m x gg) from rfl]
              refine g_istore (q := 137) dX7_callsBy_135 rfl (by decide) rfl rfl ?_
              refine g_aload_n (q := 138) dX7_callsBy_137 rfl rfl ?_
              refine g_dup (q := 139) dX7_callsBy_138 rfl rfl ?_
              refine gf_X7_193 (q := 142) rfl (by first | assumption | rfl) dX7_callsBy_139 rfl ?_
              rw [uI_eq]
              refine g_aload_n (q := 143) dX7_callsBy_142 rfl rfl ?_
              refine g_iload_n (q := 144) dX7_callsBy_143 rfl rfl ?_
              refine g_iload (q := 146) dX7_callsBy_144 rfl rfl ?_
              refine k_X7_196 (q := 149) rfl (Nat.le_of_ble_eq_true rfl) dX7_callsBy_146 rfl (c_X7_aheadOf hsp hM hV (by assumption) (by assumption) ?_)
              refine g_iconst (q := 150) (v := nI 2) dX7_callsBy_149 rfl (by decide) ?_
              refine g_icmp_ne (tgt := 157) (q := 153) dX7_callsBy_150 (by decide) rfl (fun c150 => ?_) (fun c150 => ?_)
              · refine g_iconst (q := 158) (v := nI 0) dX7_callsBy_157 rfl (by decide) ?_
                have hk2 : tbF v m a = 0 := if_neg (fun z => c150 (by rw [z]))
                refine g_iadd (q := 159) dX7_callsBy_158 rfl ?_
                rw [nI_add]
                refine pf_X7_193 (q := 162) rfl (by first | assumption | rfl) dX7_callsBy_159 rfl ?_
                rw [uI_uI, show tb + smN a (tbF v m) + 0 = tb + smN (a + 1) (tbF v m) by rw [smN, hk2]; omega]
                refine g_iincn (q := 165) dX7_callsBy_162 rfl rfl (by decide) rfl rfl ?_
                refine g_goto (q := 42) dX7_callsBy_165 (by decide) ?_
                exact ih (a + 1) _ _ _ (by omega)
              · refine g_iconst (q := 154) (v := nI 1) dX7_callsBy_153 rfl (by decide) ?_
                refine g_goto (q := 158) dX7_callsBy_154 (by decide) ?_
                have hk2 : tbF v m a = 1 := if_pos ((nI_eq (by omega) (by omega)).mp c150)
                refine g_iadd (q := 159) dX7_callsBy_158 rfl ?_
                rw [nI_add]
                refine pf_X7_193 (q := 162) rfl (by first | assumption | rfl) dX7_callsBy_159 rfl ?_
                rw [uI_uI, show tb + smN a (tbF v m) + 1 = tb + smN (a + 1) (tbF v m) by rw [smN, hk2]; omega]
                refine g_iincn (q := 165) dX7_callsBy_162 rfl rfl (by decide) rfl rfl ?_
                refine g_goto (q := 42) dX7_callsBy_165 (by decide) ?_
                exact ih (a + 1) _ _ _ (by omega)
          · refine g_if_eq (tgt := 133) (q := 111) dX7_callsBy_108 (by decide) rfl (fun _ => ?_) (fun c108 => absurd c108 (by decide))
            refine g_iconst (q := 134) (v := nI 0) dX7_callsBy_133 rfl (by decide) ?_
            refine g_ior (q := 135) dX7_callsBy_134 rfl ?_
            rw [show nI 0 = nI (mbit v m x gg a) by unfold mbit; rw [if_neg (fun z => by rw [z105] at z; exact absurd z.1 (by decide))], bit_or _ hps _ hbs, show orN a (mbit v m x gg) ||| mbit v m x gg a = orN (a + 1) (mbit v m x gg) from rfl]
            refine g_istore (q := 137) dX7_callsBy_135 rfl (by decide) rfl rfl ?_
            refine g_aload_n (q := 138) dX7_callsBy_137 rfl rfl ?_
            refine g_dup (q := 139) dX7_callsBy_138 rfl rfl ?_
            refine gf_X7_193 (q := 142) rfl (by first | assumption | rfl) dX7_callsBy_139 rfl ?_
            rw [uI_eq]
            refine g_aload_n (q := 143) dX7_callsBy_142 rfl rfl ?_
            refine g_iload_n (q := 144) dX7_callsBy_143 rfl rfl ?_
            refine g_iload (q := 146) dX7_callsBy_144 rfl rfl ?_
            refine k_X7_196 (q := 149) rfl (Nat.le_of_ble_eq_true rfl) dX7_callsBy_146 rfl (c_X7_aheadOf hsp hM hV (by assumption) (by assumption) ?_)
            refine g_iconst (q := 150) (v := nI 2) dX7_callsBy_149 rfl (by decide) ?_
            refine g_icmp_ne (tgt := 157) (q := 153) dX7_callsBy_150 (by decide) rfl (fun c150 => ?_) (fun c150 => ?_)
            · refine g_iconst (q := 158) (v := nI 0) dX7_callsBy_157 rfl (by decide) ?_
              have hk2 : tbF v m a = 0 := if_neg (fun z => c150 (by rw [z]))
              refine g_iadd (q := 159) dX7_callsBy_158 rfl ?_
              rw [nI_add]
              refine pf_X7_193 (q := 162) rfl (by first | assumption | rfl) dX7_callsBy_159 rfl ?_
              rw [uI_uI, show tb + smN a (tbF v m) + 0 = tb + smN (a + 1) (tbF v m) by rw [smN, hk2]; omega]
              refine g_iincn (q := 165) dX7_callsBy_162 rfl rfl (by decide) rfl rfl ?_
              refine g_goto (q := 42) dX7_callsBy_165 (by decide) ?_
              exact ih (a + 1) _ _ _ (by omega)
            · refine g_iconst (q := 154) (v := nI 1) dX7_callsBy_153 rfl (by decide) ?_
              refine g_goto (q := 158) dX7_callsBy_154 (by decide) ?_
              have hk2 : tbF v m a = 1 := if_pos ((nI_eq (by omega) (by omega)).mp c150)
              refine g_iadd (q := 159) dX7_callsBy_158 rfl ?_
              rw [nI_add]
              refine pf_X7_193 (q := 162) rfl (by first | assumption | rfl) dX7_callsBy_159 rfl ?_
              rw [uI_uI, show tb + smN a (tbF v m) + 1 = tb + smN (a + 1) (tbF v m) by rw [smN, hk2]; omega]
              refine g_iincn (q := 165) dX7_callsBy_162 rfl rfl (by decide) rfl rfl ?_
              refine g_goto (q := 42) dX7_callsBy_165 (by decide) ?_
              exact ih (a + 1) _ _ _ (by omega)
        · refine g_iconst (q := 93) (v := nI 1) dX7_callsBy_92 rfl (by decide) ?_
          refine g_goto (q := 97) dX7_callsBy_93 (by decide) ?_
          have n6 : ¬ vfa v a 4 = 6 := fun z => c72 (by rw [z])
          have hon : vfa v a 4 = 6 ∨ gg.testBit (vfa v a 4) = true := Or.inr ((hgg (vfa v a 4) (by omega)).mpr (by apply Nat.pos_of_ne_zero; intro z; rw [z] at c89; exact c89 (by decide)))
          refine g_istore (q := 99) dX7_callsBy_97 rfl (by decide) rfl rfl ?_
          refine g_iload (q := 101) dX7_callsBy_99 rfl rfl ?_
          refine g_aload_n (q := 102) dX7_callsBy_101 rfl rfl ?_
          refine g_iload_n (q := 103) dX7_callsBy_102 rfl rfl ?_
          refine g_iload (q := 105) dX7_callsBy_103 rfl rfl ?_
          refine k_X7_172 (q := 108) rfl (Nat.le_of_ble_eq_true rfl) dX7_callsBy_105 rfl (c_X7_isPlace hsp hM hV (by assumption) (by assumption) (fun z105 => ?_) (fun z105 => ?_))
          · refine g_if_eq (tgt := 133) (q := 111) dX7_callsBy_108 (by decide) rfl (fun c108 => absurd c108 (by decide)) (fun _ => ?_)
            refine g_iload_n (q := 112) dX7_callsBy_111 rfl rfl ?_
            refine g_aload_n (q := 113) dX7_callsBy_112 rfl rfl ?_
            refine g_iload (q := 115) dX7_callsBy_113 rfl rfl ?_
            refine g_iconst (q := 116) (v := nI 4) dX7_callsBy_115 rfl (by decide) ?_
            refine g_iadd (q := 117) dX7_callsBy_116 rfl ?_
            refine g_ialdn (q := 118) (by first | assumption | rfl) (by repeat' first | apply nI_a | apply nI_m | exact rfl) (by omega) dX7_callsBy_117 rfl ?_
            rw [hM.f3 ha]
            refine g_icmp_ge (tgt := 133) (q := 121) dX7_callsBy_118 (by decide) rfl (fun c118 => ?_) (fun c118 => ?_)
            · refine g_iconst (q := 134) (v := nI 0) dX7_callsBy_133 rfl (by decide) ?_
              refine g_ior (q := 135) dX7_callsBy_134 rfl ?_
              rw [show nI 0 = nI (mbit v m x gg a) by unfold mbit; rw [if_neg (fun z => absurd z.2.1 (Nat.not_lt.mpr ((nI_leI (by omega) (by omega)).mp c118)))], bit_or _ hps _ hbs, show orN a (mbit v m x gg) ||| mbit v m x gg a = orN (a + 1) (mbit v m x gg) from rfl]
              refine g_istore (q := 137) dX7_callsBy_135 rfl (by decide) rfl rfl ?_
              refine g_aload_n (q := 138) dX7_callsBy_137 rfl rfl ?_
              refine g_dup (q := 139) dX7_callsBy_138 rfl rfl ?_
              refine gf_X7_193 (q := 142) rfl (by first | assumption | rfl) dX7_callsBy_139 rfl ?_
              rw [uI_eq]
              refine g_aload_n (q := 143) dX7_callsBy_142 rfl rfl ?_
              refine g_iload_n (q := 144) dX7_callsBy_143 rfl rfl ?_
              refine g_iload (q := 146) dX7_callsBy_144 rfl rfl ?_
              refine k_X7_196 (q := 149) rfl (Nat.le_of_ble_eq_true rfl) dX7_callsBy_146 rfl (c_X7_aheadOf hsp hM hV (by assumption) (by assumption) ?_)
              refine g_iconst (q := 150) (v := nI 2) dX7_callsBy_149 rfl (by decide) ?_
              refine g_icmp_ne (tgt := 157) (q := 153) dX7_callsBy_150 (by decide) rfl (fun c150 => ?_) (fun c150 => ?_)
              · refine g_iconst (q := 158) (v := nI 0) dX7_callsBy_157 rfl (by decide) ?_
                have hk2 : tbF v m a = 0 := if_neg (fun z => c150 (by rw [z]))
                refine g_iadd (q := 159) dX7_callsBy_158 rfl ?_
                rw [nI_add]
                refine pf_X7_193 (q := 162) rfl (by first | assumption | rfl) dX7_callsBy_159 rfl ?_
                rw [uI_uI, show tb + smN a (tbF v m) + 0 = tb + smN (a + 1) (tbF v m) by rw [smN, hk2]; omega]
                refine g_iincn (q := 165) dX7_callsBy_162 rfl rfl (by decide) rfl rfl ?_
                refine g_goto (q := 42) dX7_callsBy_165 (by decide) ?_
                exact ih (a + 1) _ _ _ (by omega)
              · refine g_iconst (q := 154) (v := nI 1) dX7_callsBy_153 rfl (by decide) ?_
                refine g_goto (q := 158) dX7_callsBy_154 (by decide) ?_
                have hk2 : tbF v m a = 1 := if_pos ((nI_eq (by omega) (by omega)).mp c150)
                refine g_iadd (q := 159) dX7_callsBy_158 rfl ?_
                rw [nI_add]
                refine pf_X7_193 (q := 162) rfl (by first | assumption | rfl) dX7_callsBy_159 rfl ?_
                rw [uI_uI, show tb + smN a (tbF v m) + 1 = tb + smN (a + 1) (tbF v m) by rw [smN, hk2]; omega]
                refine g_iincn (q := 165) dX7_callsBy_162 rfl rfl (by decide) rfl rfl ?_
                refine g_goto (q := 42) dX7_callsBy_165 (by decide) ?_
                exact ih (a + 1) _ _ _ (by omega)
            · refine g_iload (q := 123) dX7_callsBy_121 rfl rfl ?_
              refine g_if_eq (tgt := 133) (q := 126) dX7_callsBy_123 (by decide) rfl (fun c123 => absurd c123 (by decide)) (fun _ => ?_)
              refine g_iconst (q := 127) (v := nI 1) dX7_callsBy_126 rfl (by decide) ?_
              refine g_iload (q := 129) dX7_callsBy_127 rfl rfl ?_
              refine g_ishl (q := 130) dX7_callsBy_129 rfl ?_
              refine g_goto (q := 134) dX7_callsBy_130 (by decide) ?_
              have hbel : x < vfa v a 3 := by
                have : ¬ vfa v a 3 ≤ x := fun z => c118 (nI_le z (by omega))
                omega
              refine g_ior (q := 135) dX7_callsBy_134 rfl ?_
              rw [bit_sh a (by omega), show 1 <<< a = mbit v m x gg a by unfold mbit; rw [if_pos ⟨z105, hbel, hon⟩], bit_or _ hps _ hbs, show orN a (mbit v m x gg) ||| mbit v m x gg a = orN (a + 1) (mbit v m x gg) from rfl]
              refine g_istore (q := 137) dX7_callsBy_135 rfl (by decide) rfl rfl ?_
              refine g_aload_n (q := 138) dX7_callsBy_137 rfl rfl ?_
              refine g_dup (q := 139) dX7_callsBy_138 rfl rfl ?_
              refine gf_X7_193 (q := 142) rfl (by first | assumption | rfl) dX7_callsBy_139 rfl ?_
              rw [uI_eq]
              refine g_aload_n (q := 143) dX7_callsBy_142 rfl rfl ?_
              refine g_iload_n (q := 144) dX7_callsBy_143 rfl rfl ?_
              refine g_iload (q := 146) dX7_callsBy_144 rfl rfl ?_
              refine k_X7_196 (q := 149) rfl (Nat.le_of_ble_eq_true rfl) dX7_callsBy_146 rfl (c_X7_aheadOf hsp hM hV (by assumption) (by assumption) ?_)
              refine g_iconst (q := 150) (v := nI 2) dX7_callsBy_149 rfl (by decide) ?_
              refine g_icmp_ne (tgt := 157) (q := 153) dX7_callsBy_150 (by decide) rfl (fun c150 => ?_) (fun c150 => ?_)
              · refine g_iconst (q := 158) (v := nI 0) dX7_callsBy_157 rfl (by decide) ?_
                have hk2 : tbF v m a = 0 := if_neg (fun z => c150 (by rw [z]))
                refine g_iadd (q := 159) dX7_callsBy_158 rfl ?_
                rw [nI_add]
                refine pf_X7_193 (q := 162) rfl (by first | assumption | rfl) dX7_callsBy_159 rfl ?_
                rw [uI_uI, show tb + smN a (tbF v m) + 0 = tb + smN (a + 1) (tbF v m) by rw [smN, hk2]; omega]
                refine g_iincn (q := 165) dX7_callsBy_162 rfl rfl (by decide) rfl rfl ?_
                refine g_goto (q := 42) dX7_callsBy_165 (by decide) ?_
                exact ih (a + 1) _ _ _ (by omega)
              · refine g_iconst (q := 154) (v := nI 1) dX7_callsBy_153 rfl (by decide) ?_
                refine g_goto (q := 158) dX7_callsBy_154 (by decide) ?_
                have hk2 : tbF v m a = 1 := if_pos ((nI_eq (by omega) (by omega)).mp c150)
                refine g_iadd (q := 159) dX7_callsBy_158 rfl ?_
                rw [nI_add]
                refine pf_X7_193 (q := 162) rfl (by first | assumption | rfl) dX7_callsBy_159 rfl ?_
                rw [uI_uI, show tb + smN a (tbF v m) + 1 = tb + smN (a + 1) (tbF v m) by rw [smN, hk2]; omega]
                refine g_iincn (q := 165) dX7_callsBy_162 rfl rfl (by decide) rfl rfl ?_
                refine g_goto (q := 42) dX7_callsBy_165 (by decide) ?_
                exact ih (a + 1) _ _ _ (by omega)
          · refine g_if_eq (tgt := 133) (q := 111) dX7_callsBy_108 (by decide) rfl (fun _ => ?_) (fun c108 => absurd c108 (by decide))
            refine g_iconst (q := 134) (v := nI 0) dX7_callsBy_133 rfl (by decide) ?_
            refine g_ior (q := 135) dX7_callsBy_134 rfl ?_
            rw [show nI 0 = nI (mbit v m x gg a) by unfold mbit; rw [if_neg (fun z => by rw [z105] at z; exact absurd z.1 (by decide))], bit_or _ hps _ hbs, show orN a (mbit v m x gg) ||| mbit v m x gg a = orN (a + 1) (mbit v m x gg) from rfl]
            refine g_istore (q := 137) dX7_callsBy_135 rfl (by decide) rfl rfl ?_
            refine g_aload_n (q := 138) dX7_callsBy_137 rfl rfl ?_
            refine g_dup (q := 139) dX7_callsBy_138 rfl rfl ?_
            refine gf_X7_193 (q := 142) rfl (by first | assumption | rfl) dX7_callsBy_139 rfl ?_
            rw [uI_eq]
            refine g_aload_n (q := 143) dX7_callsBy_142 rfl rfl ?_
            refine g_iload_n (q := 144) dX7_callsBy_143 rfl rfl ?_
            refine g_iload (q := 146) dX7_callsBy_144 rfl rfl ?_
            refine k_X7_196 (q := 149) rfl (Nat.le_of_ble_eq_true rfl) dX7_callsBy_146 rfl (c_X7_aheadOf hsp hM hV (by assumption) (by assumption) ?_)
            refine g_iconst (q := 150) (v := nI 2) dX7_callsBy_149 rfl (by decide) ?_
            refine g_icmp_ne (tgt := 157) (q := 153) dX7_callsBy_150 (by decide) rfl (fun c150 => ?_) (fun c150 => ?_)
            · refine g_iconst (q := 158) (v := nI 0) dX7_callsBy_157 rfl (by decide) ?_
              have hk2 : tbF v m a = 0 := if_neg (fun z => c150 (by rw [z]))
              refine g_iadd (q := 159) dX7_callsBy_158 rfl ?_
              rw [nI_add]
              refine pf_X7_193 (q := 162) rfl (by first | assumption | rfl) dX7_callsBy_159 rfl ?_
              rw [uI_uI, show tb + smN a (tbF v m) + 0 = tb + smN (a + 1) (tbF v m) by rw [smN, hk2]; omega]
              refine g_iincn (q := 165) dX7_callsBy_162 rfl rfl (by decide) rfl rfl ?_
              refine g_goto (q := 42) dX7_callsBy_165 (by decide) ?_
              exact ih (a + 1) _ _ _ (by omega)
            · refine g_iconst (q := 154) (v := nI 1) dX7_callsBy_153 rfl (by decide) ?_
              refine g_goto (q := 158) dX7_callsBy_154 (by decide) ?_
              have hk2 : tbF v m a = 1 := if_pos ((nI_eq (by omega) (by omega)).mp c150)
              refine g_iadd (q := 159) dX7_callsBy_158 rfl ?_
              rw [nI_add]
              refine pf_X7_193 (q := 162) rfl (by first | assumption | rfl) dX7_callsBy_159 rfl ?_
              rw [uI_uI, show tb + smN a (tbF v m) + 1 = tb + smN (a + 1) (tbF v m) by rw [smN, hk2]; omega]
              refine g_iincn (q := 165) dX7_callsBy_162 rfl rfl (by decide) rfl rfl ?_
              refine g_goto (q := 42) dX7_callsBy_165 (by decide) ?_
              exact ih (a + 1) _ _ _ (by omega)
set_option maxRecDepth 100000 in
set_option maxHeartbeats 400000 in
theorem c_X7_callsBy {d k : Nat} {I : Nat → Nat → Int32} {Q : Option Int32 → Wd → Prop} {p m x g T : Nat} {v : Vv} {s : Rs} {go : Nat → Nat} (hp52 : p = 58 ∨ p = 60) (hsp : shn 68 p = (1, 92)) (hM : MRep I p 0 v) (hV : VOk v) (hm : m < vnm v) (hx : x < 10) (hS : RS v I s T go) (hT : T < 98) (hg : Gof g go) (hgo : ∀ z, z < 6 → go z < 1000) (hfull : 300 ≤ s.2.1 → Q none (uI I 52 29 (nI 1), RR k)) (h : ¬ 300 ≤ s.2.1 → ∀ J, RS v J (s.1, s.2.1 + 1, upC s.2.2 m) (T + 2) (upC go m) → Ent J T (nI 0) (nI m) (nI x) (nI (meantF v m x (g ||| 1 <<< m))) (nI 0) → Ent J (T + 1) (nI (wxF (meantF v m x (g ||| 1 <<< m)) 5 0).1) (nI m) (nI x) (nI (meantF v m x (g ||| 1 <<< m))) (nI (wxF (meantF v m x (g ||| 1 <<< m)) 5 0).2) → J 64 (7 * (T + 1) + 5) = -1 → J 64 (7 * (T + 1) + 6) = nI x → (∀ j, j < 7 * T → J 64 j = I 64 j) → FrR I J → J 52 25 = I 52 25 → Q none (J, RR k)) : Ex (d + 3) 0 0 mX7_callsBy [.ref 52, .ref p, .int (nI m), .int (nI x)] 68 (I, RR k) 68 Q := by
  obtain ⟨s1, s2, s3, s4, s5, s6, s7, s8, s9⟩ := id hS
  obtain ⟨v1, v2, v3, v4⟩ := id hV
  refine ex_intro (L0 := [.ref 52, .ref p, .int (nI m), .int (nI x), .null, .null, .null, .null, .null]) (by decide +kernel) rfl rfl (Nat.le_of_ble_eq_true rfl) rfl ?_
  refine g_aload_n (q := 1) dX7_callsBy_0 rfl rfl ?_
  refine gf_X7_190 (q := 4) rfl (by first | assumption | rfl) dX7_callsBy_1 rfl ?_
  rw [s3]
  refine g_sipush (q := 7) (v := nI 300) dX7_callsBy_4 rfl (by decide) ?_
  refine g_icmp_ne (tgt := 16) (q := 10) dX7_callsBy_7 (by decide) rfl (fun c7 => ?_) (fun c7 => ?_)
  · refine g_aload_n (q := 17) dX7_callsBy_16 rfl rfl ?_
    refine g_dup (q := 18) dX7_callsBy_17 rfl rfl ?_
    refine gf_X7_190 (q := 21) rfl (by first | assumption | rfl) dX7_callsBy_18 rfl ?_
    rw [s3]
    refine g_iconst (q := 22) (v := nI 1) dX7_callsBy_21 rfl (by decide) ?_
    refine g_iadd (q := 23) dX7_callsBy_22 rfl ?_
    rw [nI_add]
    refine pf_X7_190 (q := 26) rfl (by first | assumption | rfl) dX7_callsBy_23 rfl ?_
    refine g_aload_n (q := 27) dX7_callsBy_26 rfl rfl ?_
    refine gf_X7_47 (q := 30) rfl (by first | assumption | rfl) (by first | assumption | rfl) dX7_callsBy_27 rfl ?_
    refine g_iload_n (q := 31) dX7_callsBy_30 rfl rfl ?_
    refine g_dup2 (q := 32) dX7_callsBy_31 rfl rfl rfl ?_
    refine g_ialdn (q := 33) (by first | assumption | rfl) (by repeat' first | apply nI_a | apply nI_m | exact rfl) (by omega) dX7_callsBy_32 rfl ?_
    rw [uI_ne (by decide), s9 m (by omega)]
    refine g_iconst (q := 34) (v := nI 1) dX7_callsBy_33 rfl (by decide) ?_
    refine g_iadd (q := 35) dX7_callsBy_34 rfl ?_
    rw [nI_add]
    refine g_iastn (q := 36) (by first | assumption | rfl) (by repeat' first | apply nI_a | apply nI_m | exact rfl) (by omega) dX7_callsBy_35 rfl ?_
    refine g_iconst (q := 37) (v := nI 0) dX7_callsBy_36 rfl (by decide) ?_
    refine g_istore (q := 39) dX7_callsBy_37 rfl (by decide) rfl rfl ?_
    refine g_iconst (q := 40) (v := nI 0) dX7_callsBy_39 rfl (by decide) ?_
    refine g_istore (q := 42) dX7_callsBy_40 rfl (by decide) rfl rfl ?_
    have hlt : ¬ 300 ≤ s.2.1 := by
      have : ¬ s.2.1 = 300 := fun z => c7 (by rw [z])
      omega
    have hJM : MRep (uI (uI I 52 27 (nI (s.2.1 + 1))) 65 m (nI (go m + 1))) p 0 v := hM.eq ((uI_ne (by omega)).trans (uI_ne (by omega)))
    have hl := l_callsBy (d := d) (k := k) (p := p) (m := m) (x := x) (gg := g ||| 1 <<< m) (tb := testsF v s) (v := v) (goo := upC go m) (J := uI (uI I 52 27 (nI (s.2.1 + 1))) 65 m (nI (go m + 1))) (Q := Q) hsp (by omega) hJM hV hm hx hg.up (fun z hz => ?_) (fun z hz => ?_) ?_ (vna v) 0 .null .null .null (Nat.zero_add _)
    · have e : uI (uI (uI I 52 27 (nI (s.2.1 + 1))) 65 m (nI (go m + 1))) 52 28 (nI (testsF v s + smN 0 (tbF v m))) = uI (uI I 52 27 (nI (s.2.1 + 1))) 65 m (nI (go m + 1)) := by
        funext a b
        by_cases hc : a = 52 ∧ b = 28
        · rw [hc.1, hc.2, uI_eq, uI_ne (by decide), uI_n2 (by decide)]
          exact s4.symm
        · rw [uI, if_neg hc]
      rw [e] at hl
      exact hl
    · have := hgo m (by omega); have := hgo z hz; unfold upC; split <;> omega
    · by_cases e : z = m
      · subst e; rw [uI_eq]; simp [upC]
      · rw [uI_n2 e, uI_ne (by decide), s9 z hz]; simp [upC, e]
    · intro l6 l7 l8
      have hmt : meantF v m x (g ||| 1 <<< m) < 2 ^ vna v := orN_lt (n := vna v) _ _ (fun i hi => by unfold mbit; split; (· exact sh_n _ (by omega) _ hi); (· exact Nat.two_pow_pos _))
      have hmt6 : meantF v m x (g ||| 1 <<< m) < 64 := Nat.lt_trans (meantF_lt hV) (by decide)
      obtain ⟨W, hW⟩ : ∃ W, W = uI (uI (uI I 52 27 (nI (s.2.1 + 1))) 65 m (nI (go m + 1))) 52 28 (nI (testsF v s + smN (vna v) (tbF v m))) := ⟨_, rfl⟩
      rw [← hW, show orN (vna v) (mbit v m x (g ||| 1 <<< m)) = meantF v m x (g ||| 1 <<< m) from rfl]
      generalize hmtx : meantF v m x (g ||| 1 <<< m) = mt at *
      have w1 : W 52 21 = nI T := by rw [hW, uI_n2 (by decide), uI_ne (by decide), uI_n2 (by decide), s1]
      have w64 : W 64 = I 64 := by rw [hW, uI_ne (by decide), uI_ne (by decide), uI_ne (by decide)]
      have w25 : W 52 25 = I 52 25 := by rw [hW, uI_n2 (by decide), uI_ne (by decide), uI_n2 (by decide)]
      have wF : FrR I W := by rw [hW]; exact FrR.tr (FrR.tr (FrR.u (by omega)) (FrR.u (Or.inr (Or.inl rfl)))) (FrR.u (by omega))
      have wR : RS v W (s.1, s.2.1 + 1, upC s.2.2 m) T (upC go m) := by
        rw [hW]
        refine ⟨hW ▸ w1, ?_, ?_, ?_, ?_, fun j hj => ?_, s7, by show s.2.1 + 1 ≤ 300; omega, fun z hz => ?_⟩
        · rw [uI_n2 (by decide), uI_ne (by decide), uI_n2 (by decide)]; exact s2
        · rw [uI_n2 (by decide), uI_ne (by decide), uI_eq]
        · rw [uI_eq, tests_up hm (d := s.2.1)]; rfl
        · rw [uI_n2 (by decide), uI_ne (by decide), uI_n2 (by decide)]; exact s5
        · rw [uI_ne (by decide), uI_ne (by decide), uI_ne (by decide)]; exact s6 j hj
        · rw [uI_ne (by decide)]
          by_cases e : z = m
          · subst e; rw [uI_eq]; simp [upC]
          · rw [uI_n2 e, uI_ne (by decide), s9 z hz]; simp [upC, e]
      refine g_aload_n (q := 169) dX7_callsBy_168 rfl rfl ?_
      refine g_iconst (q := 170) (v := nI 0) dX7_callsBy_169 rfl (by decide) ?_
      refine g_iload_n (q := 171) dX7_callsBy_170 rfl rfl ?_
      refine g_iload_n (q := 172) dX7_callsBy_171 rfl rfl ?_
      refine g_iload (q := 174) dX7_callsBy_172 rfl rfl ?_
      refine g_iconst (q := 175) (v := nI 0) dX7_callsBy_174 rfl (by decide) ?_
      refine k_X7_186 (q := 178) rfl (Nat.le_of_ble_eq_true rfl) (by first | assumption | rfl) dX7_callsBy_175 rfl (c_X7_pushes w1 (by omega) (fun J1 hP1 => ?_))
      have hM1 : MRep J1 p 0 v := hM.eq ((hP1.2.2.2.2.2.1 p (by omega) (by omega)).trans (wF.1 p (by omega) (by omega) (by omega) (by omega)))
      refine g_aload_n (q := 179) dX7_callsBy_178 rfl rfl ?_
      refine g_aload_n (q := 180) dX7_callsBy_179 rfl rfl ?_
      refine g_iload_n (q := 181) dX7_callsBy_180 rfl rfl ?_
      refine g_iload_n (q := 182) dX7_callsBy_181 rfl rfl ?_
      refine g_iload (q := 184) dX7_callsBy_182 rfl rfl ?_
      refine g_iconst (q := 185) (v := nI 0) dX7_callsBy_184 rfl (by decide) ?_
      refine k_X7_200 (q := 188) rfl (Nat.le_of_ble_eq_true rfl) (by first | assumption | rfl) dX7_callsBy_185 rfl (c_X7_goesOn hsp hM1 hV hmt hmt6 hP1.2.2.2.2.1 (by omega) (show 0 + 5 = 5 from rfl) (fun J2 hP2 => ?_))
      refine g_vret rfl dX7_callsBy_188 (Nat.le_refl _) (Nat.le_refl _) ?_
      refine h hlt J2 ((wR.psh hP1).psh hP2) ?_ hP2.2.1 hP2.2.2.1 hP2.2.2.2.1 (fun j hj => ?_) (FrR.tr (FrR.tr wF hP1.fr) hP2.fr) ?_
      · obtain ⟨e1, e2, e3, e4, e5⟩ := hP1.2.1
        exact ⟨(hP2.1 _ (by omega)).trans e1, (hP2.1 _ (by omega)).trans e2, (hP2.1 _ (by omega)).trans e3, (hP2.1 _ (by omega)).trans e4, (hP2.1 _ (by omega)).trans e5⟩
      · rw [hP2.1 j (by omega), hP1.1 j hj, w64]
      · rw [hP2.2.2.2.2.2.2 25 (by decide), hP1.2.2.2.2.2.2 25 (by decide), w25]
  · refine g_aload_n (q := 11) dX7_callsBy_10 rfl rfl ?_
    refine g_iconst (q := 12) (v := nI 1) dX7_callsBy_11 rfl (by decide) ?_
    refine pf_X7_179 (q := 15) rfl (by decide) (by decide) (by first | assumption | rfl) dX7_callsBy_12 rfl ?_
    refine g_vret rfl dX7_callsBy_15 (Nat.le_refl _) (Nat.le_refl _) ?_
    exact hfull (by have : nI s.2.1 = nI 300 := c7; have := (nI_eq (by omega) (by omega)).mp this; omega)
