/-! the reference's reading of the text -/
def tkK (t : List Nat) (p : Nat) : Nat := if kdT t p = 0 then 0 else if kdT t p = 1 then (if t.getD p 0 = 44 then 3 else if t.getD p 0 = 59 then 4 else 1) else if kdT t p = 2 then 2 else 5
theorem tkK_0 {t : List Nat} {p : Nat} : tkK t p = 0 ↔ kdT t p = 0 := by
  unfold tkK
  repeat' split
  all_goals omega
theorem tkK_2 {t : List Nat} {p : Nat} : tkK t p = 2 ↔ kdT t p = 2 := by
  unfold tkK
  repeat' split
  all_goals omega
theorem tkK_1 {t : List Nat} {p : Nat} : tkK t p = 1 ↔ (kdT t p = 1 ∧ ¬ t.getD p 0 = 44 ∧ ¬ t.getD p 0 = 59) := by
  unfold tkK
  repeat' split
  all_goals omega
theorem tkK_3 {t : List Nat} {p : Nat} : tkK t p = 3 ↔ chr t p 44 = true := by
  rw [chr_iff]
  unfold tkK
  repeat' split
  all_goals omega
theorem tkK_4 {t : List Nat} {p : Nat} : tkK t p = 4 ↔ chr t p 59 = true := by
  rw [chr_iff]
  unfold tkK
  repeat' split
  all_goals omega
theorem tkK_lt (t : List Nat) (p : Nat) : tkK t p < 6 := by
  unfold tkK
  repeat' split
  all_goals omega
theorem MTape.b {J : Nat → Nat → Int32} {t : List Nat} (h : MTape J t) (p : Nat) : t.getD p 0 < 256 := by
  by_cases hp : p < t.length
  · exact (h.2.2 p hp).2
  · rw [List.getD_eq_getElem?_getD, List.getElem?_eq_none (by omega)]; decide
def FrY (I J : Nat → Nat → Int32) : Prop := (∀ p, p ≠ 52 → J p = I p) ∧ ∀ j, j < 9 ∨ 12 < j → J 52 j = I 52 j
theorem FrY.rf {I : Nat → Nat → Int32} : FrY I I := ⟨fun _ _ => rfl, fun _ _ => rfl⟩
theorem FrY.tr {I J K : Nat → Nat → Int32} (h1 : FrY I J) (h2 : FrY J K) : FrY I K := ⟨fun p a => (h2.1 p a).trans (h1.1 p a), fun j a => (h2.2 j a).trans (h1.2 j a)⟩
theorem FrY.u {I : Nat → Nat → Int32} {j : Nat} {x : Int32} (h1 : 9 ≤ j) (h2 : j ≤ 12) : FrY I (uI I 52 j x) := ⟨fun p hp => uI_ne hp, fun i hi => uI_n2 (by omega)⟩
def FrX (I J : Nat → Nat → Int32) : Prop := (∀ p, p ≠ 52 → J p = I p) ∧ ∀ j, j < 7 ∨ 12 < j → J 52 j = I 52 j
theorem FrX.rf {I : Nat → Nat → Int32} : FrX I I := ⟨fun _ _ => rfl, fun _ _ => rfl⟩
theorem FrX.tr {I J K : Nat → Nat → Int32} (h1 : FrX I J) (h2 : FrX J K) : FrX I K := ⟨fun p a => (h2.1 p a).trans (h1.1 p a), fun j a => (h2.2 j a).trans (h1.2 j a)⟩
theorem FrX.u {I : Nat → Nat → Int32} {j : Nat} {x : Int32} (h1 : 7 ≤ j) (h2 : j ≤ 12) : FrX I (uI I 52 j x) := ⟨fun p hp => uI_ne hp, fun i hi => uI_n2 (by omega)⟩
theorem FrY.x {I J : Nat → Nat → Int32} (h : FrY I J) : FrX I J := ⟨h.1, fun j hj => h.2 j (by omega)⟩
theorem MTape.y {I J : Nat → Nat → Int32} {t : List Nat} (h : MTape I t) (hF : FrX I J) : MTape J t := h.eq (hF.2 6 (by decide)) (hF.1 57 (by decide))
def byI (t : List Nat) (q : Nat) : Int32 := if q < t.length then nI (t.getD q 0) else -1
theorem byI_D {t : List Nat} {q : Nat} (hb : t.getD q 0 < 256) : (nI 48 ≤ byI t q ∧ byI t q ≤ nI 57) ↔ isD t q := by
  unfold byI
  by_cases h : q < t.length
  · rw [if_pos h]
    constructor
    · intro z; exact ⟨h, (nI_leI (by omega) (by omega)).mp z.1, (nI_leI (by omega) (by omega)).mp z.2⟩
    · intro z; exact ⟨nI_le z.2.1 (by omega), nI_le z.2.2 (by omega)⟩
  · rw [if_neg h]
    constructor
    · intro z; exact absurd z.1 (by decide)
    · intro z; exact absurd z.1 h
theorem byI_in {t : List Nat} {q : Nat} (h : q < t.length) : byI t q = nI (t.getD q 0) := if_pos h
def vmI (t : List Nat) (p : Nat) : Nat → Int32
  | 0 => nI 0
  | j + 1 => if j < 2 then nI 10 * vmI t p j + nI (t.getD (p + j) 0) - nI 48 else vmI t p j
theorem dm1 : ∀ c, c < 58 → 48 ≤ c → nI 10 * nI 0 + nI c - nI 48 = nI (c - 48) := by decide +kernel
theorem dm2 : ∀ a, a < 58 → 48 ≤ a → ∀ c, c < 58 → 48 ≤ c → nI 10 * nI (a - 48) + nI c - nI 48 = nI (10 * (a - 48) + (c - 48)) := by decide +kernel
theorem vmI_v {t : List Nat} {p : Nat} (h : isD t p) (h2 : dgN t p ≤ 2) : vmI t p (dgN t p) = nI (tkV t p) := by
  have h0 := dgN_pos h
  have e1 : vmI t p 1 = nI (t.getD p 0 - 48) := by
    show (if 0 < 2 then nI 10 * nI 0 + nI (t.getD p 0) - nI 48 else nI 0) = _
    rw [if_pos (by decide)]
    exact dm1 _ (Nat.lt_succ_of_le h.2.2) h.2.1
  unfold tkV
  by_cases e : dgN t p = 1
  · rw [e, if_pos rfl]; exact e1
  · have e : dgN t p = 2 := by omega
    rw [e, if_neg (by decide)]
    have hd := (dgN_all (t := t) (p := p) (j := 1) (by omega)).2
    show (if 1 < 2 then nI 10 * vmI t p 1 + nI (t.getD (p + 1) 0) - nI 48 else vmI t p 1) = _
    rw [if_pos (by decide), e1]
    exact dm2 _ (Nat.lt_succ_of_le h.2.2) h.2.1 _ (Nat.lt_succ_of_le hd.2) hd.1

set_option maxRecDepth 100000 in
set_option maxHeartbeats 400000 in
theorem c_X7_byteAt {d k : Nat} {I : Nat → Nat → Int32} {Q : Option Int32 → Wd → Prop} {t : List Nat} {q : Nat} (hT : MTape I t) (hq : q ≤ 130) (h : Q (some (byI t q)) (I, RR k)) : Ex d 0 0 mX7_byteAt [.ref 52, .int (nI q)] 68 (I, RR k) 68 Q := by
  have h130 := hT.2.1
  refine ex_intro (L0 := [.ref 52, .int (nI q)]) (by decide +kernel) rfl rfl (Nat.le_of_ble_eq_true rfl) rfl ?_
  refine g_iload_n (q := 1) dX7_byteAt_0 rfl rfl ?_
  refine g_aload_n (q := 2) dX7_byteAt_1 rfl rfl ?_
  refine gf_X7_88 (q := 5) rfl (by first | assumption | rfl) dX7_byteAt_2 rfl ?_
  rw [hT.1]
  refine g_icmp_ge (tgt := 17) (q := 8) dX7_byteAt_5 (by decide) rfl (fun c5 => ?_) (fun c5 => ?_)
  · refine g_iconst (q := 18) (v := (-1)) dX7_byteAt_17 rfl (by decide) ?_
    refine g_iret rfl dX7_byteAt_18 (Nat.le_refl _) (Nat.le_refl _) ?_
    rw [byI, if_neg (by have := (nI_leI (by omega) (by omega)).mp c5; omega)] at h
    exact h
  · have hlt : q < t.length := by
      have : ¬ t.length ≤ q := fun z => c5 (nI_le z (by omega))
      omega
    refine g_aload_n (q := 9) dX7_byteAt_8 rfl rfl ?_
    refine gf_X7_22 (q := 12) rfl (by first | assumption | rfl) (by first | assumption | rfl) dX7_byteAt_9 rfl ?_
    refine g_iload_n (q := 13) dX7_byteAt_12 rfl rfl ?_
    refine g_ialdn (q := 14) (by first | assumption | rfl) (by repeat' first | apply nI_a | apply nI_m | exact rfl) (by omega) dX7_byteAt_13 rfl ?_
    rw [(hT.2.2 q hlt).1]
    refine g_goto (q := 18) dX7_byteAt_14 (by decide) ?_
    refine g_iret rfl dX7_byteAt_18 (Nat.le_refl _) (Nat.le_refl _) ?_
    rw [byI_in hlt] at h
    exact h
set_option maxRecDepth 100000 in
set_option maxHeartbeats 400000 in
theorem l_adv {d k : Nat} {I : Nat → Nat → Int32} {Q : Option Int32 → Wd → Prop} {t : List Nat} {p : Nat} {cc : Int32} (hT : MTape I t) (hD : isD t p) (h : ∀ J, FrY I J → J 52 10 = nI p → J 52 9 = nI (nxt t p) → J 52 11 = nI (tkK t p) → (kdT t p = 1 → J 52 12 = nI (t.getD p 0)) → (kdT t p = 2 → J 52 12 = nI (tkV t p)) → Q none (J, RR k)) : ∀ (n j : Nat) (W : Nat → Nat → Int32), j + n = dgN t p → FrY I W → W 52 10 = nI p → W 52 9 = nI (p + j) → W 52 12 = vmI t p j → G mX7_advances (rmd (d + 1) 0 0) (Zm Q 68 68 0 0) 68 38 [.ref 52, .int cc] [] 68 (W, RR k) 0 0 := by
  have hle := dgN_le (Nat.le_of_lt hD.1)
  have h130 := hT.2.1
  intro n
  induction n with
  | zero =>
    intro j W hj wF w10 w9 w12
    have hj : j = dgN t p := by omega
    subst hj
    have wT := hT.y wF.x
    have hend := dgN_end (t := t) (p := p)
    refine g_aload_n (q := 39) dX7_advances_38 rfl rfl ?_
    refine g_aload_n (q := 40) dX7_advances_39 rfl rfl ?_
    refine gf_X7_92 (q := 43) rfl (by first | assumption | rfl) dX7_advances_40 rfl ?_
    rw [w9]
    refine k_X7_98 (q := 46) rfl (Nat.le_of_ble_eq_true rfl) (by first | assumption | rfl) dX7_advances_43 rfl (c_X7_byteAt (t := t) (q := p + dgN t p) wT (by omega) ?_)
    refine g_bipush (q := 48) (v := nI 48) dX7_advances_46 rfl (by decide) ?_
    refine g_bipush (q := 50) (v := nI 57) dX7_advances_48 rfl (by decide) ?_
    refine k_X7_62 (q := 53) rfl (Nat.le_of_ble_eq_true rfl) dX7_advances_50 rfl (c_X7_in (fun z1 z2 => absurd ((byI_D (hT.b _)).mp ⟨z1, z2⟩) hend) (fun _ => ?_))
    refine g_if_eq (tgt := 112) (q := 56) dX7_advances_53 (by decide) rfl (fun _ => ?_) (fun c53 => absurd c53 (by decide))
    refine g_aload_n (q := 113) dX7_advances_112 rfl rfl ?_
    refine g_aload_n (q := 114) dX7_advances_113 rfl rfl ?_
    refine gf_X7_92 (q := 117) rfl (by first | assumption | rfl) dX7_advances_114 rfl ?_
    rw [w9]
    refine g_aload_n (q := 118) dX7_advances_117 rfl rfl ?_
    refine gf_X7_95 (q := 121) rfl (by first | assumption | rfl) dX7_advances_118 rfl ?_
    rw [w10]
    refine g_isub (q := 122) dX7_advances_121 rfl ?_
    rw [nI_sb (by omega), show p + dgN t p - p = dgN t p by omega]
    refine g_iconst (q := 123) (v := nI 3) dX7_advances_122 rfl (by decide) ?_
    refine g_icmp_ge (tgt := 130) (q := 126) dX7_advances_123 (by decide) rfl (fun c123 => ?_) (fun c123 => ?_)
    · refine g_iconst (q := 131) (v := nI 5) dX7_advances_130 rfl (by decide) ?_
      refine pf_X7_104 (q := 134) rfl (by first | assumption | rfl) dX7_advances_131 rfl ?_
      refine g_vret rfl dX7_advances_134 (Nat.le_refl _) (Nat.le_refl _) ?_
      refine h _ (wF.tr (FrY.u (by decide) (by decide))) ((uI_n2 (by decide)).trans w10) ?_ ?_ (fun z => absurd hD (kd1 z).2.1) (fun z => ?_)
      · rw [uI_n2 (by decide), w9]; congr 1; unfold nxt; rw [if_neg (by have := hD.1; omega), if_pos hD]
      · rw [uI_eq]; congr 1
        have hk : kdT t p = 3 := by unfold kdT; rw [if_neg (show ¬ t.length ≤ p by have := hD.1; omega), if_pos hD, if_neg (by have := (nI_leI (by omega) (by omega)).mp c123; omega)]
        unfold tkK; rw [hk]; rfl
      · rw [uI_n2 (by decide), w12]; exact vmI_v hD (kd2 z).2
    · refine g_iconst (q := 127) (v := nI 2) dX7_advances_126 rfl (by decide) ?_
      refine g_goto (q := 131) dX7_advances_127 (by decide) ?_
      refine pf_X7_104 (q := 134) rfl (by first | assumption | rfl) dX7_advances_131 rfl ?_
      refine g_vret rfl dX7_advances_134 (Nat.le_refl _) (Nat.le_refl _) ?_
      refine h _ (wF.tr (FrY.u (by decide) (by decide))) ((uI_n2 (by decide)).trans w10) ?_ ?_ (fun z => absurd hD (kd1 z).2.1) (fun z => ?_)
      · rw [uI_n2 (by decide), w9]; congr 1; unfold nxt; rw [if_neg (by have := hD.1; omega), if_pos hD]
      · rw [uI_eq]; congr 1
        have hk : kdT t p = 2 := by unfold kdT; rw [if_neg (show ¬ t.length ≤ p by have := hD.1; omega), if_pos hD, if_pos (by have : ¬ 3 ≤ dgN t p := fun z => c123 (nI_le z (by omega)); omega)]
        exact (tkK_2.mpr hk).symm
      · rw [uI_n2 (by decide), w12]; exact vmI_v hD (kd2 z).2
  | succ n ih =>
    intro j W hj wF w10 w9 w12
    have wT := hT.y wF.x
    have hd := dgN_all (t := t) (p := p) (j := j) (by omega)
    have hlt := hd.1
    refine g_aload_n (q := 39) dX7_advances_38 rfl rfl ?_
    refine g_aload_n (q := 40) dX7_advances_39 rfl rfl ?_
    refine gf_X7_92 (q := 43) rfl (by first | assumption | rfl) dX7_advances_40 rfl ?_
    rw [w9]
    refine k_X7_98 (q := 46) rfl (Nat.le_of_ble_eq_true rfl) (by first | assumption | rfl) dX7_advances_43 rfl (c_X7_byteAt (t := t) (q := p + j) wT (by omega) ?_)
    refine g_bipush (q := 48) (v := nI 48) dX7_advances_46 rfl (by decide) ?_
    refine g_bipush (q := 50) (v := nI 57) dX7_advances_48 rfl (by decide) ?_
    refine k_X7_62 (q := 53) rfl (Nat.le_of_ble_eq_true rfl) dX7_advances_50 rfl (c_X7_in (fun _ _ => ?_) (fun z => absurd ((byI_D (hT.b _)).mpr hd) z))
    refine g_if_eq (tgt := 112) (q := 56) dX7_advances_53 (by decide) rfl (fun c53 => absurd c53 (by decide)) (fun _ => ?_)
    refine g_aload_n (q := 57) dX7_advances_56 rfl rfl ?_
    refine g_aload_n (q := 58) dX7_advances_57 rfl rfl ?_
    refine gf_X7_92 (q := 61) rfl (by first | assumption | rfl) dX7_advances_58 rfl ?_
    rw [w9]
    refine g_aload_n (q := 62) dX7_advances_61 rfl rfl ?_
    refine gf_X7_95 (q := 65) rfl (by first | assumption | rfl) dX7_advances_62 rfl ?_
    rw [w10]
    refine g_isub (q := 66) dX7_advances_65 rfl ?_
    rw [nI_sb (by omega), show p + j - p = j by omega]
    refine g_iconst (q := 67) (v := nI 2) dX7_advances_66 rfl (by decide) ?_
    refine g_icmp_ge (tgt := 92) (q := 70) dX7_advances_67 (by decide) rfl (fun c67 => ?_) (fun c67 => ?_)
    · refine g_aload_n (q := 93) dX7_advances_92 rfl rfl ?_
      refine gf_X7_101 (q := 96) rfl (by first | assumption | rfl) dX7_advances_93 rfl ?_
      rw [w12]
      refine pf_X7_101 (q := 99) rfl (by first | assumption | rfl) dX7_advances_96 rfl ?_
      refine g_aload_n (q := 100) dX7_advances_99 rfl rfl ?_
      refine g_dup (q := 101) dX7_advances_100 rfl rfl ?_
      refine gf_X7_92 (q := 104) rfl (by first | assumption | rfl) dX7_advances_101 rfl ?_
      rw [uI_n2 (by decide), w9]
      refine g_iconst (q := 105) (v := nI 1) dX7_advances_104 rfl (by decide) ?_
      refine g_iadd (q := 106) dX7_advances_105 rfl ?_
      rw [nI_add]
      refine pf_X7_92 (q := 109) rfl (by first | assumption | rfl) dX7_advances_106 rfl ?_
      refine g_goto (q := 38) dX7_advances_109 (by decide) ?_
      refine ih (j + 1) _ (by omega) (wF.tr ((FrY.u (by decide) (by decide)).tr (FrY.u (by decide) (by decide)))) ?_ uI_eq ?_
      · rw [uI_n2 (by decide), uI_n2 (by decide)]; exact w10
      · rw [uI_n2 (by decide), uI_eq]
        show _ = (if j < 2 then nI 10 * vmI t p j + nI (t.getD (p + j) 0) - nI 48 else vmI t p j)
        rw [if_neg (by have := (nI_leI (by omega) (by omega)).mp c67; omega)]
    · refine g_bipush (q := 72) (v := nI 10) dX7_advances_70 rfl (by decide) ?_
      refine g_aload_n (q := 73) dX7_advances_72 rfl rfl ?_
      refine gf_X7_101 (q := 76) rfl (by first | assumption | rfl) dX7_advances_73 rfl ?_
      rw [w12]
      refine g_imul (q := 77) dX7_advances_76 rfl ?_
      refine g_aload_n (q := 78) dX7_advances_77 rfl rfl ?_
      refine g_aload_n (q := 79) dX7_advances_78 rfl rfl ?_
      refine gf_X7_92 (q := 82) rfl (by first | assumption | rfl) dX7_advances_79 rfl ?_
      rw [w9]
      refine k_X7_98 (q := 85) rfl (Nat.le_of_ble_eq_true rfl) (by first | assumption | rfl) dX7_advances_82 rfl (c_X7_byteAt (t := t) (q := p + j) wT (by omega) ?_)
      refine g_iadd (q := 86) dX7_advances_85 rfl ?_
      refine g_bipush (q := 88) (v := nI 48) dX7_advances_86 rfl (by decide) ?_
      refine g_isub (q := 89) dX7_advances_88 rfl ?_
      refine g_goto (q := 96) dX7_advances_89 (by decide) ?_
      refine pf_X7_101 (q := 99) rfl (by first | assumption | rfl) dX7_advances_96 rfl ?_
      refine g_aload_n (q := 100) dX7_advances_99 rfl rfl ?_
      refine g_dup (q := 101) dX7_advances_100 rfl rfl ?_
      refine gf_X7_92 (q := 104) rfl (by first | assumption | rfl) dX7_advances_101 rfl ?_
      rw [uI_n2 (by decide), w9]
      refine g_iconst (q := 105) (v := nI 1) dX7_advances_104 rfl (by decide) ?_
      refine g_iadd (q := 106) dX7_advances_105 rfl ?_
      rw [nI_add]
      refine pf_X7_92 (q := 109) rfl (by first | assumption | rfl) dX7_advances_106 rfl ?_
      refine g_goto (q := 38) dX7_advances_109 (by decide) ?_
      refine ih (j + 1) _ (by omega) (wF.tr ((FrY.u (by decide) (by decide)).tr (FrY.u (by decide) (by decide)))) ?_ uI_eq ?_
      · rw [uI_n2 (by decide), uI_n2 (by decide)]; exact w10
      · rw [uI_n2 (by decide), uI_eq]
        show _ = (if j < 2 then nI 10 * vmI t p j + nI (t.getD (p + j) 0) - nI 48 else vmI t p j)
        rw [if_pos (by have : ¬ 2 ≤ j := fun z => c67 (nI_le z (by omega)); omega), byI_in hlt]
set_option maxRecDepth 100000 in
set_option maxHeartbeats 400000 in
theorem c_X7_advances {d k : Nat} {I : Nat → Nat → Int32} {Q : Option Int32 → Wd → Prop} {t : List Nat} {p : Nat} (hT : MTape I t) (hp : p ≤ t.length) (h9 : I 52 9 = nI p) (h : ∀ J, FrY I J → J 52 10 = nI p → J 52 9 = nI (nxt t p) → J 52 11 = nI (tkK t p) → (kdT t p = 1 → J 52 12 = nI (t.getD p 0)) → (kdT t p = 2 → J 52 12 = nI (tkV t p)) → Q none (J, RR k)) : Ex (d + 1) 0 0 mX7_advances [.ref 52] 68 (I, RR k) 68 Q := by
  have h130 := hT.2.1
  have hb := hT.b p
  refine ex_intro (L0 := [.ref 52, .null]) (by decide +kernel) rfl rfl (Nat.le_of_ble_eq_true rfl) rfl ?_
  refine g_aload_n (q := 1) dX7_advances_0 rfl rfl ?_
  refine g_aload_n (q := 2) dX7_advances_1 rfl rfl ?_
  refine gf_X7_92 (q := 5) rfl (by first | assumption | rfl) dX7_advances_2 rfl ?_
  rw [h9]
  refine pf_X7_95 (q := 8) rfl (by first | assumption | rfl) dX7_advances_5 rfl ?_
  refine g_aload_n (q := 9) dX7_advances_8 rfl rfl ?_
  refine g_aload_n (q := 10) dX7_advances_9 rfl rfl ?_
  refine gf_X7_92 (q := 13) rfl (by first | assumption | rfl) dX7_advances_10 rfl ?_
  rw [uI_n2 (by decide), h9]
  refine k_X7_98 (q := 16) rfl (Nat.le_of_ble_eq_true rfl) (by first | assumption | rfl) dX7_advances_13 rfl (c_X7_byteAt (t := t) (q := p) (hT.y (FrX.u (by decide) (by decide))) (by omega) ?_)
  refine g_istore_n (q := 17) dX7_advances_16 rfl (by decide) rfl rfl ?_
  refine g_aload_n (q := 18) dX7_advances_17 rfl rfl ?_
  refine g_iload_n (q := 19) dX7_advances_18 rfl rfl ?_
  refine pf_X7_101 (q := 22) rfl (by first | assumption | rfl) dX7_advances_19 rfl ?_
  obtain ⟨W, hW⟩ : ∃ W, W = uI (uI I 52 10 (nI p)) 52 12 (byI t p) := ⟨_, rfl⟩
  rw [← hW]
  have wF : FrY I W := by rw [hW]; exact (FrY.u (by decide) (by decide)).tr (FrY.u (by decide) (by decide))
  have w10 : W 52 10 = nI p := by rw [hW, uI_n2 (by decide), uI_eq]
  have w9 : W 52 9 = nI p := by rw [hW, uI_n2 (by decide), uI_n2 (by decide), h9]
  have w12 : W 52 12 = byI t p := by rw [hW, uI_eq]
  by_cases hlt : p < t.length
  · rw [byI_in hlt] at w12 ⊢
    refine g_iload_n (q := 23) dX7_advances_22 rfl rfl ?_
    refine g_bipush (q := 25) (v := nI 48) dX7_advances_23 rfl (by decide) ?_
    refine g_bipush (q := 27) (v := nI 57) dX7_advances_25 rfl (by decide) ?_
    refine k_X7_62 (q := 30) rfl (Nat.le_of_ble_eq_true rfl) dX7_advances_27 rfl (c_X7_in (fun z1 z2 => ?_) (fun zn => ?_))
    · refine g_if_eq (tgt := 135) (q := 33) dX7_advances_30 (by decide) rfl (fun c30 => absurd c30 (by decide)) (fun _ => ?_)
      refine g_aload_n (q := 34) dX7_advances_33 rfl rfl ?_
      refine g_iconst (q := 35) (v := nI 0) dX7_advances_34 rfl (by decide) ?_
      refine pf_X7_101 (q := 38) rfl (by first | assumption | rfl) dX7_advances_35 rfl ?_
      have hD : isD t p := ⟨hlt, (nI_leI (by omega) (by omega)).mp z1, (nI_leI (by omega) (by omega)).mp z2⟩
      refine l_adv hT hD h (dgN t p) 0 _ (by omega) (wF.tr (FrY.u (by decide) (by decide))) ((uI_n2 (by decide)).trans w10) ((uI_n2 (by decide)).trans w9) uI_eq
    · have hD : ¬ isD t p := fun z => zn ⟨nI_le z.2.1 (by omega), nI_le z.2.2 (by omega)⟩
      refine g_if_eq (tgt := 135) (q := 33) dX7_advances_30 (by decide) rfl (fun _ => ?_) (fun c30 => absurd c30 (by decide))
      refine g_aload_n (q := 136) dX7_advances_135 rfl rfl ?_
      refine g_iload_n (q := 137) dX7_advances_136 rfl rfl ?_
      refine g_if_ge (tgt := 144) (q := 140) dX7_advances_137 (by decide) rfl (fun _ => ?_) (fun c137 => absurd (nI_pos' (by omega)) c137)
      refine g_iload_n (q := 145) dX7_advances_144 rfl rfl ?_
      refine g_bipush (q := 147) (v := nI 97) dX7_advances_145 rfl (by decide) ?_
      refine g_bipush (q := 149) (v := nI 122) dX7_advances_147 rfl (by decide) ?_
      refine k_X7_62 (q := 152) rfl (Nat.le_of_ble_eq_true rfl) dX7_advances_149 rfl (c_X7_in (fun z1491 z1492 => ?_) (fun z149 => ?_))
      · have z149 := And.intro z1491 z1492
        refine g_if_eq (tgt := 159) (q := 155) dX7_advances_152 (by decide) rfl (fun c152 => absurd c152 (by decide)) (fun _ => ?_)
        refine g_iconst (q := 156) (v := nI 1) dX7_advances_155 rfl (by decide) ?_
        refine g_goto (q := 180) dX7_advances_156 (by decide) ?_
        refine pf_X7_104 (q := 183) rfl (by first | assumption | rfl) dX7_advances_180 rfl ?_
        refine g_aload_n (q := 184) dX7_advances_183 rfl rfl ?_
        refine g_dup (q := 185) dX7_advances_184 rfl rfl ?_
        refine gf_X7_92 (q := 188) rfl (by first | assumption | rfl) dX7_advances_185 rfl ?_
        rw [uI_n2 (by decide), w9]
        refine g_aload_n (q := 189) dX7_advances_188 rfl rfl ?_
        refine gf_X7_104 (q := 192) rfl (by first | assumption | rfl) dX7_advances_189 rfl ?_
        rw [uI_eq]
        refine g_if_ne (tgt := 199) (q := 195) dX7_advances_192 (by decide) rfl (fun _ => ?_) (fun c192 => absurd c192 (by decide))
        refine g_iconst (q := 200) (v := nI 1) dX7_advances_199 rfl (by decide) ?_
        refine g_iadd (q := 201) dX7_advances_200 rfl ?_
        rw [nI_add]
        refine pf_X7_92 (q := 204) rfl (by first | assumption | rfl) dX7_advances_201 rfl ?_
        refine g_vret rfl dX7_advances_204 (Nat.le_refl _) (Nat.le_refl _) ?_
        have hc : isC t p := Or.inl ⟨(nI_leI (by omega) (by omega)).mp z149.1, (nI_leI (by omega) (by omega)).mp z149.2⟩
        have hx : ¬ t.getD p 0 = 44 ∧ ¬ t.getD p 0 = 59 := by have := (nI_leI (a := 97) (b := t.getD p 0) (by omega) (by omega)).mp z149.1; omega
        have hk : kdT t p = 1 := by unfold kdT; rw [if_neg (by omega), if_neg hD, if_pos hc]
        refine h _ (wF.tr ((FrY.u (by decide) (by decide)).tr (FrY.u (by decide) (by decide)))) ?_ ?_ ?_ ?_ ?_
        · rw [uI_n2 (by decide), uI_n2 (by decide)]; exact w10
        · rw [uI_eq]; congr 1; unfold nxt; rw [if_neg (by omega), if_neg hD]
        · rw [uI_n2 (by decide), uI_eq]; congr 1; exact (tkK_1.mpr ⟨hk, hx⟩).symm
        · intro _; rw [uI_n2 (by decide), uI_n2 (by decide)]; exact w12
        · intro z; exact absurd (hk.symm.trans z) (by decide)
      · refine g_if_eq (tgt := 159) (q := 155) dX7_advances_152 (by decide) rfl (fun _ => ?_) (fun c152 => absurd c152 (by decide))
        refine g_iload_n (q := 160) dX7_advances_159 rfl rfl ?_
        refine g_bipush (q := 162) (v := nI 44) dX7_advances_160 rfl (by decide) ?_
        refine g_icmp_ne (tgt := 169) (q := 165) dX7_advances_162 (by decide) rfl (fun c162 => ?_) (fun c162 => ?_)
        · refine g_iload_n (q := 170) dX7_advances_169 rfl rfl ?_
          refine g_bipush (q := 172) (v := nI 59) dX7_advances_170 rfl (by decide) ?_
          refine g_icmp_ne (tgt := 179) (q := 175) dX7_advances_172 (by decide) rfl (fun c172 => ?_) (fun c172 => ?_)
          · refine g_iconst (q := 180) (v := nI 5) dX7_advances_179 rfl (by decide) ?_
            refine pf_X7_104 (q := 183) rfl (by first | assumption | rfl) dX7_advances_180 rfl ?_
            refine g_aload_n (q := 184) dX7_advances_183 rfl rfl ?_
            refine g_dup (q := 185) dX7_advances_184 rfl rfl ?_
            refine gf_X7_92 (q := 188) rfl (by first | assumption | rfl) dX7_advances_185 rfl ?_
            rw [uI_n2 (by decide), w9]
            refine g_aload_n (q := 189) dX7_advances_188 rfl rfl ?_
            refine gf_X7_104 (q := 192) rfl (by first | assumption | rfl) dX7_advances_189 rfl ?_
            rw [uI_eq]
            refine g_if_ne (tgt := 199) (q := 195) dX7_advances_192 (by decide) rfl (fun _ => ?_) (fun c192 => absurd c192 (by decide))
            refine g_iconst (q := 200) (v := nI 1) dX7_advances_199 rfl (by decide) ?_
            refine g_iadd (q := 201) dX7_advances_200 rfl ?_
            rw [nI_add]
            refine pf_X7_92 (q := 204) rfl (by first | assumption | rfl) dX7_advances_201 rfl ?_
            refine g_vret rfl dX7_advances_204 (Nat.le_refl _) (Nat.le_refl _) ?_
            have hc : ¬ isC t p := fun z => z.elim (fun y => z149 ⟨nI_le y.1 (by omega), nI_le y.2 (by omega)⟩) (fun y => y.elim (fun x => c162 (by rw [x])) (fun x => c172 (by rw [x])))
            have hk : kdT t p = 3 := by unfold kdT; rw [if_neg (by omega), if_neg hD, if_neg hc]
            refine h _ (wF.tr ((FrY.u (by decide) (by decide)).tr (FrY.u (by decide) (by decide)))) ?_ ?_ ?_ ?_ ?_
            · rw [uI_n2 (by decide), uI_n2 (by decide)]; exact w10
            · rw [uI_eq]; congr 1; unfold nxt; rw [if_neg (by omega), if_neg hD]
            · rw [uI_n2 (by decide), uI_eq]; congr 1; exact (show tkK t p = 5 by unfold tkK; rw [hk]; rfl).symm
            · intro z; exact absurd (hk.symm.trans z) (by decide)
            · intro z; exact absurd (hk.symm.trans z) (by decide)
          · refine g_iconst (q := 176) (v := nI 4) dX7_advances_175 rfl (by decide) ?_
            refine g_goto (q := 180) dX7_advances_176 (by decide) ?_
            refine pf_X7_104 (q := 183) rfl (by first | assumption | rfl) dX7_advances_180 rfl ?_
            refine g_aload_n (q := 184) dX7_advances_183 rfl rfl ?_
            refine g_dup (q := 185) dX7_advances_184 rfl rfl ?_
            refine gf_X7_92 (q := 188) rfl (by first | assumption | rfl) dX7_advances_185 rfl ?_
            rw [uI_n2 (by decide), w9]
            refine g_aload_n (q := 189) dX7_advances_188 rfl rfl ?_
            refine gf_X7_104 (q := 192) rfl (by first | assumption | rfl) dX7_advances_189 rfl ?_
            rw [uI_eq]
            refine g_if_ne (tgt := 199) (q := 195) dX7_advances_192 (by decide) rfl (fun _ => ?_) (fun c192 => absurd c192 (by decide))
            refine g_iconst (q := 200) (v := nI 1) dX7_advances_199 rfl (by decide) ?_
            refine g_iadd (q := 201) dX7_advances_200 rfl ?_
            rw [nI_add]
            refine pf_X7_92 (q := 204) rfl (by first | assumption | rfl) dX7_advances_201 rfl ?_
            refine g_vret rfl dX7_advances_204 (Nat.le_refl _) (Nat.le_refl _) ?_
            have hx : t.getD p 0 = 59 := (nI_eq (by omega) (by omega)).mp c172
            have hc : isC t p := Or.inr (Or.inr hx)
            have hk : kdT t p = 1 := by unfold kdT; rw [if_neg (by omega), if_neg hD, if_pos hc]
            refine h _ (wF.tr ((FrY.u (by decide) (by decide)).tr (FrY.u (by decide) (by decide)))) ?_ ?_ ?_ ?_ ?_
            · rw [uI_n2 (by decide), uI_n2 (by decide)]; exact w10
            · rw [uI_eq]; congr 1; unfold nxt; rw [if_neg (by omega), if_neg hD]
            · rw [uI_n2 (by decide), uI_eq]; congr 1; exact (tkK_4.mpr (chr_iff.mpr ⟨hk, hx⟩)).symm
            · intro _; rw [uI_n2 (by decide), uI_n2 (by decide)]; exact w12
            · intro z; exact absurd (hk.symm.trans z) (by decide)
        · refine g_iconst (q := 166) (v := nI 3) dX7_advances_165 rfl (by decide) ?_
          refine g_goto (q := 180) dX7_advances_166 (by decide) ?_
          refine pf_X7_104 (q := 183) rfl (by first | assumption | rfl) dX7_advances_180 rfl ?_
          refine g_aload_n (q := 184) dX7_advances_183 rfl rfl ?_
          refine g_dup (q := 185) dX7_advances_184 rfl rfl ?_
          refine gf_X7_92 (q := 188) rfl (by first | assumption | rfl) dX7_advances_185 rfl ?_
          rw [uI_n2 (by decide), w9]
          refine g_aload_n (q := 189) dX7_advances_188 rfl rfl ?_
          refine gf_X7_104 (q := 192) rfl (by first | assumption | rfl) dX7_advances_189 rfl ?_
          rw [uI_eq]
          refine g_if_ne (tgt := 199) (q := 195) dX7_advances_192 (by decide) rfl (fun _ => ?_) (fun c192 => absurd c192 (by decide))
          refine g_iconst (q := 200) (v := nI 1) dX7_advances_199 rfl (by decide) ?_
          refine g_iadd (q := 201) dX7_advances_200 rfl ?_
          rw [nI_add]
          refine pf_X7_92 (q := 204) rfl (by first | assumption | rfl) dX7_advances_201 rfl ?_
          refine g_vret rfl dX7_advances_204 (Nat.le_refl _) (Nat.le_refl _) ?_
          have hx : t.getD p 0 = 44 := (nI_eq (by omega) (by omega)).mp c162
          have hc : isC t p := Or.inr (Or.inl hx)
          have hk : kdT t p = 1 := by unfold kdT; rw [if_neg (by omega), if_neg hD, if_pos hc]
          refine h _ (wF.tr ((FrY.u (by decide) (by decide)).tr (FrY.u (by decide) (by decide)))) ?_ ?_ ?_ ?_ ?_
          · rw [uI_n2 (by decide), uI_n2 (by decide)]; exact w10
          · rw [uI_eq]; congr 1; unfold nxt; rw [if_neg (by omega), if_neg hD]
          · rw [uI_n2 (by decide), uI_eq]; congr 1; exact (tkK_3.mpr (chr_iff.mpr ⟨hk, hx⟩)).symm
          · intro _; rw [uI_n2 (by decide), uI_n2 (by decide)]; exact w12
          · intro z; exact absurd (hk.symm.trans z) (by decide)
  · rw [show byI t p = -1 from if_neg hlt] at w12 ⊢
    refine g_iload_n (q := 23) dX7_advances_22 rfl rfl ?_
    refine g_bipush (q := 25) (v := nI 48) dX7_advances_23 rfl (by decide) ?_
    refine g_bipush (q := 27) (v := nI 57) dX7_advances_25 rfl (by decide) ?_
    refine k_X7_62 (q := 30) rfl (Nat.le_of_ble_eq_true rfl) dX7_advances_27 rfl (c_X7_in (fun z1 _ => absurd z1 (by decide)) (fun _ => ?_))
    refine g_if_eq (tgt := 135) (q := 33) dX7_advances_30 (by decide) rfl (fun _ => ?_) (fun c30 => absurd c30 (by decide))
    refine g_aload_n (q := 136) dX7_advances_135 rfl rfl ?_
    refine g_iload_n (q := 137) dX7_advances_136 rfl rfl ?_
    refine g_if_ge (tgt := 144) (q := 140) dX7_advances_137 (by decide) rfl (fun c137 => absurd c137 (by decide)) (fun _ => ?_)
    refine g_iconst (q := 141) (v := nI 0) dX7_advances_140 rfl (by decide) ?_
    refine g_goto (q := 180) dX7_advances_141 (by decide) ?_
    refine pf_X7_104 (q := 183) rfl (by first | assumption | rfl) dX7_advances_180 rfl ?_
    refine g_aload_n (q := 184) dX7_advances_183 rfl rfl ?_
    refine g_dup (q := 185) dX7_advances_184 rfl rfl ?_
    refine gf_X7_92 (q := 188) rfl (by first | assumption | rfl) dX7_advances_185 rfl ?_
    rw [uI_n2 (by decide), w9]
    refine g_aload_n (q := 189) dX7_advances_188 rfl rfl ?_
    refine gf_X7_104 (q := 192) rfl (by first | assumption | rfl) dX7_advances_189 rfl ?_
    rw [uI_eq]
    refine g_if_ne (tgt := 199) (q := 195) dX7_advances_192 (by decide) rfl (fun c192 => absurd c192 (by decide)) (fun _ => ?_)
    refine g_iconst (q := 196) (v := nI 0) dX7_advances_195 rfl (by decide) ?_
    refine g_goto (q := 200) dX7_advances_196 (by decide) ?_
    refine g_iadd (q := 201) dX7_advances_200 rfl ?_
    rw [nI_add]
    refine pf_X7_92 (q := 204) rfl (by first | assumption | rfl) dX7_advances_201 rfl ?_
    refine g_vret rfl dX7_advances_204 (Nat.le_refl _) (Nat.le_refl _) ?_
    have hk : kdT t p = 0 := by unfold kdT; rw [if_pos (by omega)]
    refine h _ (wF.tr ((FrY.u (by decide) (by decide)).tr (FrY.u (by decide) (by decide)))) ?_ ?_ ?_ ?_ ?_
    · rw [uI_n2 (by decide), uI_n2 (by decide)]; exact w10
    · rw [uI_eq]; congr 1; unfold nxt; rw [if_pos (by omega)]; rfl
    · rw [uI_n2 (by decide), uI_eq]; congr 1; exact (tkK_0.mpr hk).symm
    · intro z; exact absurd (hk.symm.trans z) (by decide)
    · intro z; exact absurd (hk.symm.trans z) (by decide)
