theorem bit_orG (x y : Nat) : nI x ||| nI y = nI (x ||| y) := by
  apply Int32.toBitVec_inj.mp
  show BitVec.ofNat 32 x ||| BitVec.ofNat 32 y = BitVec.ofNat 32 (x ||| y)
  exact BitVec.ofNat_or.symm
theorem bit_shG : ∀ k, k < 16 → nI 1 <<< (nI k &&& 31) = nI (1 <<< k) := by decide +kernel
def rvF (q : Rs × Nat × Int32) : Int32 := if q.2.1 = 0 then q.2.2 else -1000000
theorem ends_iff {I : Nat → Nat → Int32} {r : Res} {q : Rs × Nat × Int32} (h : MPost I r) (hl : q.1.1.length ≤ 99) (hf : q.2.1 < 10) : (I 19 7 = 0 ∧ I 19 3 = nI q.1.1.length ∧ I 19 5 = nI q.2.1 ∧ (if I 19 5 = 0 then I 19 6 else -1000000) = rvF q) ↔ sameF q r = true := by
  cases r with
  | none =>
    constructor
    · intro z; exact absurd (z.1.symm.trans h) (by decide)
    · intro z; cases z
  | some p =>
    obtain ⟨h1, h2⟩ := h
    have pl := h1.2.2.2.2.2.2.1
    have pf := h1.2.2.2.2.2.2.2.2.2
    have e1 := nI_eq (a := p.1.1.length) (b := q.1.1.length) (by omega) (by omega)
    have e2 := nI_eq (a := p.2.1) (b := q.2.1) (by omega) (by omega)
    have e3 := nI_eq (a := p.2.1) (b := 0) (by omega) (by omega)
    have hz : (if I 19 5 = 0 then I 19 6 else -1000000) = rvF p := by
      unfold rvF
      by_cases z : p.2.1 = 0
      · rw [if_pos z, if_pos (by rw [h1.2.2.1, z]; rfl)]; exact h2 z
      · rw [if_neg z, if_neg (by rw [h1.2.2.1]; exact fun y => z (e3.mp y))]
    rw [hz, h1.1, h1.2.2.1]
    have hs : sameF q (some p) = true ↔ (p.1.1.length = q.1.1.length ∧ p.2.1 = q.2.1 ∧ (¬ p.2.1 = 0 ∨ p.2.2 = q.2.2)) := by
      simp [sameF, and_assoc]
    rw [hs]
    constructor
    · rintro ⟨-, g1, g2, g3⟩
      refine ⟨e1.mp g1, e2.mp g2, ?_⟩
      by_cases z : p.2.1 = 0
      · have z2 : q.2.1 = 0 := (e2.mp g2) ▸ z
        rw [rvF, rvF, if_pos z, if_pos z2] at g3
        exact Or.inr g3
      · exact Or.inl z
    · rintro ⟨g1, g2, g3⟩
      refine ⟨h1.2.2.2.1, e1.mpr g1, e2.mpr g2, ?_⟩
      unfold rvF
      rw [← g2]
      by_cases z : p.2.1 = 0
      · rw [if_pos z, if_pos z]; exact g3.resolve_left (fun y => y z)
      · rw [if_neg z, if_neg z]
/-- scratch alone is changed: the trial weave, the run -/
def FrT (I J : Nat → Nat → Int32) : Prop := ∀ p, p < 10 ∨ 16 ≤ p → p < 19 ∨ 22 ≤ p → J p = I p
theorem FrT.tr {I J K : Nat → Nat → Int32} (h1 : FrT I J) (h2 : FrT J K) : FrT I K := fun p a b => (h2 p a b).trans (h1 p a b)
theorem FrT.c {I J : Nat → Nat → Int32} (h : FrT I J) : FrC I J := fun p hp => h p (by omega) (by omega)

set_option maxRecDepth 100000 in
set_option maxHeartbeats 400000 in
theorem l_rowsThere {d k n0 : Nat} {Z : Zt} {I : Nat → Nat → Int32} {S : Sg} (hr : RepC I S) (hex : G mX6_rowsThere (rmd (d + 1) 0 0) Z n0 36 [.ref 0, .int (nI (smN 8 (fun r => if (S.1 r).isNone = true then 0 else 1))), .int (nI 8)] [] 68 (I, RR k) 0 0) : ∀ (n i : Nat), i + n = 8 → G mX6_rowsThere (rmd (d + 1) 0 0) Z n0 4 [.ref 0, .int (nI (smN i (fun r => if (S.1 r).isNone = true then 0 else 1))), .int (nI i)] [] 68 (I, RR k) 0 0 := by
  intro n
  induction n with
  | zero =>
    intro i hi
    have hi : i = 8 := by omega
    subst hi
    refine g_iload_n (q := 5) dX6_rowsThere_4 rfl rfl ?_
    refine g_bipush (q := 7) (v := nI 8) dX6_rowsThere_5 rfl (by decide) ?_
    refine g_icmp_ge (tgt := 36) (q := 10) dX6_rowsThere_7 (by decide) rfl (fun _ => ?_) (fun c7 => absurd (nI_le (by omega) (by omega)) c7)
    exact hex
  | succ n ih =>
    intro i hi
    have hwa := (rw_at k i (by omega)).1
    refine g_iload_n (q := 5) dX6_rowsThere_4 rfl rfl ?_
    refine g_bipush (q := 7) (v := nI 8) dX6_rowsThere_5 rfl (by decide) ?_
    refine g_icmp_ge (tgt := 36) (q := 10) dX6_rowsThere_7 (by decide) rfl (fun c7 => absurd c7 (nI_ge (by omega) (by omega))) (fun _ => ?_)
    refine g_iload_n (q := 11) dX6_rowsThere_10 rfl rfl ?_
    refine g_aload_n (q := 12) dX6_rowsThere_11 rfl rfl ?_
    refine gf_X6_11 (q := 15) rfl (by first | assumption | rfl | exact hwa.1) (by first | assumption | rfl) dX6_rowsThere_12 rfl ?_
    refine g_iload_n (q := 16) dX6_rowsThere_15 rfl rfl ?_
    refine g_aald (q := 17) (t := 3) (N := 8) (C := RX2) rfl (by decide) (by decide) (fun _ => rfl) (nI_in (by omega) (by decide)) (r := 24 + 2 * i) (by rw [nI_clamp (by omega)]; exact (rw_at k i (by omega)).2) dX6_rowsThere_16 rfl ?_
    refine k_X6_87 (q := 20) rfl (Nat.le_of_ble_eq_true rfl) (by first | assumption | rfl | exact hwa.1) dX6_rowsThere_17 rfl (c_X2_isMissing hwa (fun z17 => ?_) (fun z17 => ?_))
    · have qn : S.1 i = none := (hr.1 i (by omega)).elim (fun w => w.1) (fun ⟨l, z, it, w1, e1, e2, hl, hz, hit⟩ => absurd (e2.symm.trans z17) (nI_neg (by omega)))
      refine g_if_eq (tgt := 27) (q := 23) dX6_rowsThere_20 (by decide) rfl (fun c20 => absurd c20 (by decide)) (fun _ => ?_)
      refine g_iconst (q := 24) (v := nI 0) dX6_rowsThere_23 rfl (by decide) ?_
      refine g_goto (q := 28) dX6_rowsThere_24 (by decide) ?_
      refine g_iadd (q := 29) dX6_rowsThere_28 rfl ?_
      rw [nI_add]
      refine g_istore_n (q := 30) dX6_rowsThere_29 rfl (by decide) rfl rfl ?_
      refine g_iincn (q := 33) dX6_rowsThere_30 rfl rfl (by decide) rfl rfl ?_
      refine g_goto (q := 4) dX6_rowsThere_33 (by decide) ?_
      have hn := ih (i + 1) (by omega)
      rw [smN, if_pos (by rw [qn]; rfl)] at hn
      exact hn
    · obtain ⟨l, z, it, qs, -⟩ : ∃ l z it, S.1 i = some (l, z, it) ∧ _ := (hr.1 i (by omega)).elim (fun w => absurd w.2 z17) id
      refine g_if_eq (tgt := 27) (q := 23) dX6_rowsThere_20 (by decide) rfl (fun _ => ?_) (fun c20 => absurd c20 (by decide))
      refine g_iconst (q := 28) (v := nI 1) dX6_rowsThere_27 rfl (by decide) ?_
      refine g_iadd (q := 29) dX6_rowsThere_28 rfl ?_
      rw [nI_add]
      refine g_istore_n (q := 30) dX6_rowsThere_29 rfl (by decide) rfl rfl ?_
      refine g_iincn (q := 33) dX6_rowsThere_30 rfl rfl (by decide) rfl rfl ?_
      refine g_goto (q := 4) dX6_rowsThere_33 (by decide) ?_
      have hn := ih (i + 1) (by omega)
      rw [smN, if_neg (by rw [qs]; exact fun z => by cases z)] at hn
      exact hn
set_option maxRecDepth 100000 in
set_option maxHeartbeats 400000 in
theorem c_X6_rowsThere {d k : Nat} {I : Nat → Nat → Int32} {Q : Option Int32 → Wd → Prop} {S : Sg} (hr : RepC I S) (h : Q (some (nI (smN 8 (fun r => if (S.1 r).isNone = true then 0 else 1)))) (I, RR k)) : Ex (d + 1) 0 0 mX6_rowsThere [.ref 0] 68 (I, RR k) 68 Q := by
  refine ex_intro (L0 := [.ref 0, .null, .null]) (by decide +kernel) rfl rfl (Nat.le_of_ble_eq_true rfl) rfl ?_
  refine g_iconst (q := 1) (v := nI 0) dX6_rowsThere_0 rfl (by decide) ?_
  refine g_istore_n (q := 2) dX6_rowsThere_1 rfl (by decide) rfl rfl ?_
  refine g_iconst (q := 3) (v := nI 0) dX6_rowsThere_2 rfl (by decide) ?_
  refine g_istore_n (q := 4) dX6_rowsThere_3 rfl (by decide) rfl rfl ?_
  refine l_rowsThere hr ?_ 8 0 rfl
  refine g_iload_n (q := 37) dX6_rowsThere_36 rfl rfl ?_
  refine g_iret rfl dX6_rowsThere_37 (Nat.le_refl _) (Nat.le_refl _) ?_
  exact h
set_option maxRecDepth 100000 in
set_option maxHeartbeats 400000 in
theorem c_X4_size {d k : Nat} {I : Nat → Nat → Int32} {Q : Option Int32 → Wd → Prop}  (h : Q (some (I 2 1)) (I, RR k)) : Ex d 0 0 mX4_size [.ref 2] 68 (I, RR k) 68 Q := by
  refine ex_intro (L0 := [.ref 2]) (by decide +kernel) rfl rfl (Nat.le_of_ble_eq_true rfl) rfl ?_
  refine g_aload_n (q := 1) dX4_size_0 rfl rfl ?_
  refine gf_X4_15 (q := 4) rfl (by first | assumption | rfl) dX4_size_1 rfl ?_
  refine g_iret rfl dX4_size_4 (Nat.le_refl _) (Nat.le_refl _) ?_
  exact h
set_option maxRecDepth 100000 in
set_option maxHeartbeats 400000 in
theorem c_X6_count {d k : Nat} {I : Nat → Nat → Int32} {Q : Option Int32 → Wd → Prop} {S : Sg} {w : Int32} (hk : k = 4 ∨ k = 10) (hr : RepC I S) (h : ∀ I2 k2, RepC I2 (countS S w).2 → FrC I I2 → (k2 = 4 ∨ k2 = 10) → Q (some (countS S w).1) (I2, RR k2)) : Ex (d + 2) 0 0 mX6_count [.ref 0, .int w] 68 (I, RR k) 68 Q := by
  have hC : CRep I 4 (gv S) := hr.2.2.2.2.1.1
  have hV : VOk (gv S) := hr.2.2.2.2.1.2
  obtain ⟨v1, v2, v3, v4⟩ := id hV
  have hW := wv4 k
  refine ex_intro (L0 := [.ref 0, .int w]) (by decide +kernel) rfl rfl (Nat.le_of_ble_eq_true rfl) rfl ?_
  refine g_iload_n (q := 1) dX6_count_0 rfl rfl ?_
  by_cases e0 : w = nI 0
  · subst e0
    refine g_tabIn (q := 0) (tgt := 40) (off := 39) dX6_count_1 (by decide) (by decide) (by decide) (by decide) ?_
    refine g_aload_n (q := 41) dX6_count_40 rfl rfl ?_
    refine k_X6_274 (q := 44) rfl (Nat.le_of_ble_eq_true rfl) (by first | assumption | rfl) dX6_count_41 rfl (c_X6_rowsThere hr ?_)
    refine g_iret rfl dX6_count_44 (Nat.le_refl _) (Nat.le_refl _) ?_
    exact h I k hr FrC.rf hk
  · by_cases e1 : w = nI 1
    · subst e1
      refine g_tabIn (q := 0) (tgt := 45) (off := 44) dX6_count_1 (by decide) (by decide) (by decide) (by decide) ?_
      refine g_aload_n (q := 46) dX6_count_45 rfl rfl ?_
      refine gf_X6_25 (q := 49) rfl (by first | assumption | rfl) (by first | assumption | rfl) dX6_count_46 rfl ?_
      refine k_X6_131 (q := 52) rfl (Nat.le_of_ble_eq_true rfl) (by first | assumption | rfl) dX6_count_49 rfl (c_X5_methods hW ?_)
      rw [hC.1]
      refine g_iret rfl dX6_count_52 (Nat.le_refl _) (Nat.le_refl _) ?_
      exact h I k hr FrC.rf hk
    · by_cases e2 : w = nI 2
      · subst e2
        refine g_tabIn (q := 0) (tgt := 53) (off := 52) dX6_count_1 (by decide) (by decide) (by decide) (by decide) ?_
        refine g_aload_n (q := 54) dX6_count_53 rfl rfl ?_
        refine gf_X6_25 (q := 57) rfl (by first | assumption | rfl) (by first | assumption | rfl) dX6_count_54 rfl ?_
        refine k_X6_229 (q := 60) rfl (Nat.le_of_ble_eq_true rfl) (by first | assumption | rfl) dX6_count_57 rfl (c_X5_adviceCount hW ?_)
        rw [hC.2.1]
        refine g_iret rfl dX6_count_60 (Nat.le_refl _) (Nat.le_refl _) ?_
        exact h I k hr FrC.rf hk
      · by_cases e3 : w = nI 3
        · subst e3
          refine g_tabIn (q := 0) (tgt := 61) (off := 60) dX6_count_1 (by decide) (by decide) (by decide) (by decide) ?_
          refine g_aload_n (q := 62) dX6_count_61 rfl rfl ?_
          refine gf_X6_25 (q := 65) rfl (by first | assumption | rfl) (by first | assumption | rfl) dX6_count_62 rfl ?_
          refine k_X6_277 (q := 68) rfl (Nat.le_of_ble_eq_true rfl) (by first | assumption | rfl) dX6_count_65 rfl (c_X5_statements hW hC hV ?_)
          refine g_iret rfl dX6_count_68 (Nat.le_refl _) (Nat.le_refl _) ?_
          exact h I k hr FrC.rf hk
        · by_cases e4 : w = nI 4
          · subst e4
            refine g_tabIn (q := 0) (tgt := 69) (off := 68) dX6_count_1 (by decide) (by decide) (by decide) (by decide) ?_
            refine g_aload_n (q := 70) dX6_count_69 rfl rfl ?_
            refine gf_X6_39 (q := 73) rfl (by first | assumption | rfl) (by first | assumption | rfl) dX6_count_70 rfl ?_
            refine k_X6_187 (q := 76) rfl (Nat.le_of_ble_eq_true rfl) (by first | assumption | rfl) dX6_count_73 rfl (c_X0_size ?_)
            rw [hr.2.2.2.2.2.1.1]
            refine g_iret rfl dX6_count_76 (Nat.le_refl _) (Nat.le_refl _) ?_
            exact h I k hr FrC.rf hk
          · by_cases e5 : w = nI 5
            · subst e5
              refine g_tabIn (q := 0) (tgt := 77) (off := 76) dX6_count_1 (by decide) (by decide) (by decide) (by decide) ?_
              refine g_aload_n (q := 78) dX6_count_77 rfl rfl ?_
              refine gf_X6_18 (q := 81) rfl (by first | assumption | rfl) (by first | assumption | rfl) dX6_count_78 rfl ?_
              refine k_X6_116 (q := 84) rfl (Nat.le_of_ble_eq_true rfl) (by first | assumption | rfl) dX6_count_81 rfl (c_X4_size ?_)
              rw [hr.2.2.1.1]
              refine g_iret rfl dX6_count_84 (Nat.le_refl _) (Nat.le_refl _) ?_
              exact h I k hr FrC.rf hk
            · refine g_tabOut (q := 0) (tgt := 85) dX6_count_1 (sw_out (n := 5) (by decide) (fun j hj => by have : j = 0 ∨ j = 1 ∨ j = 2 ∨ j = 3 ∨ j = 4 ∨ j = 5 := (by omega); rcases this with rfl | rfl | rfl | rfl | rfl | rfl <;> assumption)) (by decide) ?_
              refine lc_X6_75 (q := 87) rfl dX6_count_85 rfl ?_
              refine g_iret rfl dX6_count_87 (Nat.le_refl _) (Nat.le_refl _) ?_
              have h2 := h I k
              rw [countS, if_neg (show ¬ w = 0 from e0), if_neg e1, if_neg e2, if_neg e3, if_neg e4, if_neg e5] at h2
              exact h2 hr FrC.rf hk
set_option maxRecDepth 100000 in
set_option maxHeartbeats 400000 in
theorem l_needed {d m x : Nat} {S : Sg} {q : Rs × Nat × Int32} {I0 : Nat → Nat → Int32} {Q : Option Int32 → Wd → Prop} (hm : m < vnm (gv S)) (hx : x < 10) (hl : q.1.1.length ≤ 99) (hf : q.2.1 < 10) : ∀ (n a : Nat) (I : Nat → Nat → Int32) (k : Nat), a + n = vna (gv S) → (k = 4 ∨ k = 10) → RepC I S → FrC I0 I → (∀ I2 k2, RepC I2 S → FrC I0 I2 → (k2 = 4 ∨ k2 = 10) → Q (some (nI (neededF (gv S) x m q))) (I2, RR k2)) → G mX6_needed (rmd (d + 150) 0 0) (Zm Q 68 68 0 0) 68 76 [.ref 0, .int (nI m), .int (nI x), .int (nI q.1.1.length), .int (nI q.2.1), .int (rvF q), .int (nI (orN a (fun a => if sameF q (enF (setFa (gv S) a 3 0) x m 0 s0) = true then 0 else 1 <<< a))), .int (nI a)] [] 68 (I, RR k) 0 0 := by
  intro n
  induction n with
  | zero =>
    intro a I k ha hk hr hFI h
    have ha : a = vna (gv S) := by omega
    subst ha
    have hC : CRep I 4 (gv S) := hr.2.2.2.2.1.1
    have hV : VOk (gv S) := hr.2.2.2.2.1.2
    obtain ⟨v1, v2, v3, v4⟩ := id hV
    have hW := wv4 k
    refine g_iload (q := 78) dX6_needed_76 rfl rfl ?_
    refine g_aload_n (q := 79) dX6_needed_78 rfl rfl ?_
    refine gf_X6_25 (q := 82) rfl (by first | assumption | rfl) (by first | assumption | rfl) dX6_needed_79 rfl ?_
    refine k_X6_229 (q := 85) rfl (Nat.le_of_ble_eq_true rfl) (by first | assumption | rfl) dX6_needed_82 rfl (c_X5_adviceCount hW ?_)
    rw [hC.2.1]
    refine g_icmp_ge (tgt := 153) (q := 88) dX6_needed_85 (by decide) rfl (fun _ => ?_) (fun c85 => absurd (nI_le (by omega) (by omega)) c85)
    refine g_iload (q := 155) dX6_needed_153 rfl rfl ?_
    refine g_iret rfl dX6_needed_155 (Nat.le_refl _) (Nat.le_refl _) ?_
    exact h I k hr hFI hk
  | succ n ih =>
    intro a I k ha hk hr hFI h
    have hC : CRep I 4 (gv S) := hr.2.2.2.2.1.1
    have hV : VOk (gv S) := hr.2.2.2.2.1.2
    obtain ⟨v1, v2, v3, v4⟩ := id hV
    have hW := wv4 k
    have hna : a < vna (gv S) := by omega
    have hVa : VOk (setFa (gv S) a 3 0) := VOk_setFa hV ⟨fun z => absurd z (by decide), fun z => absurd z (by decide), fun z => absurd z (by decide), fun _ => by decide, fun z => absurd z (by decide), fun z => absurd z (by decide)⟩
    have hCa : CRep (uI (tkI I 10 4) (10 + 5) (a * 6 + 3) (nI 0)) 10 (setFa (gv S) a 3 0) := CRep_setFa (CRep_tkI hC hV (by omega)) (by decide)
    refine g_iload (q := 78) dX6_needed_76 rfl rfl ?_
    refine g_aload_n (q := 79) dX6_needed_78 rfl rfl ?_
    refine gf_X6_25 (q := 82) rfl (by first | assumption | rfl) (by first | assumption | rfl) dX6_needed_79 rfl ?_
    refine k_X6_229 (q := 85) rfl (Nat.le_of_ble_eq_true rfl) (by first | assumption | rfl) dX6_needed_82 rfl (c_X5_adviceCount hW ?_)
    rw [hC.2.1]
    refine g_icmp_ge (tgt := 153) (q := 88) dX6_needed_85 (by decide) rfl (fun c85 => absurd c85 (nI_ge (by omega) (by omega))) (fun _ => ?_)
    refine g_aload_n (q := 89) dX6_needed_88 rfl rfl ?_
    refine gf_X6_29 (q := 92) rfl (by first | assumption | rfl) (by first | assumption | rfl) dX6_needed_89 rfl ?_
    refine g_aload_n (q := 93) dX6_needed_92 rfl rfl ?_
    refine gf_X6_25 (q := 96) rfl (by first | assumption | rfl) (by first | assumption | rfl) dX6_needed_93 rfl ?_
    refine k_X6_126 (q := 99) rfl (Nat.le_of_ble_eq_true rfl) (by first | assumption | rfl) dX6_needed_96 rfl (c_X5_take (wv10 k) hW (by omega) ?_)
    refine g_aload_n (q := 100) dX6_needed_99 rfl rfl ?_
    refine gf_X6_29 (q := 103) rfl (by first | assumption | rfl) (by first | assumption | rfl) dX6_needed_100 rfl ?_
    refine g_iload (q := 105) dX6_needed_103 rfl rfl ?_
    refine g_iconst (q := 106) (v := nI 3) dX6_needed_105 rfl (by decide) ?_
    refine g_iconst (q := 107) (v := nI 0) dX6_needed_106 rfl (by decide) ?_
    refine k_X6_232 (q := 110) rfl (Nat.le_of_ble_eq_true rfl) (by first | assumption | rfl) dX6_needed_107 rfl (c_X5_putFact (wv10 k) (by omega) (by omega) ?_)
    refine g_aload_n (q := 111) dX6_needed_110 rfl rfl ?_
    refine gf_X6_48 (q := 114) rfl (by first | assumption | rfl) (by first | assumption | rfl) dX6_needed_111 rfl ?_
    refine g_aload_n (q := 115) dX6_needed_114 rfl rfl ?_
    refine gf_X6_29 (q := 118) rfl (by first | assumption | rfl) (by first | assumption | rfl) dX6_needed_115 rfl ?_
    refine g_iload_n (q := 119) dX6_needed_118 rfl rfl ?_
    refine g_iload_n (q := 120) dX6_needed_119 rfl rfl ?_
    refine k_X6_203 (q := 123) rfl (Nat.le_of_ble_eq_true rfl) (by first | assumption | rfl) dX6_needed_120 rfl (c_make_at (by omega) (Or.inr rfl) hCa hVa hm hx (fun I2 hF hP => ?_))
    have hT2 : FrT I I2 := fun p g1 g2 => (scr_fr hF p g1 g2).trans ((uI_ne (by omega)).trans (tkI_ne (by omega)))
    have hr2 := hr.scr hT2
    have hF2 := hFI.tr hT2.c
    have hen := ends_iff hP hl hf
    refine g_aload_n (q := 124) dX6_needed_123 rfl rfl ?_
    refine gf_X6_48 (q := 127) rfl (by first | assumption | rfl) (by first | assumption | rfl) dX6_needed_124 rfl ?_
    refine g_iload_n (q := 128) dX6_needed_127 rfl rfl ?_
    refine g_iload (q := 130) dX6_needed_128 rfl rfl ?_
    refine g_iload (q := 132) dX6_needed_130 rfl rfl ?_
    refine k_X6_236 (q := 135) rfl (Nat.le_of_ble_eq_true rfl) (by first | assumption | rfl) dX6_needed_132 rfl (c_X3_endsAs (fun u1 u2 u3 u4 => ?_) (fun z132 => ?_))
    · have hs := hen.mp ⟨u1, u2, u3, u4⟩
      refine g_if_ne (tgt := 147) (q := 138) dX6_needed_135 (by decide) rfl (fun _ => ?_) (fun c135 => absurd c135 (by decide))
      refine g_iincn (q := 150) dX6_needed_147 rfl rfl (by decide) rfl rfl ?_
      refine g_goto (q := 76) dX6_needed_150 (by decide) ?_
      have hn := ih (a + 1) I2 10 (by omega) (Or.inr rfl) hr2 hF2 h
      rw [orN, if_pos hs, Nat.or_zero] at hn
      exact hn
    · have hs : ¬ _ := fun z => z132 (hen.mpr z)
      refine g_if_ne (tgt := 147) (q := 138) dX6_needed_135 (by decide) rfl (fun c135 => absurd c135 (by decide)) (fun _ => ?_)
      refine g_iload (q := 140) dX6_needed_138 rfl rfl ?_
      refine g_iconst (q := 141) (v := nI 1) dX6_needed_140 rfl (by decide) ?_
      refine g_iload (q := 143) dX6_needed_141 rfl rfl ?_
      refine g_ishl (q := 144) dX6_needed_143 rfl ?_
      rw [bit_shG a (by omega)]
      refine g_ior (q := 145) dX6_needed_144 rfl ?_
      rw [bit_orG]
      refine g_istore (q := 147) dX6_needed_145 rfl (by decide) rfl rfl ?_
      refine g_iincn (q := 150) dX6_needed_147 rfl rfl (by decide) rfl rfl ?_
      refine g_goto (q := 76) dX6_needed_150 (by decide) ?_
      have hn := ih (a + 1) I2 10 (by omega) (Or.inr rfl) hr2 hF2 h
      rw [orN, if_neg hs] at hn
      exact hn
set_option maxRecDepth 100000 in
set_option maxHeartbeats 400000 in
theorem c_X6_needed {d k : Nat} {I : Nat → Nat → Int32} {Q : Option Int32 → Wd → Prop} {S : Sg} {m x : Int32} (hk : k = 4 ∨ k = 10) (hr : RepC I S) (h : ∀ I2 k2, RepC I2 (neededS S m x).2 → FrC I I2 → (k2 = 4 ∨ k2 = 10) → Q (some (neededS S m x).1) (I2, RR k2)) : Ex (d + 150) 0 0 mX6_needed [.ref 0, .int m, .int x] 68 (I, RR k) 68 Q := by
  have hC : CRep I 4 (gv S) := hr.2.2.2.2.1.1
  have hV : VOk (gv S) := hr.2.2.2.2.1.2
  obtain ⟨v1, v2, v3, v4⟩ := id hV
  have hW := wv4 k
  refine ex_intro (L0 := [.ref 0, .int m, .int x, .null, .null, .null, .null, .null]) (by decide +kernel) rfl rfl (Nat.le_of_ble_eq_true rfl) rfl ?_
  refine g_aload_n (q := 1) dX6_needed_0 rfl rfl ?_
  refine g_iload_n (q := 2) dX6_needed_1 rfl rfl ?_
  refine k_X6_156 (q := 5) rfl (Nat.le_of_ble_eq_true rfl) (by first | assumption | rfl) dX6_needed_2 rfl (c_X6_isMethod hC (fun z2 => ?_) (fun z2 => ?_))
  · refine g_if_eq (tgt := 15) (q := 8) dX6_needed_5 (by decide) rfl (fun c5 => absurd c5 (by decide)) (fun _ => ?_)
    refine g_iload_n (q := 9) dX6_needed_8 rfl rfl ?_
    refine k_X6_200 (q := 12) rfl (Nat.le_of_ble_eq_true rfl) dX6_needed_9 rfl (c_X6_isArgument (fun z9 => ?_) (fun z9 => ?_))
    · refine g_if_ne (tgt := 18) (q := 15) dX6_needed_12 (by decide) rfl (fun _ => ?_) (fun c12 => absurd c12 (by decide))
      have y2 := z2
      have y9 := z9
      obtain ⟨m, hm, rfl⟩ := in1_nat (by omega) z2
      obtain ⟨x, hx, rfl⟩ := inR_nat (by decide) z9
      rw [neededS, if_pos y2, if_pos y9, nI_clamp (by omega), nI_clamp (by omega)] at h
      refine g_aload_n (q := 19) dX6_needed_18 rfl rfl ?_
      refine gf_X6_48 (q := 22) rfl (by first | assumption | rfl) (by first | assumption | rfl) dX6_needed_19 rfl ?_
      refine g_aload_n (q := 23) dX6_needed_22 rfl rfl ?_
      refine gf_X6_25 (q := 26) rfl (by first | assumption | rfl) (by first | assumption | rfl) dX6_needed_23 rfl ?_
      refine g_iload_n (q := 27) dX6_needed_26 rfl rfl ?_
      refine g_iload_n (q := 28) dX6_needed_27 rfl rfl ?_
      refine k_X6_203 (q := 31) rfl (Nat.le_of_ble_eq_true rfl) (by first | assumption | rfl) dX6_needed_28 rfl (c_make_at (by omega) (Or.inl rfl) hC hV hm (by omega) (fun I2 hF hP => ?_))
      have hr2 := hr.scr (scr_fr hF)
      cases hres : enF (gv S) x m 0 s0 with
      | none =>
        rw [hres] at hP h
        refine g_aload_n (q := 32) dX6_needed_31 rfl rfl ?_
        refine gf_X6_48 (q := 35) rfl (by first | assumption | rfl) (by first | assumption | rfl) dX6_needed_32 rfl ?_
        refine k_X6_206 (q := 38) rfl (Nat.le_of_ble_eq_true rfl) (by first | assumption | rfl) dX6_needed_35 rfl (c_X3_isFull (fun _ _ => ?_) (fun z => absurd (z.symm.trans hP) (by decide)) (Or.inr hP))
        · refine g_if_eq (tgt := 44) (q := 41) dX6_needed_38 (by decide) rfl (fun c38 => absurd c38 (by decide)) (fun _ => ?_)
          refine lc_X6_117 (q := 43) rfl dX6_needed_41 rfl ?_
          refine g_iret rfl dX6_needed_43 (Nat.le_refl _) (Nat.le_refl _) ?_
          exact h I2 4 hr2 (frc_run hF) (Or.inl rfl)
      | some q =>
        rw [hres] at hP h
        dsimp only at h
        have hrv : (if I2 19 5 = 0 then I2 19 6 else -1000000) = rvF q := by
          have hfz : I2 19 5 = 0 ↔ q.2.1 = 0 := by rw [hP.1.2.2.1]; exact nI_eq (b := 0) (by have := hP.1.2.2.2.2.2.2.2.2.2; omega) (by omega)
          unfold rvF
          by_cases z : q.2.1 = 0
          · rw [if_pos z, if_pos (hfz.mpr z)]; exact hP.2 z
          · rw [if_neg z, if_neg (fun y => z (hfz.mp y))]
        refine g_aload_n (q := 32) dX6_needed_31 rfl rfl ?_
        refine gf_X6_48 (q := 35) rfl (by first | assumption | rfl) (by first | assumption | rfl) dX6_needed_32 rfl ?_
        refine k_X6_206 (q := 38) rfl (Nat.le_of_ble_eq_true rfl) (by first | assumption | rfl) dX6_needed_35 rfl (c_X3_isFull (fun _ z => absurd (hP.1.2.2.2.1.symm.trans z) (by decide)) (fun _ => ?_) (Or.inl hP.1.2.2.2.1))
        · refine g_if_eq (tgt := 44) (q := 41) dX6_needed_38 (by decide) rfl (fun _ => ?_) (fun c38 => absurd c38 (by decide))
          refine g_aload_n (q := 45) dX6_needed_44 rfl rfl ?_
          refine gf_X6_48 (q := 48) rfl (by first | assumption | rfl) (by first | assumption | rfl) dX6_needed_45 rfl ?_
          refine k_X6_209 (q := 51) rfl (Nat.le_of_ble_eq_true rfl) (by first | assumption | rfl) dX6_needed_48 rfl (c_X3_size ?_)
          rw [hP.1.1]
          refine g_istore_n (q := 52) dX6_needed_51 rfl (by decide) rfl rfl ?_
          refine g_aload_n (q := 53) dX6_needed_52 rfl rfl ?_
          refine gf_X6_48 (q := 56) rfl (by first | assumption | rfl) (by first | assumption | rfl) dX6_needed_53 rfl ?_
          refine k_X6_210 (q := 59) rfl (Nat.le_of_ble_eq_true rfl) (by first | assumption | rfl) dX6_needed_56 rfl (c_X3_failure ?_)
          rw [hP.1.2.2.1]
          refine g_istore (q := 61) dX6_needed_59 rfl (by decide) rfl rfl ?_
          refine g_aload_n (q := 62) dX6_needed_61 rfl rfl ?_
          refine gf_X6_48 (q := 65) rfl (by first | assumption | rfl) (by first | assumption | rfl) dX6_needed_62 rfl ?_
          refine k_X6_213 (q := 68) rfl (Nat.le_of_ble_eq_true rfl) (by first | assumption | rfl) dX6_needed_65 rfl (c_X3_returned ?_)
          rw [hrv]
          refine g_istore (q := 70) dX6_needed_68 rfl (by decide) rfl rfl ?_
          refine g_iconst (q := 71) (v := nI 0) dX6_needed_70 rfl (by decide) ?_
          refine g_istore (q := 73) dX6_needed_71 rfl (by decide) rfl rfl ?_
          refine g_iconst (q := 74) (v := nI 0) dX6_needed_73 rfl (by decide) ?_
          refine g_istore (q := 76) dX6_needed_74 rfl (by decide) rfl rfl ?_
          exact l_needed hm (by omega) hP.1.2.2.2.2.2.2.1 hP.1.2.2.2.2.2.2.2.2.2 (vna (gv S)) 0 I2 4 (by omega) (Or.inl rfl) hr2 (frc_run hF) h
    · refine g_if_ne (tgt := 18) (q := 15) dX6_needed_12 (by decide) rfl (fun c12 => absurd c12 (by decide)) (fun _ => ?_)
      refine lc_X6_75 (q := 17) rfl dX6_needed_15 rfl ?_
      refine g_iret rfl dX6_needed_17 (Nat.le_refl _) (Nat.le_refl _) ?_
      rw [neededS, if_pos z2, if_neg z9] at h
      exact h I k hr FrC.rf hk
  · refine g_if_eq (tgt := 15) (q := 8) dX6_needed_5 (by decide) rfl (fun _ => ?_) (fun c5 => absurd c5 (by decide))
    refine lc_X6_75 (q := 17) rfl dX6_needed_15 rfl ?_
    refine g_iret rfl dX6_needed_17 (Nat.le_refl _) (Nat.le_refl _) ?_
    rw [neededS, if_neg z2] at h
    exact h I k hr FrC.rf hk
