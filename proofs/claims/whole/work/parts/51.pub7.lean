set_option maxRecDepth 100000 in
set_option maxHeartbeats 400000 in
theorem c_lastTried {d k : Nat} {I : Nat → Nat → Int32} {Q : Option Int32 → Wd → Prop} {w : Nat} {v : Vv} (hC : CRep I 4 v) (hw : w < 3) (h : Q (some (if w = 0 then nI 5 else if w = 1 then nI 10 else nI (vna v) - nI 1)) (I, RR k)) : Ex (d + 1) 0 0 mX6_lastTried [.ref 0, .int (nI w)] 68 (I, RR k) 68 Q := by
  have hW := wv4 k
  refine ex_intro (L0 := [.ref 0, .int (nI w)]) (by decide +kernel) rfl rfl (Nat.le_of_ble_eq_true rfl) rfl ?_
  have h3 : w = 0 ∨ w = 1 ∨ w = 2 := by omega
  refine g_iload_n (q := 1) dX6_lastTried_0 rfl rfl ?_
  rcases h3 with rfl | rfl | rfl
  · refine g_lookup (q := 0) (tgt := 28) (off := 27) dX6_lastTried_1 (by decide) (by decide) (by decide) ?_
    refine g_iconst (q := 29) (v := nI 5) dX6_lastTried_28 rfl (by decide) ?_
    refine g_iret rfl dX6_lastTried_29 (Nat.le_refl _) (Nat.le_refl _) ?_
    exact h
  · refine g_lookup (q := 0) (tgt := 30) (off := 29) dX6_lastTried_1 (by decide) (by decide) (by decide) ?_
    refine g_bipush (q := 32) (v := nI 10) dX6_lastTried_30 rfl (by decide) ?_
    refine g_iret rfl dX6_lastTried_32 (Nat.le_refl _) (Nat.le_refl _) ?_
    exact h
  · refine g_lookup (q := 0) (tgt := 33) (off := 32) dX6_lastTried_1 (by decide) (by decide) (by decide) ?_
    refine g_aload_n (q := 34) dX6_lastTried_33 rfl rfl ?_
    refine gf_X6_25 (q := 37) rfl (by first | assumption | rfl) (by first | assumption | rfl) dX6_lastTried_34 rfl ?_
    refine k_X6_229 (q := 40) rfl (Nat.le_of_ble_eq_true rfl) (by first | assumption | rfl) dX6_lastTried_37 rfl (c_X5_adviceCount hW ?_)
    rw [hC.2.1]
    refine g_iconst (q := 41) (v := nI 1) dX6_lastTried_40 rfl (by decide) ?_
    refine g_isub (q := 42) dX6_lastTried_41 rfl ?_
    refine g_iret rfl dX6_lastTried_42 (Nat.le_refl _) (Nat.le_refl _) ?_
    exact h
/-- the trial weave, as it is tried -/
def tryI (I : Nat → Nat → Int32) (a w y : Nat) : Nat → Nat → Int32 := if w = 0 then uI I (10 + 5) (a * 6 + 5) (nI y) else if w = 1 then uI I (10 + 5) (a * 6 + 3) (nI y) else exP I 10 a y 6
set_option maxRecDepth 100000 in
set_option maxHeartbeats 400000 in
theorem c_tryWith {d k : Nat} {I : Nat → Nat → Int32} {Q : Option Int32 → Wd → Prop} {a w y : Nat} (hw : w < 3) (ha : a < 5) (hy : w = 2 → y < 5) (h : Q none (tryI I a w y, RR k)) : Ex (d + 2) 0 0 mX6_tryWith [.ref 0, .int (nI a), .int (nI w), .int (nI y)] 68 (I, RR k) 68 Q := by
  have hW := wv10 k
  refine ex_intro (L0 := [.ref 0, .int (nI a), .int (nI w), .int (nI y)]) (by decide +kernel) rfl rfl (Nat.le_of_ble_eq_true rfl) rfl ?_
  have h3 : w = 0 ∨ w = 1 ∨ w = 2 := by omega
  refine g_iload_n (q := 1) dX6_tryWith_0 rfl rfl ?_
  rcases h3 with rfl | rfl | rfl
  · refine g_lookup (q := 0) (tgt := 28) (off := 27) dX6_tryWith_1 (by decide) (by decide) (by decide) ?_
    refine g_aload_n (q := 29) dX6_tryWith_28 rfl rfl ?_
    refine gf_X6_29 (q := 32) rfl (by first | assumption | rfl) (by first | assumption | rfl) dX6_tryWith_29 rfl ?_
    refine g_iload_n (q := 33) dX6_tryWith_32 rfl rfl ?_
    refine g_iconst (q := 34) (v := nI 5) dX6_tryWith_33 rfl (by decide) ?_
    refine g_iload_n (q := 35) dX6_tryWith_34 rfl rfl ?_
    refine k_X6_232 (q := 38) rfl (Nat.le_of_ble_eq_true rfl) (by first | assumption | rfl) dX6_tryWith_35 rfl (c_X5_putFact hW ha (by decide) ?_)
    refine g_goto (q := 63) dX6_tryWith_38 (by decide) ?_
    refine g_vret rfl dX6_tryWith_63 (Nat.le_refl _) (Nat.le_refl _) ?_
    exact h
  · refine g_lookup (q := 0) (tgt := 41) (off := 40) dX6_tryWith_1 (by decide) (by decide) (by decide) ?_
    refine g_aload_n (q := 42) dX6_tryWith_41 rfl rfl ?_
    refine gf_X6_29 (q := 45) rfl (by first | assumption | rfl) (by first | assumption | rfl) dX6_tryWith_42 rfl ?_
    refine g_iload_n (q := 46) dX6_tryWith_45 rfl rfl ?_
    refine g_iconst (q := 47) (v := nI 3) dX6_tryWith_46 rfl (by decide) ?_
    refine g_iload_n (q := 48) dX6_tryWith_47 rfl rfl ?_
    refine k_X6_232 (q := 51) rfl (Nat.le_of_ble_eq_true rfl) (by first | assumption | rfl) dX6_tryWith_48 rfl (c_X5_putFact hW ha (by decide) ?_)
    refine g_goto (q := 63) dX6_tryWith_51 (by decide) ?_
    refine g_vret rfl dX6_tryWith_63 (Nat.le_refl _) (Nat.le_refl _) ?_
    exact h
  · refine g_lookup (q := 0) (tgt := 54) (off := 53) dX6_tryWith_1 (by decide) (by decide) (by decide) ?_
    refine g_aload_n (q := 55) dX6_tryWith_54 rfl rfl ?_
    refine gf_X6_29 (q := 58) rfl (by first | assumption | rfl) (by first | assumption | rfl) dX6_tryWith_55 rfl ?_
    refine g_iload_n (q := 59) dX6_tryWith_58 rfl rfl ?_
    refine g_iload_n (q := 60) dX6_tryWith_59 rfl rfl ?_
    refine k_X6_148 (q := 63) rfl (Nat.le_of_ble_eq_true rfl) (by first | assumption | rfl) dX6_tryWith_60 rfl (c_X5_exchange hW ha (hy rfl) ?_)
    refine g_vret rfl dX6_tryWith_63 (Nat.le_refl _) (Nat.le_refl _) ?_
    exact h
theorem tryI_ne {I : Nat → Nat → Int32} {a w y p : Nat} (h : p ≠ 15) : tryI I a w y p = I p := by
  unfold tryI
  split
  · exact uI_ne h
  · split
    · exact uI_ne h
    · funext j; unfold exP; rw [if_neg (fun z => h z.1)]
def tok (v : Vv) (w y : Nat) : Prop := (w = 0 → 1 ≤ y ∧ y < 6) ∧ (w = 1 → y < 11) ∧ (w = 2 → y < vna v)
theorem tryI_rep {I : Nat → Nat → Int32} {v : Vv} {a w y : Nat} (h : CRep I 10 v) (ha : a < vna v) (hw : w < 3) (hy : tok v w y) : CRep (tryI I a w y) 10 (tryF v a w y) := by
  unfold tryI tryF
  split
  · exact CRep_setFa h (by decide)
  · split
    · exact CRep_setFa h (by decide)
    · exact CRep_exV h ha (hy.2.2 (by omega))
theorem tryF_ok {v : Vv} {a w y : Nat} (h : VOk v) (ha : a < vna v) (hw : w < 3) (hy : tok v w y) : VOk (tryF v a w y) := by
  unfold tryF
  split
  · next e => exact VOk_setFa h ⟨fun z => absurd z (by decide), fun z => absurd z (by decide), fun z => absurd z (by decide), fun z => absurd z (by decide), fun z => absurd z (by decide), fun _ => hy.1 e⟩
  · split
    · next e => exact VOk_setFa h ⟨fun z => absurd z (by decide), fun z => absurd z (by decide), fun z => absurd z (by decide), fun _ => hy.2.1 e, fun z => absurd z (by decide), fun z => absurd z (by decide)⟩
    · exact VOk_exV h ha (hy.2.2 (by omega))
theorem tryF_nm (v : Vv) (a w y : Nat) : vnm (tryF v a w y) = vnm v := by
  unfold tryF
  split
  · rfl
  · split <;> rfl
theorem seen_iff {I : Nat → Nat → Int32} {b z : Nat} {it : Nat → Int32} {p : Rs × Nat × Int32} (hit : ∀ j, j < z → I (b + 1) j = it j) : (z ≤ p.1.1.length ∧ ∀ j, j < z → nI (p.1.1.getD j 0) = I (b + 1) j) ↔ seenF z it (some p) = true := by
  simp only [seenF, Bool.and_eq_true, decide_eq_true_eq, List.all_eq_true, List.mem_range]
  constructor
  · rintro ⟨h1, h2⟩
    exact ⟨h1, fun j hj => by rw [h2 j hj, hit j hj]⟩
  · rintro ⟨h1, h2⟩
    exact ⟨h1, fun j hj => by rw [h2 j hj, hit j hj]⟩
set_option maxRecDepth 100000 in
set_option maxHeartbeats 400000 in
theorem l_fits {d a m x r w lo N l z : Nat} {it : Nat → Int32} {S : Sg} {I0 : Nat → Nat → Int32} {Q : Option Int32 → Wd → Prop} (ha : a < vna (gv S)) (hm : m < vnm (gv S)) (hx : x < 10) (hr8 : r < 8) (hw : w < 3) (hq : S.1 r = some (l, z, it)) (hz0 : ¬ z = 0) (hlo : lo = if w = 0 then 1 else 0) (hN : N = if w = 0 then 5 else if w = 1 then 11 else vna (gv S)) : ∀ (n i : Nat) (I : Nat → Nat → Int32) (k : Nat), i + n = N → (k = 4 ∨ k = 10) → RepC I S → FrC I0 I → (∀ I2 k2, RepC I2 (S.1, 0, S.2.2) → FrC I0 I2 → (k2 = 4 ∨ k2 = 10) → Q (some (nI (fitsF (gv S) a m x w z it lo N))) (I2, RR k2)) → G mX6_fits (rmd (d + 150) 0 0) (Zm Q 68 68 0 0) 68 101 [.ref 0, .int (nI a), .int (nI m), .int (nI x), .int (nI r), .int (nI w), .int (nI lo), .int (nI (orN i (fun i => if seenF z it (enF (tryF (gv S) a w (lo + i)) x m 0 s0) = true then 1 <<< (lo + i) else 0))), .int (nI (lo + i))] [] 68 (I, RR k) 0 0 := by
  intro n
  induction n with
  | zero =>
    intro i I k hi hk hr hFI h
    have hi : i = N := by omega
    subst hi
    have hC : CRep I 4 (gv S) := hr.2.2.2.2.1.1
    have hV : VOk (gv S) := hr.2.2.2.2.1.2
    obtain ⟨v1, v2, v3, v4⟩ := id hV
    have hW := wv4 k
    have hlast : (if w = 0 then nI 5 else if w = 1 then nI 10 else nI (vna (gv S)) - nI 1) = nI (lo + i - 1) := by
      rw [hlo, hN]
      by_cases e0 : w = 0
      · simp only [if_pos e0]
      · by_cases e1 : w = 1
        · simp only [if_neg e0, if_pos e1]
        · simp only [if_neg e0, if_neg e1]
          have : vna (gv S) = vna (gv S) - 1 + 1 := by omega
          rw [this]
          exact (nI_pred _).trans (by congr 1; omega)
    have hN16 : lo + i < 16 := by
      rw [hlo, hN]
      split
      · decide
      · split
        · decide
        · omega
    have hN1 : 0 < i := by
      rw [hN]
      split
      · decide
      · split
        · decide
        · omega
    refine g_iload (q := 103) dX6_fits_101 rfl rfl ?_
    refine g_aload_n (q := 104) dX6_fits_103 rfl rfl ?_
    refine g_iload (q := 106) dX6_fits_104 rfl rfl ?_
    refine k_X6_239 (q := 109) rfl (Nat.le_of_ble_eq_true rfl) (by first | assumption | rfl) dX6_fits_106 rfl (c_lastTried hC hw ?_)
    rw [hlast]
    refine g_icmp_gt (tgt := 177) (q := 112) dX6_fits_109 (by decide) rfl (fun _ => ?_) (fun c109 => absurd (nI_lt (by omega) (by omega)) c109)
    refine g_aload_n (q := 178) dX6_fits_177 rfl rfl ?_
    refine g_iload (q := 180) dX6_fits_178 rfl rfl ?_
    refine k_X6_84 (q := 183) rfl (Nat.le_of_ble_eq_true rfl) (by first | assumption | rfl) dX6_fits_180 rfl (c_X6_findNothing ?_)
    refine g_iret rfl dX6_fits_183 (Nat.le_refl _) (Nat.le_refl _) ?_
    exact h _ k (hr.fnd (by decide)) (hFI.tr (FrC.ui (by decide))) hk
  | succ n ih =>
    intro i I k hi hk hr hFI h
    have hC : CRep I 4 (gv S) := hr.2.2.2.2.1.1
    have hV : VOk (gv S) := hr.2.2.2.2.1.2
    obtain ⟨v1, v2, v3, v4⟩ := id hV
    have hW := wv4 k
    have hlast : (if w = 0 then nI 5 else if w = 1 then nI 10 else nI (vna (gv S)) - nI 1) = nI (lo + N - 1) := by
      rw [hlo, hN]
      by_cases e0 : w = 0
      · simp only [if_pos e0]
      · by_cases e1 : w = 1
        · simp only [if_neg e0, if_pos e1]
        · simp only [if_neg e0, if_neg e1]
          have : vna (gv S) = vna (gv S) - 1 + 1 := by omega
          rw [this]
          exact (nI_pred _).trans (by congr 1; omega)
    have hN16 : lo + N < 16 := by
      rw [hlo, hN]
      split
      · decide
      · split
        · decide
        · omega
    have hN1 : 0 < N := by
      rw [hN]
      split
      · decide
      · split
        · decide
        · omega
    have hty : tok (gv S) w (lo + i) := by
      refine ⟨fun e => ?_, fun e => ?_, fun e => ?_⟩
      · rw [if_pos e] at hlo hN; omega
      · rw [if_neg (by omega), if_pos e] at hN; rw [if_neg (by omega)] at hlo; omega
      · rw [if_neg (by omega), if_neg (by omega)] at hN; rw [if_neg (by omega)] at hlo; omega
    have hCt := tryI_rep (CRep_tkI (b := 10) hC hV (by omega)) ha hw hty
    have hVt := tryF_ok hV ha hw hty
    have hmt : m < vnm (tryF (gv S) a w (lo + i)) := by rw [tryF_nm]; exact hm
    refine g_iload (q := 103) dX6_fits_101 rfl rfl ?_
    refine g_aload_n (q := 104) dX6_fits_103 rfl rfl ?_
    refine g_iload (q := 106) dX6_fits_104 rfl rfl ?_
    refine k_X6_239 (q := 109) rfl (Nat.le_of_ble_eq_true rfl) (by first | assumption | rfl | exact hwa.1) dX6_fits_106 rfl (c_lastTried hC hw ?_)
    rw [hlast]
    refine g_icmp_gt (tgt := 177) (q := 112) dX6_fits_109 (by decide) rfl (fun c109 => absurd c109 (nI_nlt (by omega) (by omega))) (fun _ => ?_)
    refine g_aload_n (q := 113) dX6_fits_112 rfl rfl ?_
    refine gf_X6_29 (q := 116) rfl (by first | assumption | rfl | exact hwa.1) (by first | assumption | rfl) dX6_fits_113 rfl ?_
    refine g_aload_n (q := 117) dX6_fits_116 rfl rfl ?_
    refine gf_X6_25 (q := 120) rfl (by first | assumption | rfl | exact hwa.1) (by first | assumption | rfl) dX6_fits_117 rfl ?_
    refine k_X6_126 (q := 123) rfl (Nat.le_of_ble_eq_true rfl) (by first | assumption | rfl | exact hwa.1) dX6_fits_120 rfl (c_X5_take (wv10 k) hW (by omega) ?_)
    refine g_aload_n (q := 124) dX6_fits_123 rfl rfl ?_
    refine g_iload_n (q := 125) dX6_fits_124 rfl rfl ?_
    refine g_iload (q := 127) dX6_fits_125 rfl rfl ?_
    refine g_iload (q := 129) dX6_fits_127 rfl rfl ?_
    refine k_X6_242 (q := 132) rfl (Nat.le_of_ble_eq_true rfl) (by first | assumption | rfl | exact hwa.1) dX6_fits_129 rfl (c_tryWith hw (by omega) (fun e => by have := hty.2.2 e; omega) ?_)
    refine g_aload_n (q := 133) dX6_fits_132 rfl rfl ?_
    refine gf_X6_48 (q := 136) rfl (by first | assumption | rfl | exact hwa.1) (by first | assumption | rfl) dX6_fits_133 rfl ?_
    refine g_aload_n (q := 137) dX6_fits_136 rfl rfl ?_
    refine gf_X6_29 (q := 140) rfl (by first | assumption | rfl | exact hwa.1) (by first | assumption | rfl) dX6_fits_137 rfl ?_
    refine g_iload_n (q := 141) dX6_fits_140 rfl rfl ?_
    refine g_iload_n (q := 142) dX6_fits_141 rfl rfl ?_
    refine k_X6_203 (q := 145) rfl (Nat.le_of_ble_eq_true rfl) (by first | assumption | rfl | exact hwa.1) dX6_fits_142 rfl (c_make_at (by omega) (Or.inr rfl) hCt hVt hmt hx (fun I2 hF hP => ?_))
    have hT2 : FrT I I2 := fun p g1 g2 => (scr_fr hF p g1 g2).trans ((tryI_ne (by omega)).trans (tkI_ne (by omega)))
    have hr2 := hr.scr hT2
    have hF2 := hFI.tr hT2.c
    have hwa := (rw_at 10 r (by omega)).1
    obtain ⟨e1r, e2r, hlr, hzr, hitr⟩ : I2 (24 + 2 * r) 1 = nI l ∧ I2 (24 + 2 * r) 2 = nI z ∧ l < 3 ∧ z ≤ 40 ∧ ∀ j, j < z → I2 (24 + 2 * r + 1) j = it j := by
      rcases hr2.1 r hr8 with ⟨w1, w2⟩ | ⟨l2, z2, it2, w1, w2⟩
      · rw [hq] at w1; cases w1
      · rw [hq] at w1; cases w1; exact w2
    refine g_aload_n (q := 146) dX6_fits_145 rfl rfl ?_
    refine gf_X6_48 (q := 149) rfl (by first | assumption | rfl | exact hwa.1) (by first | assumption | rfl) dX6_fits_146 rfl ?_
    refine g_aload_n (q := 150) dX6_fits_149 rfl rfl ?_
    refine gf_X6_11 (q := 153) rfl (by first | assumption | rfl | exact hwa.1) (by first | assumption | rfl) dX6_fits_150 rfl ?_
    refine g_iload (q := 155) dX6_fits_153 rfl rfl ?_
    refine g_aald (q := 156) (t := 3) (N := 8) (C := RX2) rfl (by decide) (by decide) (fun _ => rfl) (nI_in (by omega) (by decide)) (r := 24 + 2 * r) (by rw [nI_clamp (by omega)]; exact (rw_at 10 r (by omega)).2) dX6_fits_155 rfl ?_
    refine k_X6_245 (q := 159) rfl (Nat.le_of_ble_eq_true rfl) (by first | assumption | rfl | exact hwa.1) dX6_fits_156 rfl (?_)
    have hbw : (seenF z it (enF (tryF (gv S) a w (lo + i)) x m 0 s0) = true → G mX6_fits (rmd (d + 150) 0 0) (Zm Q 68 68 0 0) 68 159 [.ref 0, .int (nI a), .int (nI m), .int (nI x), .int (nI r), .int (nI w), .int (nI lo), .int (nI (orN i (fun i => if seenF z it (enF (tryF (gv S) a w (lo + i)) x m 0 s0) = true then 1 <<< (lo + i) else 0))), .int (nI (lo + i))] [.int (nI 1)] 68 (I2, RR 10) 0 0) → (¬ seenF z it (enF (tryF (gv S) a w (lo + i)) x m 0 s0) = true → G mX6_fits (rmd (d + 150) 0 0) (Zm Q 68 68 0 0) 68 159 [.ref 0, .int (nI a), .int (nI m), .int (nI x), .int (nI r), .int (nI w), .int (nI lo), .int (nI (orN i (fun i => if seenF z it (enF (tryF (gv S) a w (lo + i)) x m 0 s0) = true then 1 <<< (lo + i) else 0))), .int (nI (lo + i))] [.int (nI 0)] 68 (I2, RR 10) 0 0) → Ex (d + 149) 0 0 mX3_beginsWith [.ref 19, .ref (24 + 2 * r)] 68 (I2, RR 10) 68 (fun q w2 => G mX6_fits (rmd (d + 150) 0 0) (Zm Q 68 68 0 0) 68 159 [.ref 0, .int (nI a), .int (nI m), .int (nI x), .int (nI r), .int (nI w), .int (nI lo), .int (nI (orN i (fun i => if seenF z it (enF (tryF (gv S) a w (lo + i)) x m 0 s0) = true then 1 <<< (lo + i) else 0))), .int (nI (lo + i))] (pu q []) 68 w2 0 0) := by
      intro g1 g0
      cases hres : enF (tryF (gv S) a w (lo + i)) x m 0 s0 with
      | none =>
        rw [hres] at hP g0
        exact c_begins_full hwa hP (g0 (fun y => by cases y))
      | some p =>
        rw [hres] at hP g0 g1
        have hsi := seen_iff (p := p) hitr
        exact c_X3_beginsWith hwa e2r hzr hP.1 (fun y1 y2 => g1 (hsi.mp ⟨y1, y2⟩)) (fun y => g0 (fun y2 => y (hsi.mpr y2)))
    refine hbw (fun hs => ?_) (fun hs => ?_)
    · refine g_if_eq (tgt := 171) (q := 162) dX6_fits_159 (by decide) rfl (fun c159 => absurd c159 (by decide)) (fun _ => ?_)
      refine g_iload (q := 164) dX6_fits_162 rfl rfl ?_
      refine g_iconst (q := 165) (v := nI 1) dX6_fits_164 rfl (by decide) ?_
      refine g_iload (q := 167) dX6_fits_165 rfl rfl ?_
      refine g_ishl (q := 168) dX6_fits_167 rfl ?_
      rw [bit_shG _ (by omega)]
      refine g_ior (q := 169) dX6_fits_168 rfl ?_
      rw [bit_orG]
      refine g_istore (q := 171) dX6_fits_169 rfl (by decide) rfl rfl ?_
      refine g_iincn (q := 174) dX6_fits_171 rfl rfl (by decide) rfl rfl ?_
      refine g_goto (q := 101) dX6_fits_174 (by decide) ?_
      have hn := ih (i + 1) I2 10 (by omega) (Or.inr rfl) hr2 hF2 h
      rw [orN, if_pos hs] at hn
      exact hn
    · refine g_if_eq (tgt := 171) (q := 162) dX6_fits_159 (by decide) rfl (fun _ => ?_) (fun c159 => absurd c159 (by decide))
      refine g_iincn (q := 174) dX6_fits_171 rfl rfl (by decide) rfl rfl ?_
      refine g_goto (q := 101) dX6_fits_174 (by decide) ?_
      have hn := ih (i + 1) I2 10 (by omega) (Or.inr rfl) hr2 hF2 h
      rw [orN, if_neg hs, Nat.or_zero] at hn
      exact hn
set_option maxRecDepth 100000 in
set_option maxHeartbeats 400000 in
theorem c_X6_fits {d k : Nat} {I : Nat → Nat → Int32} {Q : Option Int32 → Wd → Prop} {S : Sg} {a m x r w : Int32} (hk : k = 4 ∨ k = 10) (hr : RepC I S) (h : ∀ I2 k2, RepC I2 (fitsS S a m x r w).2 → FrC I I2 → (k2 = 4 ∨ k2 = 10) → Q (some (fitsS S a m x r w).1) (I2, RR k2)) : Ex (d + 150) 0 0 mX6_fits [.ref 0, .int a, .int m, .int x, .int r, .int w] 68 (I, RR k) 68 Q := by
  have hC : CRep I 4 (gv S) := hr.2.2.2.2.1.1
  have hV : VOk (gv S) := hr.2.2.2.2.1.2
  obtain ⟨v1, v2, v3, v4⟩ := id hV
  have hW := wv4 k
  refine ex_intro (L0 := [.ref 0, .int a, .int m, .int x, .int r, .int w, .null, .null, .null]) (by decide +kernel) rfl rfl (Nat.le_of_ble_eq_true rfl) rfl ?_
  refine g_aload_n (q := 1) dX6_fits_0 rfl rfl ?_
  refine g_iload_n (q := 2) dX6_fits_1 rfl rfl ?_
  refine k_X6_134 (q := 5) rfl (Nat.le_of_ble_eq_true rfl) (by first | assumption | rfl | exact hwro.1) dX6_fits_2 rfl (c_X6_isAdvice hC (fun z2 => ?_) (fun z2 => ?_))
  · refine g_if_eq (tgt := 41) (q := 8) dX6_fits_5 (by decide) rfl (fun c5 => absurd c5 (by decide)) (fun _ => ?_)
    refine g_aload_n (q := 9) dX6_fits_8 rfl rfl ?_
    refine g_iload_n (q := 10) dX6_fits_9 rfl rfl ?_
    refine k_X6_156 (q := 13) rfl (Nat.le_of_ble_eq_true rfl) (by first | assumption | rfl | exact hwro.1) dX6_fits_10 rfl (c_X6_isMethod hC (fun z10 => ?_) (fun z10 => ?_))
    · refine g_if_eq (tgt := 41) (q := 16) dX6_fits_13 (by decide) rfl (fun c13 => absurd c13 (by decide)) (fun _ => ?_)
      refine g_iload_n (q := 17) dX6_fits_16 rfl rfl ?_
      refine k_X6_200 (q := 20) rfl (Nat.le_of_ble_eq_true rfl) dX6_fits_17 rfl (c_X6_isArgument (fun z17 => ?_) (fun z17 => ?_))
      · refine g_if_eq (tgt := 41) (q := 23) dX6_fits_20 (by decide) rfl (fun c20 => absurd c20 (by decide)) (fun _ => ?_)
        refine g_iload (q := 25) dX6_fits_23 rfl rfl ?_
        refine k_X6_67 (q := 28) rfl (Nat.le_of_ble_eq_true rfl) dX6_fits_25 rfl (c_X6_isRow (fun z25 => ?_) (fun z25 => ?_))
        · refine g_if_eq (tgt := 41) (q := 31) dX6_fits_28 (by decide) rfl (fun c28 => absurd c28 (by decide)) (fun _ => ?_)
          refine g_iload (q := 33) dX6_fits_31 rfl rfl ?_
          refine g_iconst (q := 34) (v := nI 0) dX6_fits_33 rfl (by decide) ?_
          refine g_iconst (q := 35) (v := nI 2) dX6_fits_34 rfl (by decide) ?_
          refine k_X6_71 (q := 38) rfl (Nat.le_of_ble_eq_true rfl) dX6_fits_35 rfl (c_X6_isWithin (fun z351 z352 => ?_) (fun z35 => ?_))
          · have z35 := And.intro z351 z352
            refine g_if_ne (tgt := 44) (q := 41) dX6_fits_38 (by decide) rfl (fun _ => ?_) (fun c38 => absurd c38 (by decide))
            have y2 := z2
            have y10 := z10
            have y17 := z17
            have y25 := z25
            have y35 := z35
            obtain ⟨a, ha, rfl⟩ := in1_nat (by omega) z2
            obtain ⟨m, hm, rfl⟩ := in1_nat (by omega) z10
            obtain ⟨x, hx, rfl⟩ := inR_nat (by decide) z17
            obtain ⟨ro, hro, rfl⟩ := inR_nat (by decide) z25
            have hwro := (rw_at k ro (by omega)).1
            obtain ⟨w, hw, rfl⟩ := inR_nat (by decide) z35
            rw [fitsS, if_pos y2, if_pos y10, if_pos y17, if_pos y25, if_pos y35, nI_clamp (by omega), nI_clamp (by omega), nI_clamp (by omega), nI_clamp (by omega), nI_clamp (by omega)] at h
            refine g_aload_n (q := 45) dX6_fits_44 rfl rfl ?_
            refine gf_X6_11 (q := 48) rfl (by first | assumption | rfl | exact hwro.1) (by first | assumption | rfl) dX6_fits_45 rfl ?_
            refine g_iload (q := 50) dX6_fits_48 rfl rfl ?_
            refine g_aald (q := 51) (t := 3) (N := 8) (C := RX2) rfl (by decide) (by decide) (fun _ => rfl) (nI_in (by omega) (by decide)) (r := 24 + 2 * ro) (by rw [nI_clamp (by omega)]; exact (rw_at k ro (by omega)).2) dX6_fits_50 rfl ?_
            refine k_X6_87 (q := 54) rfl (Nat.le_of_ble_eq_true rfl) (by first | assumption | rfl | exact hwro.1) dX6_fits_51 rfl (c_X2_isMissing hwro (fun z51 => ?_) (fun z51 => ?_))
            · have qnro : S.1 ro = none := (hr.1 ro (by omega)).elim (fun w => w.1) (fun ⟨l, z, it, w1, e1, e2, hl, hz, hit⟩ => absurd (e2.symm.trans z51) (nI_neg (by omega)))
              refine g_if_eq (tgt := 63) (q := 57) dX6_fits_54 (by decide) rfl (fun c54 => absurd c54 (by decide)) (fun _ => ?_)
              refine g_aload_n (q := 58) dX6_fits_57 rfl rfl ?_
              refine g_iconst (q := 59) (v := nI 1) dX6_fits_58 rfl (by decide) ?_
              refine k_X6_76 (q := 62) rfl (Nat.le_of_ble_eq_true rfl) (by first | assumption | rfl | exact hwro.1) dX6_fits_59 rfl (c_X6_find ?_)
              refine g_iret rfl dX6_fits_62 (Nat.le_refl _) (Nat.le_refl _) ?_
              rw [qnro] at h
              exact h _ _ (hr.fnd (by decide)) (FrC.ui (by decide)) hk
            · obtain ⟨lro, zro, itro, qro, e1ro, e2ro, hlro, hzro, hitro⟩ : ∃ l z it, S.1 ro = some (l, z, it) ∧ I (24 + 2 * ro) 1 = nI l ∧ I (24 + 2 * ro) 2 = nI z ∧ l < 3 ∧ z ≤ 40 ∧ ∀ j, j < z → I (24 + 2 * ro + 1) j = it j := (hr.1 ro (by omega)).elim (fun w => absurd w.2 z51) id
              refine g_if_eq (tgt := 63) (q := 57) dX6_fits_54 (by decide) rfl (fun _ => ?_) (fun c54 => absurd c54 (by decide))
              refine g_aload_n (q := 64) dX6_fits_63 rfl rfl ?_
              refine gf_X6_11 (q := 67) rfl (by first | assumption | rfl | exact hwro.1) (by first | assumption | rfl) dX6_fits_64 rfl ?_
              refine g_iload (q := 69) dX6_fits_67 rfl rfl ?_
              refine g_aald (q := 70) (t := 3) (N := 8) (C := RX2) rfl (by decide) (by decide) (fun _ => rfl) (nI_in (by omega) (by decide)) (r := 24 + 2 * ro) (by rw [nI_clamp (by omega)]; exact (rw_at k ro (by omega)).2) dX6_fits_69 rfl ?_
              refine k_X6_91 (q := 73) rfl (Nat.le_of_ble_eq_true rfl) (by first | assumption | rfl | exact hwro.1) dX6_fits_70 rfl (c_X2_size hwro ?_)
              rw [e2ro]
              refine g_if_ne (tgt := 82) (q := 76) dX6_fits_73 (by decide) rfl (fun c73 => ?_) (fun c73 => ?_)
              · refine g_iload (q := 84) dX6_fits_82 rfl rfl ?_
                refine g_if_ne (tgt := 91) (q := 87) dX6_fits_84 (by decide) rfl (fun c84 => ?_) (fun c84 => ?_)
                · refine g_iconst (q := 92) (v := nI 0) dX6_fits_91 rfl (by decide) ?_
                  refine g_istore (q := 94) dX6_fits_92 rfl (by decide) rfl rfl ?_
                  refine g_iconst (q := 95) (v := nI 0) dX6_fits_94 rfl (by decide) ?_
                  refine g_istore (q := 97) dX6_fits_95 rfl (by decide) rfl rfl ?_
                  refine g_iload (q := 99) dX6_fits_97 rfl rfl ?_
                  refine g_istore (q := 101) dX6_fits_99 rfl (by decide) rfl rfl ?_
                  have hz0 : ¬ zro = 0 := fun e => c73 (by rw [e]; rfl)
                  rw [qro] at h
                  dsimp only at h
                  have e0 := nI_eq (a := w) (b := 0) (by omega) (by omega)
                  have e1 := nI_eq (a := w) (b := 1) (by omega) (by omega)
                  have n0 : ¬ w = 0 := fun y => c84 (e0.mpr y)
                  rw [if_neg hz0, if_neg c84, if_neg c84] at h
                  by_cases y : w = 1
                  · rw [if_pos (e1.mpr y)] at h
                    exact l_fits (lo := 0) (N := 11) ha hm (by omega) (by omega) (by omega) qro hz0 (by rw [if_neg n0]) (by rw [if_neg n0, if_pos y]) 11 0 I k (by omega) hk hr FrC.rf h
                  · rw [if_neg (fun q => y (e1.mp q))] at h
                    exact l_fits (lo := 0) (N := vna (gv S)) ha hm (by omega) (by omega) (by omega) qro hz0 (by rw [if_neg n0]) (by rw [if_neg n0, if_neg y]) (vna (gv S)) 0 I k (by omega) hk hr FrC.rf h
                · refine g_iconst (q := 88) (v := nI 1) dX6_fits_87 rfl (by decide) ?_
                  refine g_goto (q := 92) dX6_fits_88 (by decide) ?_
                  refine g_istore (q := 94) dX6_fits_92 rfl (by decide) rfl rfl ?_
                  refine g_iconst (q := 95) (v := nI 0) dX6_fits_94 rfl (by decide) ?_
                  refine g_istore (q := 97) dX6_fits_95 rfl (by decide) rfl rfl ?_
                  refine g_iload (q := 99) dX6_fits_97 rfl rfl ?_
                  refine g_istore (q := 101) dX6_fits_99 rfl (by decide) rfl rfl ?_
                  have hz0 : ¬ zro = 0 := fun e => c73 (by rw [e]; rfl)
                  rw [qro] at h
                  dsimp only at h
                  have e0 := nI_eq (a := w) (b := 0) (by omega) (by omega)
                  have e1 := nI_eq (a := w) (b := 1) (by omega) (by omega)
                  rw [if_neg hz0, if_pos c84, if_pos c84] at h
                  exact l_fits (lo := 1) (N := 5) ha hm (by omega) (by omega) (by omega) qro hz0 (by rw [if_pos (e0.mp c84)]) (by rw [if_pos (e0.mp c84)]) 5 0 I k (by omega) hk hr FrC.rf h
              · refine g_aload_n (q := 77) dX6_fits_76 rfl rfl ?_
                refine g_iconst (q := 78) (v := nI 2) dX6_fits_77 rfl (by decide) ?_
                refine k_X6_76 (q := 81) rfl (Nat.le_of_ble_eq_true rfl) (by first | assumption | rfl | exact hwro.1) dX6_fits_78 rfl (c_X6_find ?_)
                refine g_iret rfl dX6_fits_81 (Nat.le_refl _) (Nat.le_refl _) ?_
                rw [qro] at h
                dsimp only at h
                rw [if_pos ((nI_eq (b := 0) (by omega) (by omega)).mp c73)] at h
                exact h _ _ (hr.fnd (by decide)) (FrC.ui (by decide)) hk
          · refine g_if_ne (tgt := 44) (q := 41) dX6_fits_38 (by decide) rfl (fun c38 => absurd c38 (by decide)) (fun _ => ?_)
            refine lc_X6_75 (q := 43) rfl dX6_fits_41 rfl ?_
            refine g_iret rfl dX6_fits_43 (Nat.le_refl _) (Nat.le_refl _) ?_
            rw [fitsS, if_pos z2, if_pos z10, if_pos z17, if_pos z25, if_neg z35] at h
            exact h I k hr FrC.rf hk
        · refine g_if_eq (tgt := 41) (q := 31) dX6_fits_28 (by decide) rfl (fun _ => ?_) (fun c28 => absurd c28 (by decide))
          refine lc_X6_75 (q := 43) rfl dX6_fits_41 rfl ?_
          refine g_iret rfl dX6_fits_43 (Nat.le_refl _) (Nat.le_refl _) ?_
          rw [fitsS, if_pos z2, if_pos z10, if_pos z17, if_neg z25] at h
          exact h I k hr FrC.rf hk
      · refine g_if_eq (tgt := 41) (q := 23) dX6_fits_20 (by decide) rfl (fun _ => ?_) (fun c20 => absurd c20 (by decide))
        refine lc_X6_75 (q := 43) rfl dX6_fits_41 rfl ?_
        refine g_iret rfl dX6_fits_43 (Nat.le_refl _) (Nat.le_refl _) ?_
        rw [fitsS, if_pos z2, if_pos z10, if_neg z17] at h
        exact h I k hr FrC.rf hk
    · refine g_if_eq (tgt := 41) (q := 16) dX6_fits_13 (by decide) rfl (fun _ => ?_) (fun c13 => absurd c13 (by decide))
      refine lc_X6_75 (q := 43) rfl dX6_fits_41 rfl ?_
      refine g_iret rfl dX6_fits_43 (Nat.le_refl _) (Nat.le_refl _) ?_
      rw [fitsS, if_pos z2, if_neg z10] at h
      exact h I k hr FrC.rf hk
  · refine g_if_eq (tgt := 41) (q := 8) dX6_fits_5 (by decide) rfl (fun _ => ?_) (fun c5 => absurd c5 (by decide))
    refine lc_X6_75 (q := 43) rfl dX6_fits_41 rfl ?_
    refine g_iret rfl dX6_fits_43 (Nat.le_refl _) (Nat.le_refl _) ?_
    rw [fitsS, if_neg z2] at h
    exact h I k hr FrC.rf hk
