set_option maxRecDepth 100000 in
set_option maxHeartbeats 400000 in
theorem c_X5_fact {d n : Nat} {I : Nat → Nat → Int32} {R : Nat → Nat → Option Nat} {Q : Option Int32 → Wd → Prop} {b a f : Nat} (hW : isWv R n b) (ha : a < 5) (hf : f < 6) (h : Q (some (I (b + 5) (a * 6 + f))) (I, R)) : Ex d 0 0 mX5_fact [.ref b, .int (nI a), .int (nI f)] n (I, R) n Q := by
  obtain ⟨hs, ⟨r0, s0⟩, ⟨r1, s1⟩, ⟨r2, s2⟩, ⟨r3, s3⟩, ⟨r4, s4⟩⟩ := id hW
  refine ex_intro (L0 := [.ref b, .int (nI a), .int (nI f)]) (by decide +kernel) rfl rfl (Nat.le_of_ble_eq_true rfl) rfl ?_
  refine g_aload_n (q := 1) dX5_fact_0 rfl rfl ?_
  refine gf_X5_24 (q := 4) rfl (by first | assumption | rfl) (by first | assumption | rfl) dX5_fact_1 rfl ?_
  refine g_iload_n (q := 5) dX5_fact_4 rfl rfl ?_
  refine g_bipush (q := 7) (v := nI 6) dX5_fact_5 rfl (by decide) ?_
  refine g_imul (q := 8) dX5_fact_7 rfl ?_
  refine g_iload_n (q := 9) dX5_fact_8 rfl rfl ?_
  refine g_iadd (q := 10) dX5_fact_9 rfl ?_
  refine g_ialdn (q := 11) (by first | assumption | rfl) (by repeat' first | apply nI_a | apply nI_m | exact rfl) (by omega) dX5_fact_10 rfl ?_
  refine g_iret rfl dX5_fact_11 (Nat.le_refl _) (Nat.le_refl _) ?_
  exact h
set_option maxRecDepth 100000 in
set_option maxHeartbeats 400000 in
theorem c_X5_putFact {d n : Nat} {I : Nat → Nat → Int32} {R : Nat → Nat → Option Nat} {Q : Option Int32 → Wd → Prop} {b a f : Nat} {v : Int32} (hW : isWv R n b) (ha : a < 5) (hf : f < 6) (h : Q none (uI I (b + 5) (a * 6 + f) v, R)) : Ex d 0 0 mX5_putFact [.ref b, .int (nI a), .int (nI f), .int v] n (I, R) n Q := by
  obtain ⟨hs, ⟨r0, s0⟩, ⟨r1, s1⟩, ⟨r2, s2⟩, ⟨r3, s3⟩, ⟨r4, s4⟩⟩ := id hW
  refine ex_intro (L0 := [.ref b, .int (nI a), .int (nI f), .int v]) (by decide +kernel) rfl rfl (Nat.le_of_ble_eq_true rfl) rfl ?_
  refine g_aload_n (q := 1) dX5_putFact_0 rfl rfl ?_
  refine gf_X5_24 (q := 4) rfl (by first | assumption | rfl) (by first | assumption | rfl) dX5_putFact_1 rfl ?_
  refine g_iload_n (q := 5) dX5_putFact_4 rfl rfl ?_
  refine g_bipush (q := 7) (v := nI 6) dX5_putFact_5 rfl (by decide) ?_
  refine g_imul (q := 8) dX5_putFact_7 rfl ?_
  refine g_iload_n (q := 9) dX5_putFact_8 rfl rfl ?_
  refine g_iadd (q := 10) dX5_putFact_9 rfl ?_
  refine g_iload_n (q := 11) dX5_putFact_10 rfl rfl ?_
  refine g_iastn (q := 12) (by first | assumption | rfl) (by repeat' first | apply nI_a | apply nI_m | exact rfl) (by omega) dX5_putFact_11 rfl ?_
  refine g_vret rfl dX5_putFact_12 (Nat.le_refl _) (Nat.le_refl _) ?_
  exact h
set_option maxRecDepth 100000 in
set_option maxHeartbeats 400000 in
theorem c_X5_methods {d n : Nat} {I : Nat → Nat → Int32} {R : Nat → Nat → Option Nat} {Q : Option Int32 → Wd → Prop} {b : Nat} (hW : isWv R n b) (h : Q (some (I b 5)) (I, R)) : Ex d 0 0 mX5_methods [.ref b] n (I, R) n Q := by
  obtain ⟨hs, ⟨r0, s0⟩, ⟨r1, s1⟩, ⟨r2, s2⟩, ⟨r3, s3⟩, ⟨r4, s4⟩⟩ := id hW
  refine ex_intro (L0 := [.ref b]) (by decide +kernel) rfl rfl (Nat.le_of_ble_eq_true rfl) rfl ?_
  refine g_aload_n (q := 1) dX5_methods_0 rfl rfl ?_
  refine gf_X5_27 (q := 4) rfl (by first | assumption | rfl) dX5_methods_1 rfl ?_
  refine g_iret rfl dX5_methods_4 (Nat.le_refl _) (Nat.le_refl _) ?_
  exact h
set_option maxRecDepth 100000 in
set_option maxHeartbeats 400000 in
theorem c_X5_adviceCount {d n : Nat} {I : Nat → Nat → Int32} {R : Nat → Nat → Option Nat} {Q : Option Int32 → Wd → Prop} {b : Nat} (hW : isWv R n b) (h : Q (some (I b 6)) (I, R)) : Ex d 0 0 mX5_adviceCount [.ref b] n (I, R) n Q := by
  obtain ⟨hs, ⟨r0, s0⟩, ⟨r1, s1⟩, ⟨r2, s2⟩, ⟨r3, s3⟩, ⟨r4, s4⟩⟩ := id hW
  refine ex_intro (L0 := [.ref b]) (by decide +kernel) rfl rfl (Nat.le_of_ble_eq_true rfl) rfl ?_
  refine g_aload_n (q := 1) dX5_adviceCount_0 rfl rfl ?_
  refine gf_X5_31 (q := 4) rfl (by first | assumption | rfl) dX5_adviceCount_1 rfl ?_
  refine g_iret rfl dX5_adviceCount_4 (Nat.le_refl _) (Nat.le_refl _) ?_
  exact h
set_option maxRecDepth 100000 in
set_option maxHeartbeats 400000 in
theorem c_X5_clear {d n : Nat} {I : Nat → Nat → Int32} {R : Nat → Nat → Option Nat} {Q : Option Int32 → Wd → Prop} {b : Nat} (hW : isWv R n b) (h : Q none (uI (uI I b 5 (nI 0)) b 6 (nI 0), R)) : Ex d 0 0 mX5_clear [.ref b] n (I, R) n Q := by
  obtain ⟨hs, ⟨r0, s0⟩, ⟨r1, s1⟩, ⟨r2, s2⟩, ⟨r3, s3⟩, ⟨r4, s4⟩⟩ := id hW
  refine ex_intro (L0 := [.ref b]) (by decide +kernel) rfl rfl (Nat.le_of_ble_eq_true rfl) rfl ?_
  refine g_aload_n (q := 1) dX5_clear_0 rfl rfl ?_
  refine g_iconst (q := 2) (v := nI 0) dX5_clear_1 rfl (by decide) ?_
  refine pf_X5_27 (q := 5) rfl (by first | assumption | rfl) dX5_clear_2 rfl ?_
  refine g_aload_n (q := 6) dX5_clear_5 rfl rfl ?_
  refine g_iconst (q := 7) (v := nI 0) dX5_clear_6 rfl (by decide) ?_
  refine pf_X5_31 (q := 10) rfl (by first | assumption | rfl) dX5_clear_7 rfl ?_
  refine g_vret rfl dX5_clear_10 (Nat.le_refl _) (Nat.le_refl _) ?_
  exact h
set_option maxRecDepth 100000 in
set_option maxHeartbeats 400000 in
theorem c_X5_classOf {d n : Nat} {I : Nat → Nat → Int32} {R : Nat → Nat → Option Nat} {Q : Option Int32 → Wd → Prop} {b a : Nat} (hW : isWv R n b) (ha : a < 6) (h : Q (some (I (b + 1) a)) (I, R)) : Ex d 0 0 mX5_classOf [.ref b, .int (nI a)] n (I, R) n Q := by
  obtain ⟨hs, ⟨r0, s0⟩, ⟨r1, s1⟩, ⟨r2, s2⟩, ⟨r3, s3⟩, ⟨r4, s4⟩⟩ := id hW
  refine ex_intro (L0 := [.ref b, .int (nI a)]) (by decide +kernel) rfl rfl (Nat.le_of_ble_eq_true rfl) rfl ?_
  refine g_aload_n (q := 1) dX5_classOf_0 rfl rfl ?_
  refine gf_X5_9 (q := 4) rfl (by first | assumption | rfl) (by first | assumption | rfl) dX5_classOf_1 rfl ?_
  refine g_iload_n (q := 5) dX5_classOf_4 rfl rfl ?_
  refine g_ialdn (q := 6) (by first | assumption | rfl) (by repeat' first | apply nI_a | apply nI_m | exact rfl) (by omega) dX5_classOf_5 rfl ?_
  refine g_iret rfl dX5_classOf_6 (Nat.le_refl _) (Nat.le_refl _) ?_
  exact h
set_option maxRecDepth 100000 in
set_option maxHeartbeats 400000 in
theorem c_X5_putClass {d n : Nat} {I : Nat → Nat → Int32} {R : Nat → Nat → Option Nat} {Q : Option Int32 → Wd → Prop} {b a : Nat} {v : Int32} (hW : isWv R n b) (ha : a < 6) (h : Q none (uI I (b + 1) a v, R)) : Ex d 0 0 mX5_putClass [.ref b, .int (nI a), .int v] n (I, R) n Q := by
  obtain ⟨hs, ⟨r0, s0⟩, ⟨r1, s1⟩, ⟨r2, s2⟩, ⟨r3, s3⟩, ⟨r4, s4⟩⟩ := id hW
  refine ex_intro (L0 := [.ref b, .int (nI a), .int v]) (by decide +kernel) rfl rfl (Nat.le_of_ble_eq_true rfl) rfl ?_
  refine g_aload_n (q := 1) dX5_putClass_0 rfl rfl ?_
  refine gf_X5_9 (q := 4) rfl (by first | assumption | rfl) (by first | assumption | rfl) dX5_putClass_1 rfl ?_
  refine g_iload_n (q := 5) dX5_putClass_4 rfl rfl ?_
  refine g_iload_n (q := 6) dX5_putClass_5 rfl rfl ?_
  refine g_iastn (q := 7) (by first | assumption | rfl) (by repeat' first | apply nI_a | apply nI_m | exact rfl) (by omega) dX5_putClass_6 rfl ?_
  refine g_vret rfl dX5_putClass_7 (Nat.le_refl _) (Nat.le_refl _) ?_
  exact h
set_option maxRecDepth 100000 in
set_option maxHeartbeats 400000 in
theorem c_X5_length {d n : Nat} {I : Nat → Nat → Int32} {R : Nat → Nat → Option Nat} {Q : Option Int32 → Wd → Prop} {b a : Nat} (hW : isWv R n b) (ha : a < 6) (h : Q (some (I (b + 2) a)) (I, R)) : Ex d 0 0 mX5_length [.ref b, .int (nI a)] n (I, R) n Q := by
  obtain ⟨hs, ⟨r0, s0⟩, ⟨r1, s1⟩, ⟨r2, s2⟩, ⟨r3, s3⟩, ⟨r4, s4⟩⟩ := id hW
  refine ex_intro (L0 := [.ref b, .int (nI a)]) (by decide +kernel) rfl rfl (Nat.le_of_ble_eq_true rfl) rfl ?_
  refine g_aload_n (q := 1) dX5_length_0 rfl rfl ?_
  refine gf_X5_15 (q := 4) rfl (by first | assumption | rfl) (by first | assumption | rfl) dX5_length_1 rfl ?_
  refine g_iload_n (q := 5) dX5_length_4 rfl rfl ?_
  refine g_ialdn (q := 6) (by first | assumption | rfl) (by repeat' first | apply nI_a | apply nI_m | exact rfl) (by omega) dX5_length_5 rfl ?_
  refine g_iret rfl dX5_length_6 (Nat.le_refl _) (Nat.le_refl _) ?_
  exact h
set_option maxRecDepth 100000 in
set_option maxHeartbeats 400000 in
theorem c_X5_sort {d n : Nat} {I : Nat → Nat → Int32} {R : Nat → Nat → Option Nat} {Q : Option Int32 → Wd → Prop} {b a i : Nat} (hW : isWv R n b) (ha : a < 6) (hi : i < 4) (h : Q (some (I (b + 3) (a * 4 + i))) (I, R)) : Ex d 0 0 mX5_sort [.ref b, .int (nI a), .int (nI i)] n (I, R) n Q := by
  obtain ⟨hs, ⟨r0, s0⟩, ⟨r1, s1⟩, ⟨r2, s2⟩, ⟨r3, s3⟩, ⟨r4, s4⟩⟩ := id hW
  refine ex_intro (L0 := [.ref b, .int (nI a), .int (nI i)]) (by decide +kernel) rfl rfl (Nat.le_of_ble_eq_true rfl) rfl ?_
  refine g_aload_n (q := 1) dX5_sort_0 rfl rfl ?_
  refine gf_X5_18 (q := 4) rfl (by first | assumption | rfl) (by first | assumption | rfl) dX5_sort_1 rfl ?_
  refine g_iload_n (q := 5) dX5_sort_4 rfl rfl ?_
  refine g_iconst (q := 6) (v := nI 4) dX5_sort_5 rfl (by decide) ?_
  refine g_imul (q := 7) dX5_sort_6 rfl ?_
  refine g_iload_n (q := 8) dX5_sort_7 rfl rfl ?_
  refine g_iadd (q := 9) dX5_sort_8 rfl ?_
  refine g_ialdn (q := 10) (by first | assumption | rfl) (by repeat' first | apply nI_a | apply nI_m | exact rfl) (by omega) dX5_sort_9 rfl ?_
  refine g_iret rfl dX5_sort_10 (Nat.le_refl _) (Nat.le_refl _) ?_
  exact h
set_option maxRecDepth 100000 in
set_option maxHeartbeats 400000 in
theorem c_X5_operand {d n : Nat} {I : Nat → Nat → Int32} {R : Nat → Nat → Option Nat} {Q : Option Int32 → Wd → Prop} {b a i : Nat} (hW : isWv R n b) (ha : a < 6) (hi : i < 4) (h : Q (some (I (b + 4) (a * 4 + i))) (I, R)) : Ex d 0 0 mX5_operand [.ref b, .int (nI a), .int (nI i)] n (I, R) n Q := by
  obtain ⟨hs, ⟨r0, s0⟩, ⟨r1, s1⟩, ⟨r2, s2⟩, ⟨r3, s3⟩, ⟨r4, s4⟩⟩ := id hW
  refine ex_intro (L0 := [.ref b, .int (nI a), .int (nI i)]) (by decide +kernel) rfl rfl (Nat.le_of_ble_eq_true rfl) rfl ?_
  refine g_aload_n (q := 1) dX5_operand_0 rfl rfl ?_
  refine gf_X5_21 (q := 4) rfl (by first | assumption | rfl) (by first | assumption | rfl) dX5_operand_1 rfl ?_
  refine g_iload_n (q := 5) dX5_operand_4 rfl rfl ?_
  refine g_iconst (q := 6) (v := nI 4) dX5_operand_5 rfl (by decide) ?_
  refine g_imul (q := 7) dX5_operand_6 rfl ?_
  refine g_iload_n (q := 8) dX5_operand_7 rfl rfl ?_
  refine g_iadd (q := 9) dX5_operand_8 rfl ?_
  refine g_ialdn (q := 10) (by first | assumption | rfl) (by repeat' first | apply nI_a | apply nI_m | exact rfl) (by omega) dX5_operand_9 rfl ?_
  refine g_iret rfl dX5_operand_10 (Nat.le_refl _) (Nat.le_refl _) ?_
  exact h
set_option maxRecDepth 100000 in
set_option maxHeartbeats 400000 in
theorem c_X5_putStatement {d n : Nat} {I : Nat → Nat → Int32} {R : Nat → Nat → Option Nat} {Q : Option Int32 → Wd → Prop} {b a i : Nat} {s v : Int32} (hW : isWv R n b) (ha : a < 6) (hi : i < 4) (h : Q none (uI (uI I (b + 3) (a * 4 + i) s) (b + 4) (a * 4 + i) v, R)) : Ex d 0 0 mX5_putStatement [.ref b, .int (nI a), .int (nI i), .int s, .int v] n (I, R) n Q := by
  obtain ⟨hs, ⟨r0, s0⟩, ⟨r1, s1⟩, ⟨r2, s2⟩, ⟨r3, s3⟩, ⟨r4, s4⟩⟩ := id hW
  refine ex_intro (L0 := [.ref b, .int (nI a), .int (nI i), .int s, .int v]) (by decide +kernel) rfl rfl (Nat.le_of_ble_eq_true rfl) rfl ?_
  refine g_aload_n (q := 1) dX5_putStatement_0 rfl rfl ?_
  refine gf_X5_18 (q := 4) rfl (by first | assumption | rfl) (by first | assumption | rfl) dX5_putStatement_1 rfl ?_
  refine g_iload_n (q := 5) dX5_putStatement_4 rfl rfl ?_
  refine g_iconst (q := 6) (v := nI 4) dX5_putStatement_5 rfl (by decide) ?_
  refine g_imul (q := 7) dX5_putStatement_6 rfl ?_
  refine g_iload_n (q := 8) dX5_putStatement_7 rfl rfl ?_
  refine g_iadd (q := 9) dX5_putStatement_8 rfl ?_
  refine g_iload_n (q := 10) dX5_putStatement_9 rfl rfl ?_
  refine g_iastn (q := 11) (by first | assumption | rfl) (by repeat' first | apply nI_a | apply nI_m | exact rfl) (by omega) dX5_putStatement_10 rfl ?_
  refine g_aload_n (q := 12) dX5_putStatement_11 rfl rfl ?_
  refine gf_X5_21 (q := 15) rfl (by first | assumption | rfl) (by first | assumption | rfl) dX5_putStatement_12 rfl ?_
  refine g_iload_n (q := 16) dX5_putStatement_15 rfl rfl ?_
  refine g_iconst (q := 17) (v := nI 4) dX5_putStatement_16 rfl (by decide) ?_
  refine g_imul (q := 18) dX5_putStatement_17 rfl ?_
  refine g_iload_n (q := 19) dX5_putStatement_18 rfl rfl ?_
  refine g_iadd (q := 20) dX5_putStatement_19 rfl ?_
  refine g_iload (q := 22) dX5_putStatement_20 rfl rfl ?_
  refine g_iastn (q := 23) (by first | assumption | rfl) (by repeat' first | apply nI_a | apply nI_m | exact rfl) (by omega) dX5_putStatement_22 rfl ?_
  refine g_vret rfl dX5_putStatement_23 (Nat.le_refl _) (Nat.le_refl _) ?_
  exact h
set_option maxRecDepth 100000 in
set_option maxHeartbeats 400000 in
theorem c_X6_isWithin {d n : Nat} {I : Nat → Nat → Int32} {R : Nat → Nat → Option Nat} {Q : Option Int32 → Wd → Prop} {x lo hi : Int32} (h1 : lo ≤ x → x ≤ hi → Q (some (nI 1)) (I, R)) (h0 : ¬ (lo ≤ x ∧ x ≤ hi) → Q (some (nI 0)) (I, R)) : Ex d 0 0 mX6_isWithin [.int x, .int lo, .int hi] n (I, R) n Q := by
  refine ex_intro (L0 := [.int x, .int lo, .int hi]) (by decide +kernel) rfl rfl (Nat.le_of_ble_eq_true rfl) rfl ?_
  refine g_iload_n (q := 1) dX6_isWithin_0 rfl rfl ?_
  refine g_iload_n (q := 2) dX6_isWithin_1 rfl rfl ?_
  refine g_icmp_lt (tgt := 14) (q := 5) dX6_isWithin_2 (by decide) rfl (fun c2 => ?_) (fun c2 => ?_)
  · refine g_iconst (q := 15) (v := nI 0) dX6_isWithin_14 rfl (by decide) ?_
    refine g_zret rfl (by decide) dX6_isWithin_15 (Nat.le_refl _) (Nat.le_refl _) ?_
    first | exact h1 (Int32.not_lt.mp c2) (Int32.not_lt.mp c7) | exact h0 (fun z => absurd c2 (Int32.not_lt.mpr z.1)) | exact h0 (fun z => absurd c7 (Int32.not_lt.mpr z.2))
  · refine g_iload_n (q := 6) dX6_isWithin_5 rfl rfl ?_
    refine g_iload_n (q := 7) dX6_isWithin_6 rfl rfl ?_
    refine g_icmp_gt (tgt := 14) (q := 10) dX6_isWithin_7 (by decide) rfl (fun c7 => ?_) (fun c7 => ?_)
    · refine g_iconst (q := 15) (v := nI 0) dX6_isWithin_14 rfl (by decide) ?_
      refine g_zret rfl (by decide) dX6_isWithin_15 (Nat.le_refl _) (Nat.le_refl _) ?_
      first | exact h1 (Int32.not_lt.mp c2) (Int32.not_lt.mp c7) | exact h0 (fun z => absurd c2 (Int32.not_lt.mpr z.1)) | exact h0 (fun z => absurd c7 (Int32.not_lt.mpr z.2))
    · refine g_iconst (q := 11) (v := nI 1) dX6_isWithin_10 rfl (by decide) ?_
      refine g_goto (q := 15) dX6_isWithin_11 (by decide) ?_
      refine g_zret rfl (by decide) dX6_isWithin_15 (Nat.le_refl _) (Nat.le_refl _) ?_
      first | exact h1 (Int32.not_lt.mp c2) (Int32.not_lt.mp c7) | exact h0 (fun z => absurd c2 (Int32.not_lt.mpr z.1)) | exact h0 (fun z => absurd c7 (Int32.not_lt.mpr z.2))
set_option maxRecDepth 100000 in
set_option maxHeartbeats 400000 in
theorem c_X6_hasBit {d n : Nat} {I : Nat → Nat → Int32} {R : Nat → Nat → Option Nat} {Q : Option Int32 → Wd → Prop} {x k : Nat} (hx : x < 64) (hk : k < 8) (h1 : x.testBit k = true → Q (some (nI 1)) (I, R)) (h0 : x.testBit k = false → Q (some (nI 0)) (I, R)) : Ex d 0 0 mX6_hasBit [.int (nI x), .int (nI k)] n (I, R) n Q := by
  refine ex_intro (L0 := [.int (nI x), .int (nI k)]) (by decide +kernel) rfl rfl (Nat.le_of_ble_eq_true rfl) rfl ?_
  refine g_iload_n (q := 1) dX6_hasBit_0 rfl rfl ?_
  refine g_iload_n (q := 2) dX6_hasBit_1 rfl rfl ?_
  refine g_ishr (q := 3) dX6_hasBit_2 rfl ?_
  refine g_iconst (q := 4) (v := nI 1) dX6_hasBit_3 rfl (by decide) ?_
  refine g_iand (q := 5) dX6_hasBit_4 rfl ?_
  rw [bit_has x hx k hk]
  refine g_if_eq (tgt := 12) (q := 8) dX6_hasBit_5 (by decide) rfl (fun c5 => ?_) (fun c5 => ?_)
  · refine g_iconst (q := 13) (v := nI 0) dX6_hasBit_12 rfl (by decide) ?_
    refine g_zret rfl (by decide) dX6_hasBit_13 (Nat.le_refl _) (Nat.le_refl _) ?_
    first | exact h0 (by cases hb : x.testBit k with | false => rfl | true => rw [hb] at c5; exact absurd c5 (by decide)) | exact h1 (by cases hb : x.testBit k with | true => rfl | false => rw [hb] at c5; exact absurd rfl c5)
  · refine g_iconst (q := 9) (v := nI 1) dX6_hasBit_8 rfl (by decide) ?_
    refine g_goto (q := 13) dX6_hasBit_9 (by decide) ?_
    refine g_zret rfl (by decide) dX6_hasBit_13 (Nat.le_refl _) (Nat.le_refl _) ?_
    first | exact h0 (by cases hb : x.testBit k with | false => rfl | true => rw [hb] at c5; exact absurd c5 (by decide)) | exact h1 (by cases hb : x.testBit k with | true => rfl | false => rw [hb] at c5; exact absurd rfl c5)
set_option maxRecDepth 100000 in
set_option maxHeartbeats 400000 in
theorem l_X5_calledBy_4 {d n : Nat} {I : Nat → Nat → Int32} {R : Nat → Nat → Option Nat} {Z : Zt} {n0 : Nat} {b m : Nat} {v : Vv} (hW : isWv R n b) (hC : CRep I b v) (hV : VOk0 v) (hm : m < vnm v) (hex : ∀ fz : Value, G mX5_calledBy (rmd (d + 1) 0 0) Z n0 50 [.ref b, .int (nI m), .int (nI (orN (vln v m) (cbit v m))), .int (nI (vln v m)), fz] [] n (I, R) 0 0) : ∀ (k i : Nat) (fz : Value), i + k = vln v m → G mX5_calledBy (rmd (d + 1) 0 0) Z n0 4 [.ref b, .int (nI m), .int (nI (orN i (cbit v m))), .int (nI i), fz] [] n (I, R) 0 0 := by
  obtain ⟨hs, ⟨r0, s0⟩, ⟨r1, s1⟩, ⟨r2, s2⟩, ⟨r3, s3⟩, ⟨r4, s4⟩⟩ := id hW
  obtain ⟨hnm, hna, hmm, haa⟩ := id hC
  obtain ⟨v1, v2, v3, v4⟩ := id hV
  obtain ⟨e1, e2, e3⟩ := hmm m hm
  obtain ⟨u1, u2, u3⟩ := v3 m hm
  intro k
  induction k with
  | zero =>
    intro i fz hi
    have hi : i = vln v m := by omega
    subst hi
    refine g_iload_n (q := 5) dX5_calledBy_4 rfl rfl ?_
    refine g_aload_n (q := 6) dX5_calledBy_5 rfl rfl ?_
    refine gf_X5_15 (q := 9) rfl (by first | assumption | rfl) (by first | assumption | rfl) dX5_calledBy_6 rfl ?_
    refine g_iload_n (q := 10) dX5_calledBy_9 rfl rfl ?_
    refine g_ialdn (q := 11) (by first | assumption | rfl) (by repeat' first | apply nI_a | apply nI_m | exact rfl) (by omega) dX5_calledBy_10 rfl ?_
    rw [e2]
    refine g_icmp_ge (tgt := 50) (q := 14) dX5_calledBy_11 (by decide) rfl (fun _ => ?_) (fun c11 => absurd (nI_le (Nat.le_refl _) (by omega)) c11)
    exact hex fz
  | succ k ih =>
    intro i fz hi
    refine g_iload_n (q := 5) dX5_calledBy_4 rfl rfl ?_
    refine g_aload_n (q := 6) dX5_calledBy_5 rfl rfl ?_
    refine gf_X5_15 (q := 9) rfl (by first | assumption | rfl) (by first | assumption | rfl) dX5_calledBy_6 rfl ?_
    refine g_iload_n (q := 10) dX5_calledBy_9 rfl rfl ?_
    refine g_ialdn (q := 11) (by first | assumption | rfl) (by repeat' first | apply nI_a | apply nI_m | exact rfl) (by omega) dX5_calledBy_10 rfl ?_
    rw [e2]
    refine g_icmp_ge (tgt := 50) (q := 14) dX5_calledBy_11 (by decide) rfl (fun c11 => absurd c11 (nI_ge (by omega) (by omega))) (fun _ => ?_)
    refine g_iload_n (q := 15) dX5_calledBy_14 rfl rfl ?_
    refine g_iconst (q := 16) (v := nI 4) dX5_calledBy_15 rfl (by decide) ?_
    refine g_imul (q := 17) dX5_calledBy_16 rfl ?_
    refine g_iload_n (q := 18) dX5_calledBy_17 rfl rfl ?_
    refine g_iadd (q := 19) dX5_calledBy_18 rfl ?_
    refine g_istore (q := 21) dX5_calledBy_19 rfl (by decide) rfl rfl ?_
    refine g_aload_n (q := 22) dX5_calledBy_21 rfl rfl ?_
    refine gf_X5_18 (q := 25) rfl (by first | assumption | rfl) (by first | assumption | rfl) dX5_calledBy_22 rfl ?_
    refine g_iload (q := 27) dX5_calledBy_25 rfl rfl ?_
    refine g_ialdn (q := 28) (by first | assumption | rfl) (by repeat' first | apply nI_a | apply nI_m | exact rfl) (by omega) dX5_calledBy_27 rfl ?_
    rw [(e3 i (by omega)).1]
    refine g_iconst (q := 29) (v := nI 1) dX5_calledBy_28 rfl (by decide) ?_
    refine g_icmp_ne (tgt := 44) (q := 32) dX5_calledBy_29 (by decide) rfl (fun c29 => ?_) (fun c29 => ?_)
    · refine g_iincn (q := 47) dX5_calledBy_44 rfl rfl (by decide) rfl rfl ?_
      refine g_goto (q := 4) dX5_calledBy_47 (by decide) ?_
      have hn := ih (i + 1) (.int (nI m * nI 4 + nI i)) (by omega)
      first
      | (rw [orN, cbit, if_pos ((nI_eq (by have := (u3 i (by omega)).1; omega) (by omega)).mp c29)] at hn; exact hn)
      | (rw [orN, cbit, if_neg (fun z => c29 ((nI_eq (by have := (u3 i (by omega)).1; omega) (by omega)).mpr z)), Nat.or_zero] at hn; exact hn)
    · refine g_iload_n (q := 33) dX5_calledBy_32 rfl rfl ?_
      refine g_iconst (q := 34) (v := nI 1) dX5_calledBy_33 rfl (by decide) ?_
      refine g_aload_n (q := 35) dX5_calledBy_34 rfl rfl ?_
      refine gf_X5_21 (q := 38) rfl (by first | assumption | rfl) (by first | assumption | rfl) dX5_calledBy_35 rfl ?_
      refine g_iload (q := 40) dX5_calledBy_38 rfl rfl ?_
      refine g_ialdn (q := 41) (by first | assumption | rfl) (by repeat' first | apply nI_a | apply nI_m | exact rfl) (by omega) dX5_calledBy_40 rfl ?_
      rw [(e3 i (by omega)).2]
      refine g_ishl (q := 42) dX5_calledBy_41 rfl ?_
      have h6 : vop v m i < 6 := by have := (u3 i (by omega)).2.2.1 ((nI_eq (by have := (u3 i (by omega)).1; omega) (by omega)).mp c29); omega
      rw [bit_sh _ (by omega)]
      refine g_ior (q := 43) dX5_calledBy_42 rfl ?_
      rw [bit_or _ (callP_lt hV hm (by omega)) _ (sh_lt _ h6)]
      refine g_istore_n (q := 44) dX5_calledBy_43 rfl (by decide) rfl rfl ?_
      refine g_iincn (q := 47) dX5_calledBy_44 rfl rfl (by decide) rfl rfl ?_
      refine g_goto (q := 4) dX5_calledBy_47 (by decide) ?_
      have hn := ih (i + 1) (.int (nI m * nI 4 + nI i)) (by omega)
      first
      | (rw [orN, cbit, if_pos ((nI_eq (by have := (u3 i (by omega)).1; omega) (by omega)).mp c29)] at hn; exact hn)
      | (rw [orN, cbit, if_neg (fun z => c29 ((nI_eq (by have := (u3 i (by omega)).1; omega) (by omega)).mpr z)), Nat.or_zero] at hn; exact hn)
set_option maxRecDepth 100000 in
set_option maxHeartbeats 400000 in
theorem c_X5_calledBy {d n : Nat} {I : Nat → Nat → Int32} {R : Nat → Nat → Option Nat} {Q : Option Int32 → Wd → Prop} {b m : Nat} {v : Vv} (hW : isWv R n b) (hC : CRep I b v) (hV : VOk0 v) (hm : m < vnm v) (h : Q (some (nI (callF v m))) (I, R)) : Ex (d + 1) 0 0 mX5_calledBy [.ref b, .int (nI m)] n (I, R) n Q := by
  refine ex_intro (L0 := [.ref b, .int (nI m), .null, .null, .null]) (by decide +kernel) rfl rfl (Nat.le_of_ble_eq_true rfl) rfl ?_
  refine g_iconst (q := 1) (v := nI 0) dX5_calledBy_0 rfl (by decide) ?_
  refine g_istore_n (q := 2) dX5_calledBy_1 rfl (by decide) rfl rfl ?_
  refine g_iconst (q := 3) (v := nI 0) dX5_calledBy_2 rfl (by decide) ?_
  refine g_istore_n (q := 4) dX5_calledBy_3 rfl (by decide) rfl rfl ?_
  refine l_X5_calledBy_4 hW hC hV hm (fun fz => ?_) (vln v m) 0 .null (by omega)
  refine g_iload_n (q := 51) dX5_calledBy_50 rfl rfl ?_
  refine g_iret rfl dX5_calledBy_51 (Nat.le_refl _) (Nat.le_refl _) ?_
  exact h
set_option maxRecDepth 100000 in
set_option maxHeartbeats 400000 in
theorem l_X5_reachedFrom_19 {d n : Nat} {I : Nat → Nat → Int32} {R : Nat → Nat → Option Nat} {Z : Zt} {n0 : Nat} {b m s r : Nat} {v : Vv} (hW : isWv R n b) (hC : CRep I b v) (hV : VOk v) (hsx : s < 64) (hex : G mX5_reachedFrom (rmd (d + 3) 0 0) Z n0 56 [.ref b, .int (nI m), .int (nI (pasF v (vnm v) s)), .int (nI r), .int (nI (vnm v))] [] n (I, R) 0 0) : ∀ (k i : Nat), i + k = vnm v → G mX5_reachedFrom (rmd (d + 3) 0 0) Z n0 19 [.ref b, .int (nI m), .int (nI (pasF v i s)), .int (nI r), .int (nI i)] [] n (I, R) 0 0 := by
  obtain ⟨hs, ⟨r0, s0⟩, ⟨r1, s1⟩, ⟨r2, s2⟩, ⟨r3, s3⟩, ⟨r4, s4⟩⟩ := id hW
  obtain ⟨hnm, hna, hmm, haa⟩ := id hC
  obtain ⟨v1, v2, v3, v4⟩ := id hV
  intro k
  induction k with
  | zero =>
    intro i hi
    have hi : i = vnm v := by omega
    subst hi
    refine g_iload (q := 21) dX5_reachedFrom_19 rfl rfl ?_
    refine g_aload_n (q := 22) dX5_reachedFrom_21 rfl rfl ?_
    refine gf_X5_27 (q := 25) rfl (by first | assumption | rfl) dX5_reachedFrom_22 rfl ?_
    rw [hnm]
    refine g_icmp_ge (tgt := 56) (q := 28) dX5_reachedFrom_25 (by decide) rfl (fun _ => ?_) (fun c25 => absurd (nI_le (Nat.le_refl _) (by omega)) c25)
    exact hex
  | succ k ih =>
    intro i hi
    refine g_iload (q := 21) dX5_reachedFrom_19 rfl rfl ?_
    refine g_aload_n (q := 22) dX5_reachedFrom_21 rfl rfl ?_
    refine gf_X5_27 (q := 25) rfl (by first | assumption | rfl) dX5_reachedFrom_22 rfl ?_
    rw [hnm]
    refine g_icmp_ge (tgt := 56) (q := 28) dX5_reachedFrom_25 (by decide) rfl (fun c25 => absurd c25 (nI_ge (by omega) (by omega))) (fun _ => ?_)
    refine g_iload_n (q := 29) dX5_reachedFrom_28 rfl rfl ?_
    refine g_iload_n (q := 30) dX5_reachedFrom_29 rfl rfl ?_
    refine g_iload (q := 32) dX5_reachedFrom_30 rfl rfl ?_
    refine k_X5_61 (q := 35) rfl (Nat.le_of_ble_eq_true rfl) dX5_reachedFrom_32 rfl (c_X6_hasBit (pas_lt hV hsx i (by omega)) (by omega) (fun z32 => ?_) (fun z32 => ?_))
    · refine g_if_eq (tgt := 47) (q := 38) dX5_reachedFrom_35 (by decide) rfl (fun c35 => absurd c35 (by decide)) (fun _ => ?_)
      refine g_aload_n (q := 39) dX5_reachedFrom_38 rfl rfl ?_
      refine g_iload (q := 41) dX5_reachedFrom_39 rfl rfl ?_
      refine k_X5_57 (q := 44) rfl (Nat.le_of_ble_eq_true rfl) (by first | assumption | rfl) dX5_reachedFrom_41 rfl (c_X5_calledBy hW hC hV.w (by omega) ?_)
      refine g_goto (q := 48) dX5_reachedFrom_44 (by decide) ?_
      refine g_ior (q := 49) dX5_reachedFrom_48 rfl ?_
      first | rw [bit_or _ (pas_lt hV hsx i (by omega)) _ (callF_lt hV.w (by omega))] | rw [bit_or _ (pas_lt hV hsx i (by omega)) 0 (by decide)]
      refine g_istore_n (q := 50) dX5_reachedFrom_49 rfl (by decide) rfl rfl ?_
      refine g_iincn (q := 53) dX5_reachedFrom_50 rfl rfl (by decide) rfl rfl ?_
      refine g_goto (q := 19) dX5_reachedFrom_53 (by decide) ?_
      have hn := ih (i + 1) (by omega)
      first
      | (rw [pasF, abit, if_pos z32] at hn; exact hn)
      | (rw [pasF, abit, if_neg (by rw [z32]; decide)] at hn; exact hn)
    · refine g_if_eq (tgt := 47) (q := 38) dX5_reachedFrom_35 (by decide) rfl (fun _ => ?_) (fun c35 => absurd c35 (by decide))
      refine g_iconst (q := 48) (v := nI 0) dX5_reachedFrom_47 rfl (by decide) ?_
      refine g_ior (q := 49) dX5_reachedFrom_48 rfl ?_
      first | rw [bit_or _ (pas_lt hV hsx i (by omega)) _ (callF_lt hV.w (by omega))] | rw [bit_or _ (pas_lt hV hsx i (by omega)) 0 (by decide)]
      refine g_istore_n (q := 50) dX5_reachedFrom_49 rfl (by decide) rfl rfl ?_
      refine g_iincn (q := 53) dX5_reachedFrom_50 rfl rfl (by decide) rfl rfl ?_
      refine g_goto (q := 19) dX5_reachedFrom_53 (by decide) ?_
      have hn := ih (i + 1) (by omega)
      first
      | (rw [pasF, abit, if_pos z32] at hn; exact hn)
      | (rw [pasF, abit, if_neg (by rw [z32]; decide)] at hn; exact hn)
set_option maxRecDepth 100000 in
set_option maxHeartbeats 400000 in
theorem l_X5_reachedFrom_8 {d n : Nat} {I : Nat → Nat → Int32} {R : Nat → Nat → Option Nat} {Z : Zt} {n0 : Nat} {b m : Nat} {v : Vv} (hW : isWv R n b) (hC : CRep I b v) (hV : VOk v) (hm : m < vnm v) (hex : ∀ fz : Value, G mX5_reachedFrom (rmd (d + 3) 0 0) Z n0 62 [.ref b, .int (nI m), .int (nI (itN (vnm v - 1) (pasF v (vnm v)) (callF v m))), .int (nI ((vnm v - 1) + 1)), fz] [] n (I, R) 0 0) : ∀ (k i : Nat) (fz : Value), i + k = (vnm v - 1) → G mX5_reachedFrom (rmd (d + 3) 0 0) Z n0 8 [.ref b, .int (nI m), .int (nI (itN i (pasF v (vnm v)) (callF v m))), .int (nI (i + 1)), fz] [] n (I, R) 0 0 := by
  obtain ⟨hs, ⟨r0, s0⟩, ⟨r1, s1⟩, ⟨r2, s2⟩, ⟨r3, s3⟩, ⟨r4, s4⟩⟩ := id hW
  obtain ⟨hnm, hna, hmm, haa⟩ := id hC
  obtain ⟨v1, v2, v3, v4⟩ := id hV
  intro k
  induction k with
  | zero =>
    intro i fz hi
    have hi : i = (vnm v - 1) := by omega
    subst hi
    refine g_iload_n (q := 9) dX5_reachedFrom_8 rfl rfl ?_
    refine g_aload_n (q := 10) dX5_reachedFrom_9 rfl rfl ?_
    refine gf_X5_27 (q := 13) rfl (by first | assumption | rfl) dX5_reachedFrom_10 rfl ?_
    rw [hnm]
    refine g_icmp_ge (tgt := 62) (q := 16) dX5_reachedFrom_13 (by decide) rfl (fun _ => ?_) (fun c13 => absurd (nI_le (by omega) (by omega)) c13)
    exact hex fz
  | succ k ih =>
    intro i fz hi
    refine g_iload_n (q := 9) dX5_reachedFrom_8 rfl rfl ?_
    refine g_aload_n (q := 10) dX5_reachedFrom_9 rfl rfl ?_
    refine gf_X5_27 (q := 13) rfl (by first | assumption | rfl) dX5_reachedFrom_10 rfl ?_
    rw [hnm]
    refine g_icmp_ge (tgt := 62) (q := 16) dX5_reachedFrom_13 (by decide) rfl (fun c13 => absurd c13 (nI_ge (by omega) (by omega))) (fun _ => ?_)
    refine g_iconst (q := 17) (v := nI 0) dX5_reachedFrom_16 rfl (by decide) ?_
    refine g_istore (q := 19) dX5_reachedFrom_17 rfl (by decide) rfl rfl ?_
    refine l_X5_reachedFrom_19 (s := itN i (pasF v (vnm v)) (callF v m)) (r := i + 1) hW hC hV (itp_lt hV (callF_lt hV.w hm) i) ?_ (vnm v) 0 (by omega)
    refine g_iincn (q := 59) dX5_reachedFrom_56 rfl rfl (by decide) rfl rfl ?_
    refine g_goto (q := 8) dX5_reachedFrom_59 (by decide) ?_
    exact ih (i + 1) _ (by omega)
set_option maxRecDepth 100000 in
set_option maxHeartbeats 400000 in
theorem c_X5_reachedFrom {d n : Nat} {I : Nat → Nat → Int32} {R : Nat → Nat → Option Nat} {Q : Option Int32 → Wd → Prop} {b m : Nat} {v : Vv} (hW : isWv R n b) (hC : CRep I b v) (hV : VOk v) (hm : m < vnm v) (h : Q (some (nI (reachF v m))) (I, R)) : Ex (d + 3) 0 0 mX5_reachedFrom [.ref b, .int (nI m)] n (I, R) n Q := by
  obtain ⟨hs, ⟨r0, s0⟩, ⟨r1, s1⟩, ⟨r2, s2⟩, ⟨r3, s3⟩, ⟨r4, s4⟩⟩ := id hW
  refine ex_intro (L0 := [.ref b, .int (nI m), .null, .null, .null]) (by decide +kernel) rfl rfl (Nat.le_of_ble_eq_true rfl) rfl ?_
  refine g_aload_n (q := 1) dX5_reachedFrom_0 rfl rfl ?_
  refine g_iload_n (q := 2) dX5_reachedFrom_1 rfl rfl ?_
  refine k_X5_57 (q := 5) rfl (Nat.le_of_ble_eq_true rfl) (by first | assumption | rfl) dX5_reachedFrom_2 rfl (c_X5_calledBy hW hC hV.w (by omega) ?_)
  refine g_istore_n (q := 6) dX5_reachedFrom_5 rfl (by decide) rfl rfl ?_
  refine g_iconst (q := 7) (v := nI 1) dX5_reachedFrom_6 rfl (by decide) ?_
  refine g_istore_n (q := 8) dX5_reachedFrom_7 rfl (by decide) rfl rfl ?_
  refine l_X5_reachedFrom_8 hW hC hV hm (fun fz => ?_) (vnm v - 1) 0 .null (by omega)
  refine g_iload_n (q := 63) dX5_reachedFrom_62 rfl rfl ?_
  refine g_iret rfl dX5_reachedFrom_63 (Nat.le_refl _) (Nat.le_refl _) ?_
  rw [reach_pasJ hV hm (Nat.le_refl _)]
  exact h
set_option maxRecDepth 100000 in
set_option maxHeartbeats 400000 in
theorem c_X5_isAbout {d n : Nat} {I : Nat → Nat → Int32} {R : Nat → Nat → Option Nat} {Q : Option Int32 → Wd → Prop} {b m a : Nat} {v : Vv} (hW : isWv R n b) (hC : CRep I b v) (hV : VOk v) (hm : m < vnm v) (ha : a < vna v) (h1 : aboutF v m a = true → Q (some (nI 1)) (I, R)) (h0 : aboutF v m a = false → Q (some (nI 0)) (I, R)) : Ex (d + 1) 0 0 mX5_isAbout [.ref b, .int (nI m), .int (nI a)] n (I, R) n Q := by
  obtain ⟨hs, ⟨r0, s0⟩, ⟨r1, s1⟩, ⟨r2, s2⟩, ⟨r3, s3⟩, ⟨r4, s4⟩⟩ := id hW
  obtain ⟨hnm, hna, hmm, haa⟩ := id hC
  obtain ⟨v1, v2, v3, v4⟩ := id hV
  obtain ⟨e1, e2, e3⟩ := hmm m hm
  obtain ⟨u1, u2, u3⟩ := v3 m hm
  obtain ⟨w1, w2, w3, w4, w5, w6, w7, w8⟩ := v4 a ha
  have ef := haa a ha
  have hst : ∀ k, k < 5 → ((stV 0).getD k 0) = nI (([15, 10, 4, 8, 15] : List Nat).getD k 0) ∧ (([15, 10, 4, 8, 15] : List Nat).getD k 0) < 64 := by decide +kernel
  refine ex_intro (L0 := [.ref b, .int (nI m), .int (nI a), .null]) (by decide +kernel) rfl rfl (Nat.le_of_ble_eq_true rfl) rfl ?_
  refine g_aload_n (q := 1) dX5_isAbout_0 rfl rfl ?_
  refine g_iload_n (q := 2) dX5_isAbout_1 rfl rfl ?_
  refine g_iconst (q := 3) (v := nI 2) dX5_isAbout_2 rfl (by decide) ?_
  refine k_X5_40 (q := 6) rfl (Nat.le_of_ble_eq_true rfl) (by first | assumption | rfl) dX5_isAbout_3 rfl (c_X5_fact (by assumption) (by omega) (by omega) ?_)
  rw [ef 2 (by omega)]
  refine g_istore_n (q := 7) dX5_isAbout_6 rfl (by decide) rfl rfl ?_
  refine g_getsN (q := 10) rfl dX5_isAbout_7 rfl ?_
  refine g_aload_n (q := 11) dX5_isAbout_10 rfl rfl ?_
  refine g_iload_n (q := 12) dX5_isAbout_11 rfl rfl ?_
  refine g_iconst (q := 13) (v := nI 1) dX5_isAbout_12 rfl (by decide) ?_
  refine k_X5_40 (q := 16) rfl (Nat.le_of_ble_eq_true rfl) (by first | assumption | rfl) dX5_isAbout_13 rfl (c_X5_fact (by assumption) (by omega) (by omega) ?_)
  rw [ef 1 (by omega)]
  refine g_tald (i := 0) (q := 17) (by decide) (nI_in w3 (by decide)) dX5_isAbout_16 rfl ?_
  rw [nI_clamp (by omega), (hst _ w3).1]
  refine g_aload_n (q := 18) dX5_isAbout_17 rfl rfl ?_
  refine gf_X5_9 (q := 21) rfl (by first | assumption | rfl) (by first | assumption | rfl) dX5_isAbout_18 rfl ?_
  refine g_iload_n (q := 22) dX5_isAbout_21 rfl rfl ?_
  refine g_ialdn (q := 23) (by first | assumption | rfl) (by repeat' first | apply nI_a | apply nI_m | exact rfl) (by omega) dX5_isAbout_22 rfl ?_
  rw [e1]
  refine k_X5_61 (q := 26) rfl (Nat.le_of_ble_eq_true rfl) dX5_isAbout_23 rfl (c_X6_hasBit (hst _ w3).2 (by omega) (fun z23 => ?_) (fun z23 => ?_))
  · refine g_if_eq (tgt := 44) (q := 29) dX5_isAbout_26 (by decide) rfl (fun c26 => absurd c26 (by decide)) (fun _ => ?_)
    refine g_iload_n (q := 30) dX5_isAbout_29 rfl rfl ?_
    refine g_bipush (q := 32) (v := nI 6) dX5_isAbout_30 rfl (by decide) ?_
    refine g_icmp_eq (tgt := 40) (q := 35) dX5_isAbout_32 (by decide) rfl (fun c32 => ?_) (fun c32 => ?_)
    · refine g_iconst (q := 41) (v := nI 1) dX5_isAbout_40 rfl (by decide) ?_
      refine g_goto (q := 45) dX5_isAbout_41 (by decide) ?_
      refine g_zret rfl (by decide) dX5_isAbout_45 (Nat.le_refl _) (Nat.le_refl _) ?_
      have q1 := nI_eq (a := vfa v a 2) (b := 6) (by omega) (by omega)
      have q2 := nI_eq (a := vfa v a 2) (b := m) (by omega) (by omega)
      simp only [aboutF] at h1 h0
      first
      | exact h1 (by rw [z23, q1.mp c32]; rfl)
      | exact h1 (by rw [z23]; have := q2.mp (Decidable.byContradiction c37); simp [this]; done)
      | exact h1 (by rw [z23]; have := q2.mp c37; simp [this]; done)
      | exact h0 (by rw [z23]; rfl)
      | exact h0 (by rw [z23]; have e1 : ¬ vfa v a 2 = 6 := fun z => c32 (q1.mpr z); have e2 : ¬ vfa v a 2 = m := fun z => c37 (q2.mpr z); simp [e1, e2]; done)
    · refine g_iload_n (q := 36) dX5_isAbout_35 rfl rfl ?_
      refine g_iload_n (q := 37) dX5_isAbout_36 rfl rfl ?_
      refine g_icmp_ne (tgt := 44) (q := 40) dX5_isAbout_37 (by decide) rfl (fun c37 => ?_) (fun c37 => ?_)
      · refine g_iconst (q := 45) (v := nI 0) dX5_isAbout_44 rfl (by decide) ?_
        refine g_zret rfl (by decide) dX5_isAbout_45 (Nat.le_refl _) (Nat.le_refl _) ?_
        have q1 := nI_eq (a := vfa v a 2) (b := 6) (by omega) (by omega)
        have q2 := nI_eq (a := vfa v a 2) (b := m) (by omega) (by omega)
        simp only [aboutF] at h1 h0
        first
        | exact h1 (by rw [z23, q1.mp c32]; rfl)
        | exact h1 (by rw [z23]; have := q2.mp (Decidable.byContradiction c37); simp [this]; done)
        | exact h1 (by rw [z23]; have := q2.mp c37; simp [this]; done)
        | exact h0 (by rw [z23]; rfl)
        | exact h0 (by rw [z23]; have e1 : ¬ vfa v a 2 = 6 := fun z => c32 (q1.mpr z); have e2 : ¬ vfa v a 2 = m := fun z => c37 (q2.mpr z); simp [e1, e2]; done)
      · refine g_iconst (q := 41) (v := nI 1) dX5_isAbout_40 rfl (by decide) ?_
        refine g_goto (q := 45) dX5_isAbout_41 (by decide) ?_
        refine g_zret rfl (by decide) dX5_isAbout_45 (Nat.le_refl _) (Nat.le_refl _) ?_
        have q1 := nI_eq (a := vfa v a 2) (b := 6) (by omega) (by omega)
        have q2 := nI_eq (a := vfa v a 2) (b := m) (by omega) (by omega)
        simp only [aboutF] at h1 h0
        first
        | exact h1 (by rw [z23, q1.mp c32]; rfl)
        | exact h1 (by rw [z23]; have := q2.mp (Decidable.byContradiction c37); simp [this]; done)
        | exact h1 (by rw [z23]; have := q2.mp c37; simp [this]; done)
        | exact h0 (by rw [z23]; rfl)
        | exact h0 (by rw [z23]; have e1 : ¬ vfa v a 2 = 6 := fun z => c32 (q1.mpr z); have e2 : ¬ vfa v a 2 = m := fun z => c37 (q2.mpr z); simp [e1, e2]; done)
  · refine g_if_eq (tgt := 44) (q := 29) dX5_isAbout_26 (by decide) rfl (fun _ => ?_) (fun c26 => absurd c26 (by decide))
    refine g_iconst (q := 45) (v := nI 0) dX5_isAbout_44 rfl (by decide) ?_
    refine g_zret rfl (by decide) dX5_isAbout_45 (Nat.le_refl _) (Nat.le_refl _) ?_
    have q1 := nI_eq (a := vfa v a 2) (b := 6) (by omega) (by omega)
    have q2 := nI_eq (a := vfa v a 2) (b := m) (by omega) (by omega)
    simp only [aboutF] at h1 h0
    first
    | exact h1 (by rw [z23, q1.mp c32]; rfl)
    | exact h1 (by rw [z23]; have := q2.mp (Decidable.byContradiction c37); simp [this]; done)
    | exact h1 (by rw [z23]; have := q2.mp c37; simp [this]; done)
    | exact h0 (by rw [z23]; rfl)
    | exact h0 (by rw [z23]; have e1 : ¬ vfa v a 2 = 6 := fun z => c32 (q1.mpr z); have e2 : ¬ vfa v a 2 = m := fun z => c37 (q2.mpr z); simp [e1, e2]; done)
set_option maxRecDepth 100000 in
set_option maxHeartbeats 400000 in
theorem c_X5_known {d n : Nat} {I : Nat → Nat → Int32} {R : Nat → Nat → Option Nat} {Q : Option Int32 → Wd → Prop} {b m a : Nat} {v : Vv} (hW : isWv R n b) (hC : CRep I b v) (hV : VOk v) (hm : m < vnm v) (ha : a < vna v) (h : Q (some (nI (knownF v m a))) (I, R)) : Ex (d + 5) 0 0 mX5_known [.ref b, .int (nI m), .int (nI a)] n (I, R) n Q := by
  obtain ⟨hs, ⟨r0, s0⟩, ⟨r1, s1⟩, ⟨r2, s2⟩, ⟨r3, s3⟩, ⟨r4, s4⟩⟩ := id hW
  obtain ⟨hnm, hna, hmm, haa⟩ := id hC
  obtain ⟨v1, v2, v3, v4⟩ := id hV
  obtain ⟨e1, e2, e3⟩ := hmm m hm
  obtain ⟨u1, u2, u3⟩ := v3 m hm
  obtain ⟨w1, w2, w3, w4, w5, w6, w7, w8⟩ := v4 a ha
  have ef := haa a ha
  refine ex_intro (L0 := [.ref b, .int (nI m), .int (nI a), .null, .null, .null, .null]) (by decide +kernel) rfl rfl (Nat.le_of_ble_eq_true rfl) rfl ?_
  refine g_aload_n (q := 1) dX5_known_0 rfl rfl ?_
  refine g_iload_n (q := 2) dX5_known_1 rfl rfl ?_
  refine g_iconst (q := 3) (v := nI 3) dX5_known_2 rfl (by decide) ?_
  refine k_X5_40 (q := 6) rfl (Nat.le_of_ble_eq_true rfl) (by first | assumption | rfl) dX5_known_3 rfl (c_X5_fact (by assumption) (by omega) (by omega) ?_)
  rw [ef 3 (by omega)]
  refine g_istore_n (q := 7) dX5_known_6 rfl (by decide) rfl rfl ?_
  refine g_aload_n (q := 8) dX5_known_7 rfl rfl ?_
  refine g_iload_n (q := 9) dX5_known_8 rfl rfl ?_
  refine g_iconst (q := 10) (v := nI 4) dX5_known_9 rfl (by decide) ?_
  refine k_X5_40 (q := 13) rfl (Nat.le_of_ble_eq_true rfl) (by first | assumption | rfl) dX5_known_10 rfl (c_X5_fact (by assumption) (by omega) (by omega) ?_)
  rw [ef 4 (by omega)]
  refine g_istore (q := 15) dX5_known_13 rfl (by decide) rfl rfl ?_
  refine g_iload (q := 17) dX5_known_15 rfl rfl ?_
  refine g_bipush (q := 19) (v := nI 6) dX5_known_17 rfl (by decide) ?_
  refine g_icmp_eq (tgt := 28) (q := 22) dX5_known_19 (by decide) rfl (fun c19 => ?_) (fun c19 => ?_)
  · refine g_iconst (q := 29) (v := nI 1) dX5_known_28 rfl (by decide) ?_
    refine g_goto (q := 33) dX5_known_29 (by decide) ?_
    refine g_istore (q := 35) dX5_known_33 rfl (by decide) rfl rfl ?_
    refine g_iload (q := 37) dX5_known_35 rfl rfl ?_
    refine g_if_ne (tgt := 66) (q := 40) dX5_known_37 (by decide) rfl (fun _ => ?_) (fun c37 => absurd c37 (by decide))
    refine g_iconst (q := 67) (v := nI 0) dX5_known_66 rfl (by decide) ?_
    refine g_istore (q := 69) dX5_known_67 rfl (by decide) rfl rfl ?_
    refine g_aload_n (q := 70) dX5_known_69 rfl rfl ?_
    refine g_iload_n (q := 71) dX5_known_70 rfl rfl ?_
    refine g_iload_n (q := 72) dX5_known_71 rfl rfl ?_
    refine k_X5_71 (q := 75) rfl (Nat.le_of_ble_eq_true rfl) (by first | assumption | rfl) dX5_known_72 rfl (c_X5_isAbout hW hC hV hm ha (fun z72 => ?_) (fun z72 => ?_))
    · refine g_if_eq (tgt := 87) (q := 78) dX5_known_75 (by decide) rfl (fun c75 => absurd c75 (by decide)) (fun _ => ?_)
      refine g_iload_n (q := 79) dX5_known_78 rfl rfl ?_
      refine g_if_eq (tgt := 87) (q := 82) dX5_known_79 (by decide) rfl (fun c79 => ?_) (fun c79 => ?_)
      · refine g_iconst (q := 88) (v := nI 0) dX5_known_87 rfl (by decide) ?_
        refine g_iret rfl dX5_known_88 (Nat.le_refl _) (Nat.le_refl _) ?_
        have q0 := nI_eq (a := vfa v a 3) (b := 0) (by omega) (by omega)
        have q1 := nI_eq (a := vfa v a 3) (b := 10) (by omega) (by omega)
        have q2 := nI_eq (a := vfa v a 4) (b := 6) (by omega) (by omega)
        have q3 := nI_eq (a := vfa v a 4) (b := m) (by omega) (by omega)
        have q4 := nI_leI (a := vnm v) (b := vfa v a 4) (by omega) (by omega)
        simp only [knownF] at h
        rw [if_neg (by rintro ⟨-, y, -⟩; exact y (q0.mp c79))] at h; exact h
      · refine g_iload (q := 84) dX5_known_82 rfl rfl ?_
        refine g_if_eq (tgt := 89) (q := 87) dX5_known_84 (by decide) rfl (fun _ => ?_) (fun c84 => absurd c84 (by decide))
        refine g_iload_n (q := 90) dX5_known_89 rfl rfl ?_
        refine g_bipush (q := 92) (v := nI 10) dX5_known_90 rfl (by decide) ?_
        refine g_icmp_ne (tgt := 104) (q := 95) dX5_known_92 (by decide) rfl (fun c92 => ?_) (fun c92 => ?_)
        · refine g_iconst (q := 105) (v := nI 2) dX5_known_104 rfl (by decide) ?_
          refine g_iret rfl dX5_known_105 (Nat.le_refl _) (Nat.le_refl _) ?_
          have q0 := nI_eq (a := vfa v a 3) (b := 0) (by omega) (by omega)
          have q1 := nI_eq (a := vfa v a 3) (b := 10) (by omega) (by omega)
          have q2 := nI_eq (a := vfa v a 4) (b := 6) (by omega) (by omega)
          have q3 := nI_eq (a := vfa v a 4) (b := m) (by omega) (by omega)
          have q4 := nI_leI (a := vnm v) (b := vfa v a 4) (by omega) (by omega)
          simp only [knownF] at h
          have hal : vfa v a 4 = 6 ∨ vfa v a 4 = m := Or.inl (q2.mp c19)
          have hmay : mayF v m (vfa v a 4) = true := by
            unfold mayF
            rcases hal with e | e
            · rw [e]; rfl
            · rw [e]; simp
          rw [if_pos ⟨z72, fun z => c79 (q0.mpr z), hmay⟩, if_neg (fun z => c92 (q1.mpr z.1))] at h; exact h
        · refine g_iload (q := 97) dX5_known_95 rfl rfl ?_
          refine g_if_eq (tgt := 104) (q := 100) dX5_known_97 (by decide) rfl (fun c97 => absurd c97 (by decide)) (fun _ => ?_)
          refine g_iconst (q := 101) (v := nI 1) dX5_known_100 rfl (by decide) ?_
          refine g_goto (q := 105) dX5_known_101 (by decide) ?_
          refine g_iret rfl dX5_known_105 (Nat.le_refl _) (Nat.le_refl _) ?_
          have q0 := nI_eq (a := vfa v a 3) (b := 0) (by omega) (by omega)
          have q1 := nI_eq (a := vfa v a 3) (b := 10) (by omega) (by omega)
          have q2 := nI_eq (a := vfa v a 4) (b := 6) (by omega) (by omega)
          have q3 := nI_eq (a := vfa v a 4) (b := m) (by omega) (by omega)
          have q4 := nI_leI (a := vnm v) (b := vfa v a 4) (by omega) (by omega)
          simp only [knownF] at h
          have hal : vfa v a 4 = 6 ∨ vfa v a 4 = m := Or.inl (q2.mp c19)
          have hmay : mayF v m (vfa v a 4) = true := by
            unfold mayF
            rcases hal with e | e
            · rw [e]; rfl
            · rw [e]; simp
          rw [if_pos ⟨z72, fun z => c79 (q0.mpr z), hmay⟩, if_pos ⟨q1.mp c92, hal⟩] at h; exact h
    · refine g_if_eq (tgt := 87) (q := 78) dX5_known_75 (by decide) rfl (fun _ => ?_) (fun c75 => absurd c75 (by decide))
      refine g_iconst (q := 88) (v := nI 0) dX5_known_87 rfl (by decide) ?_
      refine g_iret rfl dX5_known_88 (Nat.le_refl _) (Nat.le_refl _) ?_
      have q0 := nI_eq (a := vfa v a 3) (b := 0) (by omega) (by omega)
      have q1 := nI_eq (a := vfa v a 3) (b := 10) (by omega) (by omega)
      have q2 := nI_eq (a := vfa v a 4) (b := 6) (by omega) (by omega)
      have q3 := nI_eq (a := vfa v a 4) (b := m) (by omega) (by omega)
      have q4 := nI_leI (a := vnm v) (b := vfa v a 4) (by omega) (by omega)
      simp only [knownF] at h
      rw [if_neg (by rw [z72]; rintro ⟨y, -⟩; cases y)] at h; exact h
  · refine g_iload (q := 24) dX5_known_22 rfl rfl ?_
    refine g_iload_n (q := 25) dX5_known_24 rfl rfl ?_
    refine g_icmp_ne (tgt := 32) (q := 28) dX5_known_25 (by decide) rfl (fun c25 => ?_) (fun c25 => ?_)
    · refine g_iconst (q := 33) (v := nI 0) dX5_known_32 rfl (by decide) ?_
      refine g_istore (q := 35) dX5_known_33 rfl (by decide) rfl rfl ?_
      refine g_iload (q := 37) dX5_known_35 rfl rfl ?_
      refine g_if_ne (tgt := 66) (q := 40) dX5_known_37 (by decide) rfl (fun c37 => absurd c37 (by decide)) (fun _ => ?_)
      refine g_iload (q := 42) dX5_known_40 rfl rfl ?_
      refine g_aload_n (q := 43) dX5_known_42 rfl rfl ?_
      refine gf_X5_27 (q := 46) rfl (by first | assumption | rfl) dX5_known_43 rfl ?_
      rw [hnm]
      refine g_icmp_ge (tgt := 62) (q := 49) dX5_known_46 (by decide) rfl (fun c46 => ?_) (fun c46 => ?_)
      · refine g_iconst (q := 63) (v := nI 1) dX5_known_62 rfl (by decide) ?_
        refine g_goto (q := 67) dX5_known_63 (by decide) ?_
        refine g_istore (q := 69) dX5_known_67 rfl (by decide) rfl rfl ?_
        refine g_aload_n (q := 70) dX5_known_69 rfl rfl ?_
        refine g_iload_n (q := 71) dX5_known_70 rfl rfl ?_
        refine g_iload_n (q := 72) dX5_known_71 rfl rfl ?_
        refine k_X5_71 (q := 75) rfl (Nat.le_of_ble_eq_true rfl) (by first | assumption | rfl) dX5_known_72 rfl (c_X5_isAbout hW hC hV hm ha (fun z72 => ?_) (fun z72 => ?_))
        · refine g_if_eq (tgt := 87) (q := 78) dX5_known_75 (by decide) rfl (fun c75 => absurd c75 (by decide)) (fun _ => ?_)
          refine g_iload_n (q := 79) dX5_known_78 rfl rfl ?_
          refine g_if_eq (tgt := 87) (q := 82) dX5_known_79 (by decide) rfl (fun c79 => ?_) (fun c79 => ?_)
          · refine g_iconst (q := 88) (v := nI 0) dX5_known_87 rfl (by decide) ?_
            refine g_iret rfl dX5_known_88 (Nat.le_refl _) (Nat.le_refl _) ?_
            have q0 := nI_eq (a := vfa v a 3) (b := 0) (by omega) (by omega)
            have q1 := nI_eq (a := vfa v a 3) (b := 10) (by omega) (by omega)
            have q2 := nI_eq (a := vfa v a 4) (b := 6) (by omega) (by omega)
            have q3 := nI_eq (a := vfa v a 4) (b := m) (by omega) (by omega)
            have q4 := nI_leI (a := vnm v) (b := vfa v a 4) (by omega) (by omega)
            simp only [knownF] at h
            rw [if_neg (by rintro ⟨-, y, -⟩; exact y (q0.mp c79))] at h; exact h
          · refine g_iload (q := 84) dX5_known_82 rfl rfl ?_
            refine g_if_eq (tgt := 89) (q := 87) dX5_known_84 (by decide) rfl (fun c84 => absurd c84 (by decide)) (fun _ => ?_)
            refine g_iconst (q := 88) (v := nI 0) dX5_known_87 rfl (by decide) ?_
            refine g_iret rfl dX5_known_88 (Nat.le_refl _) (Nat.le_refl _) ?_
            have q0 := nI_eq (a := vfa v a 3) (b := 0) (by omega) (by omega)
            have q1 := nI_eq (a := vfa v a 3) (b := 10) (by omega) (by omega)
            have q2 := nI_eq (a := vfa v a 4) (b := 6) (by omega) (by omega)
            have q3 := nI_eq (a := vfa v a 4) (b := m) (by omega) (by omega)
            have q4 := nI_leI (a := vnm v) (b := vfa v a 4) (by omega) (by omega)
            simp only [knownF] at h
            have hn1 : ¬ vfa v a 4 = 6 := fun z => c19 (q2.mpr z)
            have hn2 : ¬ vfa v a 4 = m := fun z => c25 (q3.mpr z)
            have hmay : mayF v m (vfa v a 4) = false := by
              have e3 : ¬ vfa v a 4 < vnm v := by have := q4.mp c46; omega
              unfold mayF
              simp [hn1, hn2, e3]
            rw [if_neg (by rw [hmay]; rintro ⟨-, -, y⟩; cases y)] at h; exact h
        · refine g_if_eq (tgt := 87) (q := 78) dX5_known_75 (by decide) rfl (fun _ => ?_) (fun c75 => absurd c75 (by decide))
          refine g_iconst (q := 88) (v := nI 0) dX5_known_87 rfl (by decide) ?_
          refine g_iret rfl dX5_known_88 (Nat.le_refl _) (Nat.le_refl _) ?_
          have q0 := nI_eq (a := vfa v a 3) (b := 0) (by omega) (by omega)
          have q1 := nI_eq (a := vfa v a 3) (b := 10) (by omega) (by omega)
          have q2 := nI_eq (a := vfa v a 4) (b := 6) (by omega) (by omega)
          have q3 := nI_eq (a := vfa v a 4) (b := m) (by omega) (by omega)
          have q4 := nI_leI (a := vnm v) (b := vfa v a 4) (by omega) (by omega)
          simp only [knownF] at h
          rw [if_neg (by rw [z72]; rintro ⟨y, -⟩; cases y)] at h; exact h
      · refine g_aload_n (q := 50) dX5_known_49 rfl rfl ?_
        refine g_iload (q := 52) dX5_known_50 rfl rfl ?_
        refine k_X5_68 (q := 55) rfl (Nat.le_of_ble_eq_true rfl) (by first | assumption | rfl) dX5_known_52 rfl (c_X5_reachedFrom hW hC hV (by have := mt (nI_leI (a := vnm v) (b := vfa v a 4) (by omega) (by omega)).mpr c46; omega) ?_)
        refine g_iload_n (q := 56) dX5_known_55 rfl rfl ?_
        refine k_X5_61 (q := 59) rfl (Nat.le_of_ble_eq_true rfl) dX5_known_56 rfl (c_X6_hasBit (reachF_lt hV (by have := mt (nI_leI (a := vnm v) (b := vfa v a 4) (by omega) (by omega)).mpr c46; omega)) (by omega) (fun z56 => ?_) (fun z56 => ?_))
        · refine g_if_ne (tgt := 66) (q := 62) dX5_known_59 (by decide) rfl (fun _ => ?_) (fun c59 => absurd c59 (by decide))
          refine g_iconst (q := 67) (v := nI 0) dX5_known_66 rfl (by decide) ?_
          refine g_istore (q := 69) dX5_known_67 rfl (by decide) rfl rfl ?_
          refine g_aload_n (q := 70) dX5_known_69 rfl rfl ?_
          refine g_iload_n (q := 71) dX5_known_70 rfl rfl ?_
          refine g_iload_n (q := 72) dX5_known_71 rfl rfl ?_
          refine k_X5_71 (q := 75) rfl (Nat.le_of_ble_eq_true rfl) (by first | assumption | rfl) dX5_known_72 rfl (c_X5_isAbout hW hC hV hm ha (fun z72 => ?_) (fun z72 => ?_))
          · refine g_if_eq (tgt := 87) (q := 78) dX5_known_75 (by decide) rfl (fun c75 => absurd c75 (by decide)) (fun _ => ?_)
            refine g_iload_n (q := 79) dX5_known_78 rfl rfl ?_
            refine g_if_eq (tgt := 87) (q := 82) dX5_known_79 (by decide) rfl (fun c79 => ?_) (fun c79 => ?_)
            · refine g_iconst (q := 88) (v := nI 0) dX5_known_87 rfl (by decide) ?_
              refine g_iret rfl dX5_known_88 (Nat.le_refl _) (Nat.le_refl _) ?_
              have q0 := nI_eq (a := vfa v a 3) (b := 0) (by omega) (by omega)
              have q1 := nI_eq (a := vfa v a 3) (b := 10) (by omega) (by omega)
              have q2 := nI_eq (a := vfa v a 4) (b := 6) (by omega) (by omega)
              have q3 := nI_eq (a := vfa v a 4) (b := m) (by omega) (by omega)
              have q4 := nI_leI (a := vnm v) (b := vfa v a 4) (by omega) (by omega)
              simp only [knownF] at h
              rw [if_neg (by rintro ⟨-, y, -⟩; exact y (q0.mp c79))] at h; exact h
            · refine g_iload (q := 84) dX5_known_82 rfl rfl ?_
              refine g_if_eq (tgt := 89) (q := 87) dX5_known_84 (by decide) rfl (fun _ => ?_) (fun c84 => absurd c84 (by decide))
              refine g_iload_n (q := 90) dX5_known_89 rfl rfl ?_
              refine g_bipush (q := 92) (v := nI 10) dX5_known_90 rfl (by decide) ?_
              refine g_icmp_ne (tgt := 104) (q := 95) dX5_known_92 (by decide) rfl (fun c92 => ?_) (fun c92 => ?_)
              · refine g_iconst (q := 105) (v := nI 2) dX5_known_104 rfl (by decide) ?_
                refine g_iret rfl dX5_known_105 (Nat.le_refl _) (Nat.le_refl _) ?_
                have q0 := nI_eq (a := vfa v a 3) (b := 0) (by omega) (by omega)
                have q1 := nI_eq (a := vfa v a 3) (b := 10) (by omega) (by omega)
                have q2 := nI_eq (a := vfa v a 4) (b := 6) (by omega) (by omega)
                have q3 := nI_eq (a := vfa v a 4) (b := m) (by omega) (by omega)
                have q4 := nI_leI (a := vnm v) (b := vfa v a 4) (by omega) (by omega)
                simp only [knownF] at h
                have hn1 : ¬ vfa v a 4 = 6 := fun z => c19 (q2.mpr z)
                have hn2 : ¬ vfa v a 4 = m := fun z => c25 (q3.mpr z)
                have hmay : mayF v m (vfa v a 4) = true := by
                  have e3 : vfa v a 4 < vnm v := by have := mt q4.mpr c46; omega
                  unfold mayF
                  simp [z56, e3]
                rw [if_pos ⟨z72, fun z => c79 (q0.mpr z), hmay⟩, if_neg (fun z => c92 (q1.mpr z.1))] at h; exact h
              · refine g_iload (q := 97) dX5_known_95 rfl rfl ?_
                refine g_if_eq (tgt := 104) (q := 100) dX5_known_97 (by decide) rfl (fun _ => ?_) (fun c97 => absurd c97 (by decide))
                refine g_iconst (q := 105) (v := nI 2) dX5_known_104 rfl (by decide) ?_
                refine g_iret rfl dX5_known_105 (Nat.le_refl _) (Nat.le_refl _) ?_
                have q0 := nI_eq (a := vfa v a 3) (b := 0) (by omega) (by omega)
                have q1 := nI_eq (a := vfa v a 3) (b := 10) (by omega) (by omega)
                have q2 := nI_eq (a := vfa v a 4) (b := 6) (by omega) (by omega)
                have q3 := nI_eq (a := vfa v a 4) (b := m) (by omega) (by omega)
                have q4 := nI_leI (a := vnm v) (b := vfa v a 4) (by omega) (by omega)
                simp only [knownF] at h
                have hn1 : ¬ vfa v a 4 = 6 := fun z => c19 (q2.mpr z)
                have hn2 : ¬ vfa v a 4 = m := fun z => c25 (q3.mpr z)
                have hmay : mayF v m (vfa v a 4) = true := by
                  have e3 : vfa v a 4 < vnm v := by have := mt q4.mpr c46; omega
                  unfold mayF
                  simp [z56, e3]
                rw [if_pos ⟨z72, fun z => c79 (q0.mpr z), hmay⟩, if_neg (fun z => z.2.elim hn1 hn2)] at h; exact h
          · refine g_if_eq (tgt := 87) (q := 78) dX5_known_75 (by decide) rfl (fun _ => ?_) (fun c75 => absurd c75 (by decide))
            refine g_iconst (q := 88) (v := nI 0) dX5_known_87 rfl (by decide) ?_
            refine g_iret rfl dX5_known_88 (Nat.le_refl _) (Nat.le_refl _) ?_
            have q0 := nI_eq (a := vfa v a 3) (b := 0) (by omega) (by omega)
            have q1 := nI_eq (a := vfa v a 3) (b := 10) (by omega) (by omega)
            have q2 := nI_eq (a := vfa v a 4) (b := 6) (by omega) (by omega)
            have q3 := nI_eq (a := vfa v a 4) (b := m) (by omega) (by omega)
            have q4 := nI_leI (a := vnm v) (b := vfa v a 4) (by omega) (by omega)
            simp only [knownF] at h
            rw [if_neg (by rw [z72]; rintro ⟨y, -⟩; cases y)] at h; exact h
        · refine g_if_ne (tgt := 66) (q := 62) dX5_known_59 (by decide) rfl (fun c59 => absurd c59 (by decide)) (fun _ => ?_)
          refine g_iconst (q := 63) (v := nI 1) dX5_known_62 rfl (by decide) ?_
          refine g_goto (q := 67) dX5_known_63 (by decide) ?_
          refine g_istore (q := 69) dX5_known_67 rfl (by decide) rfl rfl ?_
          refine g_aload_n (q := 70) dX5_known_69 rfl rfl ?_
          refine g_iload_n (q := 71) dX5_known_70 rfl rfl ?_
          refine g_iload_n (q := 72) dX5_known_71 rfl rfl ?_
          refine k_X5_71 (q := 75) rfl (Nat.le_of_ble_eq_true rfl) (by first | assumption | rfl) dX5_known_72 rfl (c_X5_isAbout hW hC hV hm ha (fun z72 => ?_) (fun z72 => ?_))
          · refine g_if_eq (tgt := 87) (q := 78) dX5_known_75 (by decide) rfl (fun c75 => absurd c75 (by decide)) (fun _ => ?_)
            refine g_iload_n (q := 79) dX5_known_78 rfl rfl ?_
            refine g_if_eq (tgt := 87) (q := 82) dX5_known_79 (by decide) rfl (fun c79 => ?_) (fun c79 => ?_)
            · refine g_iconst (q := 88) (v := nI 0) dX5_known_87 rfl (by decide) ?_
              refine g_iret rfl dX5_known_88 (Nat.le_refl _) (Nat.le_refl _) ?_
              have q0 := nI_eq (a := vfa v a 3) (b := 0) (by omega) (by omega)
              have q1 := nI_eq (a := vfa v a 3) (b := 10) (by omega) (by omega)
              have q2 := nI_eq (a := vfa v a 4) (b := 6) (by omega) (by omega)
              have q3 := nI_eq (a := vfa v a 4) (b := m) (by omega) (by omega)
              have q4 := nI_leI (a := vnm v) (b := vfa v a 4) (by omega) (by omega)
              simp only [knownF] at h
              rw [if_neg (by rintro ⟨-, y, -⟩; exact y (q0.mp c79))] at h; exact h
            · refine g_iload (q := 84) dX5_known_82 rfl rfl ?_
              refine g_if_eq (tgt := 89) (q := 87) dX5_known_84 (by decide) rfl (fun c84 => absurd c84 (by decide)) (fun _ => ?_)
              refine g_iconst (q := 88) (v := nI 0) dX5_known_87 rfl (by decide) ?_
              refine g_iret rfl dX5_known_88 (Nat.le_refl _) (Nat.le_refl _) ?_
              have q0 := nI_eq (a := vfa v a 3) (b := 0) (by omega) (by omega)
              have q1 := nI_eq (a := vfa v a 3) (b := 10) (by omega) (by omega)
              have q2 := nI_eq (a := vfa v a 4) (b := 6) (by omega) (by omega)
              have q3 := nI_eq (a := vfa v a 4) (b := m) (by omega) (by omega)
              have q4 := nI_leI (a := vnm v) (b := vfa v a 4) (by omega) (by omega)
              simp only [knownF] at h
              have hn1 : ¬ vfa v a 4 = 6 := fun z => c19 (q2.mpr z)
              have hn2 : ¬ vfa v a 4 = m := fun z => c25 (q3.mpr z)
              have hmay : mayF v m (vfa v a 4) = false := by
                unfold mayF
                simp [hn1, hn2, z56]
              rw [if_neg (by rw [hmay]; rintro ⟨-, -, y⟩; cases y)] at h; exact h
          · refine g_if_eq (tgt := 87) (q := 78) dX5_known_75 (by decide) rfl (fun _ => ?_) (fun c75 => absurd c75 (by decide))
            refine g_iconst (q := 88) (v := nI 0) dX5_known_87 rfl (by decide) ?_
            refine g_iret rfl dX5_known_88 (Nat.le_refl _) (Nat.le_refl _) ?_
            have q0 := nI_eq (a := vfa v a 3) (b := 0) (by omega) (by omega)
            have q1 := nI_eq (a := vfa v a 3) (b := 10) (by omega) (by omega)
            have q2 := nI_eq (a := vfa v a 4) (b := 6) (by omega) (by omega)
            have q3 := nI_eq (a := vfa v a 4) (b := m) (by omega) (by omega)
            have q4 := nI_leI (a := vnm v) (b := vfa v a 4) (by omega) (by omega)
            simp only [knownF] at h
            rw [if_neg (by rw [z72]; rintro ⟨y, -⟩; cases y)] at h; exact h
    · refine g_iconst (q := 29) (v := nI 1) dX5_known_28 rfl (by decide) ?_
      refine g_goto (q := 33) dX5_known_29 (by decide) ?_
      refine g_istore (q := 35) dX5_known_33 rfl (by decide) rfl rfl ?_
      refine g_iload (q := 37) dX5_known_35 rfl rfl ?_
      refine g_if_ne (tgt := 66) (q := 40) dX5_known_37 (by decide) rfl (fun _ => ?_) (fun c37 => absurd c37 (by decide))
      refine g_iconst (q := 67) (v := nI 0) dX5_known_66 rfl (by decide) ?_
      refine g_istore (q := 69) dX5_known_67 rfl (by decide) rfl rfl ?_
      refine g_aload_n (q := 70) dX5_known_69 rfl rfl ?_
      refine g_iload_n (q := 71) dX5_known_70 rfl rfl ?_
      refine g_iload_n (q := 72) dX5_known_71 rfl rfl ?_
      refine k_X5_71 (q := 75) rfl (Nat.le_of_ble_eq_true rfl) (by first | assumption | rfl) dX5_known_72 rfl (c_X5_isAbout hW hC hV hm ha (fun z72 => ?_) (fun z72 => ?_))
      · refine g_if_eq (tgt := 87) (q := 78) dX5_known_75 (by decide) rfl (fun c75 => absurd c75 (by decide)) (fun _ => ?_)
        refine g_iload_n (q := 79) dX5_known_78 rfl rfl ?_
        refine g_if_eq (tgt := 87) (q := 82) dX5_known_79 (by decide) rfl (fun c79 => ?_) (fun c79 => ?_)
        · refine g_iconst (q := 88) (v := nI 0) dX5_known_87 rfl (by decide) ?_
          refine g_iret rfl dX5_known_88 (Nat.le_refl _) (Nat.le_refl _) ?_
          have q0 := nI_eq (a := vfa v a 3) (b := 0) (by omega) (by omega)
          have q1 := nI_eq (a := vfa v a 3) (b := 10) (by omega) (by omega)
          have q2 := nI_eq (a := vfa v a 4) (b := 6) (by omega) (by omega)
          have q3 := nI_eq (a := vfa v a 4) (b := m) (by omega) (by omega)
          have q4 := nI_leI (a := vnm v) (b := vfa v a 4) (by omega) (by omega)
          simp only [knownF] at h
          rw [if_neg (by rintro ⟨-, y, -⟩; exact y (q0.mp c79))] at h; exact h
        · refine g_iload (q := 84) dX5_known_82 rfl rfl ?_
          refine g_if_eq (tgt := 89) (q := 87) dX5_known_84 (by decide) rfl (fun _ => ?_) (fun c84 => absurd c84 (by decide))
          refine g_iload_n (q := 90) dX5_known_89 rfl rfl ?_
          refine g_bipush (q := 92) (v := nI 10) dX5_known_90 rfl (by decide) ?_
          refine g_icmp_ne (tgt := 104) (q := 95) dX5_known_92 (by decide) rfl (fun c92 => ?_) (fun c92 => ?_)
          · refine g_iconst (q := 105) (v := nI 2) dX5_known_104 rfl (by decide) ?_
            refine g_iret rfl dX5_known_105 (Nat.le_refl _) (Nat.le_refl _) ?_
            have q0 := nI_eq (a := vfa v a 3) (b := 0) (by omega) (by omega)
            have q1 := nI_eq (a := vfa v a 3) (b := 10) (by omega) (by omega)
            have q2 := nI_eq (a := vfa v a 4) (b := 6) (by omega) (by omega)
            have q3 := nI_eq (a := vfa v a 4) (b := m) (by omega) (by omega)
            have q4 := nI_leI (a := vnm v) (b := vfa v a 4) (by omega) (by omega)
            simp only [knownF] at h
            have hal : vfa v a 4 = 6 ∨ vfa v a 4 = m := Or.inr (q3.mp c25)
            have hmay : mayF v m (vfa v a 4) = true := by
              unfold mayF
              rcases hal with e | e
              · rw [e]; rfl
              · rw [e]; simp
            rw [if_pos ⟨z72, fun z => c79 (q0.mpr z), hmay⟩, if_neg (fun z => c92 (q1.mpr z.1))] at h; exact h
          · refine g_iload (q := 97) dX5_known_95 rfl rfl ?_
            refine g_if_eq (tgt := 104) (q := 100) dX5_known_97 (by decide) rfl (fun c97 => absurd c97 (by decide)) (fun _ => ?_)
            refine g_iconst (q := 101) (v := nI 1) dX5_known_100 rfl (by decide) ?_
            refine g_goto (q := 105) dX5_known_101 (by decide) ?_
            refine g_iret rfl dX5_known_105 (Nat.le_refl _) (Nat.le_refl _) ?_
            have q0 := nI_eq (a := vfa v a 3) (b := 0) (by omega) (by omega)
            have q1 := nI_eq (a := vfa v a 3) (b := 10) (by omega) (by omega)
            have q2 := nI_eq (a := vfa v a 4) (b := 6) (by omega) (by omega)
            have q3 := nI_eq (a := vfa v a 4) (b := m) (by omega) (by omega)
            have q4 := nI_leI (a := vnm v) (b := vfa v a 4) (by omega) (by omega)
            simp only [knownF] at h
            have hal : vfa v a 4 = 6 ∨ vfa v a 4 = m := Or.inr (q3.mp c25)
            have hmay : mayF v m (vfa v a 4) = true := by
              unfold mayF
              rcases hal with e | e
              · rw [e]; rfl
              · rw [e]; simp
            rw [if_pos ⟨z72, fun z => c79 (q0.mpr z), hmay⟩, if_pos ⟨q1.mp c92, hal⟩] at h; exact h
      · refine g_if_eq (tgt := 87) (q := 78) dX5_known_75 (by decide) rfl (fun _ => ?_) (fun c75 => absurd c75 (by decide))
        refine g_iconst (q := 88) (v := nI 0) dX5_known_87 rfl (by decide) ?_
        refine g_iret rfl dX5_known_88 (Nat.le_refl _) (Nat.le_refl _) ?_
        have q0 := nI_eq (a := vfa v a 3) (b := 0) (by omega) (by omega)
        have q1 := nI_eq (a := vfa v a 3) (b := 10) (by omega) (by omega)
        have q2 := nI_eq (a := vfa v a 4) (b := 6) (by omega) (by omega)
        have q3 := nI_eq (a := vfa v a 4) (b := m) (by omega) (by omega)
        have q4 := nI_leI (a := vnm v) (b := vfa v a 4) (by omega) (by omega)
        simp only [knownF] at h
        rw [if_neg (by rw [z72]; rintro ⟨y, -⟩; cases y)] at h; exact h
set_option maxRecDepth 100000 in
set_option maxHeartbeats 400000 in
theorem l_X5_testedAbout_4 {d n : Nat} {I : Nat → Nat → Int32} {R : Nat → Nat → Option Nat} {Z : Zt} {n0 : Nat} {b m : Nat} {v : Vv} (hW : isWv R n b) (hC : CRep I b v) (hV : VOk v) (hm : m < vnm v) (hex : G mX5_testedAbout (rmd (d + 6) 0 0) Z n0 36 [.ref b, .int (nI m), .int (nI (smN (vna v) (fun a => if knownF v m a = 2 then 1 else 0))), .int (nI (vna v))] [] n (I, R) 0 0) : ∀ (k i : Nat), i + k = vna v → G mX5_testedAbout (rmd (d + 6) 0 0) Z n0 4 [.ref b, .int (nI m), .int (nI (smN i (fun a => if knownF v m a = 2 then 1 else 0))), .int (nI i)] [] n (I, R) 0 0 := by
  obtain ⟨hs, ⟨r0, s0⟩, ⟨r1, s1⟩, ⟨r2, s2⟩, ⟨r3, s3⟩, ⟨r4, s4⟩⟩ := id hW
  obtain ⟨hnm, hna, hmm, haa⟩ := id hC
  obtain ⟨v1, v2, v3, v4⟩ := id hV
  intro k
  induction k with
  | zero =>
    intro i hi
    have hi : i = vna v := by omega
    subst hi
    refine g_iload_n (q := 5) dX5_testedAbout_4 rfl rfl ?_
    refine g_aload_n (q := 6) dX5_testedAbout_5 rfl rfl ?_
    refine gf_X5_31 (q := 9) rfl (by first | assumption | rfl) dX5_testedAbout_6 rfl ?_
    rw [hna]
    refine g_icmp_ge (tgt := 36) (q := 12) dX5_testedAbout_9 (by decide) rfl (fun _ => ?_) (fun c9 => absurd (nI_le (Nat.le_refl _) (by omega)) c9)
    exact hex
  | succ k ih =>
    intro i hi
    refine g_iload_n (q := 5) dX5_testedAbout_4 rfl rfl ?_
    refine g_aload_n (q := 6) dX5_testedAbout_5 rfl rfl ?_
    refine gf_X5_31 (q := 9) rfl (by first | assumption | rfl) dX5_testedAbout_6 rfl ?_
    rw [hna]
    refine g_icmp_ge (tgt := 36) (q := 12) dX5_testedAbout_9 (by decide) rfl (fun c9 => absurd c9 (nI_ge (by omega) (by omega))) (fun _ => ?_)
    refine g_iload_n (q := 13) dX5_testedAbout_12 rfl rfl ?_
    refine g_aload_n (q := 14) dX5_testedAbout_13 rfl rfl ?_
    refine g_iload_n (q := 15) dX5_testedAbout_14 rfl rfl ?_
    refine g_iload_n (q := 16) dX5_testedAbout_15 rfl rfl ?_
    refine k_X5_74 (q := 19) rfl (Nat.le_of_ble_eq_true rfl) (by first | assumption | rfl) dX5_testedAbout_16 rfl (c_X5_known hW hC hV (by omega) (by omega) ?_)
    refine g_iconst (q := 20) (v := nI 2) dX5_testedAbout_19 rfl (by decide) ?_
    refine g_icmp_ne (tgt := 27) (q := 23) dX5_testedAbout_20 (by decide) rfl (fun c20 => ?_) (fun c20 => ?_)
    · refine g_iconst (q := 28) (v := nI 0) dX5_testedAbout_27 rfl (by decide) ?_
      refine g_iadd (q := 29) dX5_testedAbout_28 rfl ?_
      rw [nI_add]
      refine g_istore_n (q := 30) dX5_testedAbout_29 rfl (by decide) rfl rfl ?_
      refine g_iincn (q := 33) dX5_testedAbout_30 rfl rfl (by decide) rfl rfl ?_
      refine g_goto (q := 4) dX5_testedAbout_33 (by decide) ?_
      have hn := ih (i + 1) (by omega)
      have qk := nI_eq (a := knownF v m i) (b := 2) (by have := knownF_lt v m i; omega) (by omega)
      first
      | (rw [smN, if_pos (qk.mp c20)] at hn; exact hn)
      | (rw [smN, if_neg (fun z => c20 (qk.mpr z))] at hn; exact hn)
    · refine g_iconst (q := 24) (v := nI 1) dX5_testedAbout_23 rfl (by decide) ?_
      refine g_goto (q := 28) dX5_testedAbout_24 (by decide) ?_
      refine g_iadd (q := 29) dX5_testedAbout_28 rfl ?_
      rw [nI_add]
      refine g_istore_n (q := 30) dX5_testedAbout_29 rfl (by decide) rfl rfl ?_
      refine g_iincn (q := 33) dX5_testedAbout_30 rfl rfl (by decide) rfl rfl ?_
      refine g_goto (q := 4) dX5_testedAbout_33 (by decide) ?_
      have hn := ih (i + 1) (by omega)
      have qk := nI_eq (a := knownF v m i) (b := 2) (by have := knownF_lt v m i; omega) (by omega)
      first
      | (rw [smN, if_pos (qk.mp c20)] at hn; exact hn)
      | (rw [smN, if_neg (fun z => c20 (qk.mpr z))] at hn; exact hn)
set_option maxRecDepth 100000 in
set_option maxHeartbeats 400000 in
theorem c_X5_testedAbout {d n : Nat} {I : Nat → Nat → Int32} {R : Nat → Nat → Option Nat} {Q : Option Int32 → Wd → Prop} {b m : Nat} {v : Vv} (hW : isWv R n b) (hC : CRep I b v) (hV : VOk v) (hm : m < vnm v) (h : Q (some (nI (testF v m))) (I, R)) : Ex (d + 6) 0 0 mX5_testedAbout [.ref b, .int (nI m)] n (I, R) n Q := by
  refine ex_intro (L0 := [.ref b, .int (nI m), .null, .null]) (by decide +kernel) rfl rfl (Nat.le_of_ble_eq_true rfl) rfl ?_
  refine g_iconst (q := 1) (v := nI 0) dX5_testedAbout_0 rfl (by decide) ?_
  refine g_istore_n (q := 2) dX5_testedAbout_1 rfl (by decide) rfl rfl ?_
  refine g_iconst (q := 3) (v := nI 0) dX5_testedAbout_2 rfl (by decide) ?_
  refine g_istore_n (q := 4) dX5_testedAbout_3 rfl (by decide) rfl rfl ?_
  refine l_X5_testedAbout_4 hW hC hV hm ?_ (vna v) 0 (by omega)
  refine g_iload_n (q := 37) dX5_testedAbout_36 rfl rfl ?_
  refine g_iret rfl dX5_testedAbout_37 (Nat.le_refl _) (Nat.le_refl _) ?_
  exact h
set_option maxRecDepth 100000 in
set_option maxHeartbeats 400000 in
theorem l_X5_methodsNotNever_4 {d n : Nat} {I : Nat → Nat → Int32} {R : Nat → Nat → Option Nat} {Z : Zt} {n0 : Nat} {b a : Nat} {v : Vv} (hW : isWv R n b) (hC : CRep I b v) (hV : VOk v) (ha : a < vna v) (hex : G mX5_methodsNotNever (rmd (d + 6) 0 0) Z n0 35 [.ref b, .int (nI a), .int (nI (smN (vnm v) (fun m => if knownF v m a = 0 then 0 else 1))), .int (nI (vnm v))] [] n (I, R) 0 0) : ∀ (k i : Nat), i + k = vnm v → G mX5_methodsNotNever (rmd (d + 6) 0 0) Z n0 4 [.ref b, .int (nI a), .int (nI (smN i (fun m => if knownF v m a = 0 then 0 else 1))), .int (nI i)] [] n (I, R) 0 0 := by
  obtain ⟨hs, ⟨r0, s0⟩, ⟨r1, s1⟩, ⟨r2, s2⟩, ⟨r3, s3⟩, ⟨r4, s4⟩⟩ := id hW
  obtain ⟨hnm, hna, hmm, haa⟩ := id hC
  obtain ⟨v1, v2, v3, v4⟩ := id hV
  intro k
  induction k with
  | zero =>
    intro i hi
    have hi : i = vnm v := by omega
    subst hi
    refine g_iload_n (q := 5) dX5_methodsNotNever_4 rfl rfl ?_
    refine g_aload_n (q := 6) dX5_methodsNotNever_5 rfl rfl ?_
    refine gf_X5_27 (q := 9) rfl (by first | assumption | rfl) dX5_methodsNotNever_6 rfl ?_
    rw [hnm]
    refine g_icmp_ge (tgt := 35) (q := 12) dX5_methodsNotNever_9 (by decide) rfl (fun _ => ?_) (fun c9 => absurd (nI_le (Nat.le_refl _) (by omega)) c9)
    exact hex
  | succ k ih =>
    intro i hi
    refine g_iload_n (q := 5) dX5_methodsNotNever_4 rfl rfl ?_
    refine g_aload_n (q := 6) dX5_methodsNotNever_5 rfl rfl ?_
    refine gf_X5_27 (q := 9) rfl (by first | assumption | rfl) dX5_methodsNotNever_6 rfl ?_
    rw [hnm]
    refine g_icmp_ge (tgt := 35) (q := 12) dX5_methodsNotNever_9 (by decide) rfl (fun c9 => absurd c9 (nI_ge (by omega) (by omega))) (fun _ => ?_)
    refine g_iload_n (q := 13) dX5_methodsNotNever_12 rfl rfl ?_
    refine g_aload_n (q := 14) dX5_methodsNotNever_13 rfl rfl ?_
    refine g_iload_n (q := 15) dX5_methodsNotNever_14 rfl rfl ?_
    refine g_iload_n (q := 16) dX5_methodsNotNever_15 rfl rfl ?_
    refine k_X5_74 (q := 19) rfl (Nat.le_of_ble_eq_true rfl) (by first | assumption | rfl) dX5_methodsNotNever_16 rfl (c_X5_known hW hC hV (by omega) (by omega) ?_)
    refine g_if_ne (tgt := 26) (q := 22) dX5_methodsNotNever_19 (by decide) rfl (fun c19 => ?_) (fun c19 => ?_)
    · refine g_iconst (q := 27) (v := nI 1) dX5_methodsNotNever_26 rfl (by decide) ?_
      refine g_iadd (q := 28) dX5_methodsNotNever_27 rfl ?_
      rw [nI_add]
      refine g_istore_n (q := 29) dX5_methodsNotNever_28 rfl (by decide) rfl rfl ?_
      refine g_iincn (q := 32) dX5_methodsNotNever_29 rfl rfl (by decide) rfl rfl ?_
      refine g_goto (q := 4) dX5_methodsNotNever_32 (by decide) ?_
      have hn := ih (i + 1) (by omega)
      have qk := nI_eq (a := knownF v i a) (b := 0) (by have := knownF_lt v i a; omega) (by omega)
      first
      | (rw [smN, if_pos (qk.mp c19)] at hn; exact hn)
      | (rw [smN, if_neg (fun z => c19 (qk.mpr z))] at hn; exact hn)
    · refine g_iconst (q := 23) (v := nI 0) dX5_methodsNotNever_22 rfl (by decide) ?_
      refine g_goto (q := 27) dX5_methodsNotNever_23 (by decide) ?_
      refine g_iadd (q := 28) dX5_methodsNotNever_27 rfl ?_
      rw [nI_add]
      refine g_istore_n (q := 29) dX5_methodsNotNever_28 rfl (by decide) rfl rfl ?_
      refine g_iincn (q := 32) dX5_methodsNotNever_29 rfl rfl (by decide) rfl rfl ?_
      refine g_goto (q := 4) dX5_methodsNotNever_32 (by decide) ?_
      have hn := ih (i + 1) (by omega)
      have qk := nI_eq (a := knownF v i a) (b := 0) (by have := knownF_lt v i a; omega) (by omega)
      first
      | (rw [smN, if_pos (qk.mp c19)] at hn; exact hn)
      | (rw [smN, if_neg (fun z => c19 (qk.mpr z))] at hn; exact hn)
set_option maxRecDepth 100000 in
set_option maxHeartbeats 400000 in
theorem c_X5_methodsNotNever {d n : Nat} {I : Nat → Nat → Int32} {R : Nat → Nat → Option Nat} {Q : Option Int32 → Wd → Prop} {b a : Nat} {v : Vv} (hW : isWv R n b) (hC : CRep I b v) (hV : VOk v) (ha : a < vna v) (h : Q (some (nI (notF v a))) (I, R)) : Ex (d + 6) 0 0 mX5_methodsNotNever [.ref b, .int (nI a)] n (I, R) n Q := by
  refine ex_intro (L0 := [.ref b, .int (nI a), .null, .null]) (by decide +kernel) rfl rfl (Nat.le_of_ble_eq_true rfl) rfl ?_
  refine g_iconst (q := 1) (v := nI 0) dX5_methodsNotNever_0 rfl (by decide) ?_
  refine g_istore_n (q := 2) dX5_methodsNotNever_1 rfl (by decide) rfl rfl ?_
  refine g_iconst (q := 3) (v := nI 0) dX5_methodsNotNever_2 rfl (by decide) ?_
  refine g_istore_n (q := 4) dX5_methodsNotNever_3 rfl (by decide) rfl rfl ?_
  refine l_X5_methodsNotNever_4 hW hC hV ha ?_ (vnm v) 0 (by omega)
  refine g_iload_n (q := 36) dX5_methodsNotNever_35 rfl rfl ?_
  refine g_iret rfl dX5_methodsNotNever_36 (Nat.le_refl _) (Nat.le_refl _) ?_
  exact h
set_option maxRecDepth 100000 in
set_option maxHeartbeats 400000 in
theorem l_X5_meantAt_6 {d n : Nat} {I : Nat → Nat → Int32} {R : Nat → Nat → Option Nat} {Z : Zt} {n0 : Nat} {b m x g : Nat} {v : Vv} (hW : isWv R n b) (hC : CRep I b v) (hV : VOk v) (hm : m < vnm v) (hx : x < 10) (hg : g < 64) (hex : ∀ fz : Value, G mX5_meantAt (rmd (d + 2) 0 0) Z n0 76 [.ref b, .int (nI m), .int (nI x), .int (nI g), .int (nI (orN (vna v) (mbit v m x g))), .int (nI (vna v)), fz] [] n (I, R) 0 0) : ∀ (k i : Nat) (fz : Value), i + k = vna v → G mX5_meantAt (rmd (d + 2) 0 0) Z n0 6 [.ref b, .int (nI m), .int (nI x), .int (nI g), .int (nI (orN i (mbit v m x g))), .int (nI i), fz] [] n (I, R) 0 0 := by
  obtain ⟨hs, ⟨r0, s0⟩, ⟨r1, s1⟩, ⟨r2, s2⟩, ⟨r3, s3⟩, ⟨r4, s4⟩⟩ := id hW
  obtain ⟨hnm, hna, hmm, haa⟩ := id hC
  obtain ⟨v1, v2, v3, v4⟩ := id hV
  intro k
  induction k with
  | zero =>
    intro i fz hi
    have hi : i = vna v := by omega
    subst hi
    refine g_iload (q := 8) dX5_meantAt_6 rfl rfl ?_
    refine g_aload_n (q := 9) dX5_meantAt_8 rfl rfl ?_
    refine gf_X5_31 (q := 12) rfl (by first | assumption | rfl) dX5_meantAt_9 rfl ?_
    rw [hna]
    refine g_icmp_ge (tgt := 76) (q := 15) dX5_meantAt_12 (by decide) rfl (fun _ => ?_) (fun c12 => absurd (nI_le (Nat.le_refl _) (by omega)) c12)
    exact hex fz
  | succ k ih =>
    intro i fz hi
    obtain ⟨w1, w2, w3, w4, w5, w6, w7, w8⟩ := v4 i (by omega)
    have ef := haa i (by omega)
    refine g_iload (q := 8) dX5_meantAt_6 rfl rfl ?_
    refine g_aload_n (q := 9) dX5_meantAt_8 rfl rfl ?_
    refine gf_X5_31 (q := 12) rfl (by first | assumption | rfl) dX5_meantAt_9 rfl ?_
    rw [hna]
    refine g_icmp_ge (tgt := 76) (q := 15) dX5_meantAt_12 (by decide) rfl (fun c12 => absurd c12 (nI_ge (by omega) (by omega))) (fun _ => ?_)
    refine g_aload_n (q := 16) dX5_meantAt_15 rfl rfl ?_
    refine g_iload (q := 18) dX5_meantAt_16 rfl rfl ?_
    refine g_iconst (q := 19) (v := nI 4) dX5_meantAt_18 rfl (by decide) ?_
    refine k_X5_40 (q := 22) rfl (Nat.le_of_ble_eq_true rfl) (by first | assumption | rfl) dX5_meantAt_19 rfl (c_X5_fact (by assumption) (by omega) (by omega) ?_)
    rw [ef 4 (by omega)]
    refine g_istore (q := 24) dX5_meantAt_22 rfl (by decide) rfl rfl ?_
    refine g_aload_n (q := 25) dX5_meantAt_24 rfl rfl ?_
    refine g_iload_n (q := 26) dX5_meantAt_25 rfl rfl ?_
    refine g_iload (q := 28) dX5_meantAt_26 rfl rfl ?_
    refine k_X5_71 (q := 31) rfl (Nat.le_of_ble_eq_true rfl) (by first | assumption | rfl) dX5_meantAt_28 rfl (c_X5_isAbout hW hC hV hm (by omega) (fun z28 => ?_) (fun z28 => ?_))
    · refine g_if_eq (tgt := 70) (q := 34) dX5_meantAt_31 (by decide) rfl (fun c31 => absurd c31 (by decide)) (fun _ => ?_)
      refine g_iload_n (q := 35) dX5_meantAt_34 rfl rfl ?_
      refine g_aload_n (q := 36) dX5_meantAt_35 rfl rfl ?_
      refine g_iload (q := 38) dX5_meantAt_36 rfl rfl ?_
      refine g_iconst (q := 39) (v := nI 3) dX5_meantAt_38 rfl (by decide) ?_
      refine k_X5_40 (q := 42) rfl (Nat.le_of_ble_eq_true rfl) (by first | assumption | rfl) dX5_meantAt_39 rfl (c_X5_fact (by assumption) (by omega) (by omega) ?_)
      rw [ef 3 (by omega)]
      refine g_icmp_ge (tgt := 70) (q := 45) dX5_meantAt_42 (by decide) rfl (fun c42 => ?_) (fun c42 => ?_)
      · refine g_iincn (q := 73) dX5_meantAt_70 rfl rfl (by decide) rfl rfl ?_
        refine g_goto (q := 6) dX5_meantAt_73 (by decide) ?_
        have hn := ih (i + 1) (.int (nI (vfa v i 4))) (by omega)
        have q1 := nI_leI (a := vfa v i 3) (b := x) (by omega) (by omega)
        have q2 := nI_eq (a := vfa v i 4) (b := 6) (by omega) (by omega)
        rw [orN, mbit, if_neg (by rintro ⟨-, y, -⟩; have := q1.mp c42; omega), Nat.or_zero] at hn; exact hn
      · refine g_iload (q := 47) dX5_meantAt_45 rfl rfl ?_
        refine g_bipush (q := 49) (v := nI 6) dX5_meantAt_47 rfl (by decide) ?_
        refine g_icmp_eq (tgt := 61) (q := 52) dX5_meantAt_49 (by decide) rfl (fun c49 => ?_) (fun c49 => ?_)
        · refine g_iload (q := 63) dX5_meantAt_61 rfl rfl ?_
          refine g_iconst (q := 64) (v := nI 1) dX5_meantAt_63 rfl (by decide) ?_
          refine g_iload (q := 66) dX5_meantAt_64 rfl rfl ?_
          refine g_ishl (q := 67) dX5_meantAt_66 rfl ?_
          rw [bit_sh _ (by omega)]
          refine g_ior (q := 68) dX5_meantAt_67 rfl ?_
          rw [bit_or _ (Nat.lt_of_lt_of_le (meantP_lt (by omega)) (by decide)) _ (sh_lt _ (by omega))]
          refine g_istore (q := 70) dX5_meantAt_68 rfl (by decide) rfl rfl ?_
          refine g_iincn (q := 73) dX5_meantAt_70 rfl rfl (by decide) rfl rfl ?_
          refine g_goto (q := 6) dX5_meantAt_73 (by decide) ?_
          have hn := ih (i + 1) (.int (nI (vfa v i 4))) (by omega)
          have q1 := nI_leI (a := vfa v i 3) (b := x) (by omega) (by omega)
          have q2 := nI_eq (a := vfa v i 4) (b := 6) (by omega) (by omega)
          rw [orN, mbit, if_pos ⟨z28, by have := mt q1.mpr c42; omega, Or.inl (q2.mp c49)⟩] at hn; exact hn
        · refine g_iload_n (q := 53) dX5_meantAt_52 rfl rfl ?_
          refine g_iload (q := 55) dX5_meantAt_53 rfl rfl ?_
          refine k_X5_61 (q := 58) rfl (Nat.le_of_ble_eq_true rfl) dX5_meantAt_55 rfl (c_X6_hasBit hg (by omega) (fun z55 => ?_) (fun z55 => ?_))
          · refine g_if_eq (tgt := 70) (q := 61) dX5_meantAt_58 (by decide) rfl (fun c58 => absurd c58 (by decide)) (fun _ => ?_)
            refine g_iload (q := 63) dX5_meantAt_61 rfl rfl ?_
            refine g_iconst (q := 64) (v := nI 1) dX5_meantAt_63 rfl (by decide) ?_
            refine g_iload (q := 66) dX5_meantAt_64 rfl rfl ?_
            refine g_ishl (q := 67) dX5_meantAt_66 rfl ?_
            rw [bit_sh _ (by omega)]
            refine g_ior (q := 68) dX5_meantAt_67 rfl ?_
            rw [bit_or _ (Nat.lt_of_lt_of_le (meantP_lt (by omega)) (by decide)) _ (sh_lt _ (by omega))]
            refine g_istore (q := 70) dX5_meantAt_68 rfl (by decide) rfl rfl ?_
            refine g_iincn (q := 73) dX5_meantAt_70 rfl rfl (by decide) rfl rfl ?_
            refine g_goto (q := 6) dX5_meantAt_73 (by decide) ?_
            have hn := ih (i + 1) (.int (nI (vfa v i 4))) (by omega)
            have q1 := nI_leI (a := vfa v i 3) (b := x) (by omega) (by omega)
            have q2 := nI_eq (a := vfa v i 4) (b := 6) (by omega) (by omega)
            rw [orN, mbit, if_pos ⟨z28, by have := mt q1.mpr c42; omega, Or.inr z55⟩] at hn; exact hn
          · refine g_if_eq (tgt := 70) (q := 61) dX5_meantAt_58 (by decide) rfl (fun _ => ?_) (fun c58 => absurd c58 (by decide))
            refine g_iincn (q := 73) dX5_meantAt_70 rfl rfl (by decide) rfl rfl ?_
            refine g_goto (q := 6) dX5_meantAt_73 (by decide) ?_
            have hn := ih (i + 1) (.int (nI (vfa v i 4))) (by omega)
            have q1 := nI_leI (a := vfa v i 3) (b := x) (by omega) (by omega)
            have q2 := nI_eq (a := vfa v i 4) (b := 6) (by omega) (by omega)
            rw [orN, mbit, if_neg (by rintro ⟨-, -, y⟩; exact y.elim (fun z => c49 (q2.mpr z)) (fun z => by rw [z55] at z; cases z)), Nat.or_zero] at hn; exact hn
    · refine g_if_eq (tgt := 70) (q := 34) dX5_meantAt_31 (by decide) rfl (fun _ => ?_) (fun c31 => absurd c31 (by decide))
      refine g_iincn (q := 73) dX5_meantAt_70 rfl rfl (by decide) rfl rfl ?_
      refine g_goto (q := 6) dX5_meantAt_73 (by decide) ?_
      have hn := ih (i + 1) (.int (nI (vfa v i 4))) (by omega)
      have q1 := nI_leI (a := vfa v i 3) (b := x) (by omega) (by omega)
      have q2 := nI_eq (a := vfa v i 4) (b := 6) (by omega) (by omega)
      rw [orN, mbit, if_neg (by rw [z28]; rintro ⟨y, -⟩; cases y), Nat.or_zero] at hn; exact hn
set_option maxRecDepth 100000 in
set_option maxHeartbeats 400000 in
theorem c_X5_meantAt {d n : Nat} {I : Nat → Nat → Int32} {R : Nat → Nat → Option Nat} {Q : Option Int32 → Wd → Prop} {b m x g : Nat} {v : Vv} (hW : isWv R n b) (hC : CRep I b v) (hV : VOk v) (hm : m < vnm v) (hx : x < 10) (hg : g < 64) (h : Q (some (nI (meantF v m x g))) (I, R)) : Ex (d + 2) 0 0 mX5_meantAt [.ref b, .int (nI m), .int (nI x), .int (nI g)] n (I, R) n Q := by
  refine ex_intro (L0 := [.ref b, .int (nI m), .int (nI x), .int (nI g), .null, .null, .null]) (by decide +kernel) rfl rfl (Nat.le_of_ble_eq_true rfl) rfl ?_
  refine g_iconst (q := 1) (v := nI 0) dX5_meantAt_0 rfl (by decide) ?_
  refine g_istore (q := 3) dX5_meantAt_1 rfl (by decide) rfl rfl ?_
  refine g_iconst (q := 4) (v := nI 0) dX5_meantAt_3 rfl (by decide) ?_
  refine g_istore (q := 6) dX5_meantAt_4 rfl (by decide) rfl rfl ?_
  refine l_X5_meantAt_6 hW hC hV hm hx hg (fun fz => ?_) (vna v) 0 .null (by omega)
  refine g_iload (q := 78) dX5_meantAt_76 rfl rfl ?_
  refine g_iret rfl dX5_meantAt_78 (Nat.le_refl _) (Nat.le_refl _) ?_
  exact h
set_option maxRecDepth 100000 in
set_option maxHeartbeats 400000 in
theorem l_X5_statements_4 {d n : Nat} {I : Nat → Nat → Int32} {R : Nat → Nat → Option Nat} {Z : Zt} {n0 : Nat} {b : Nat} {v : Vv} (hW : isWv R n b) (hC : CRep I b v) (hV : VOk v) (hex : G mX5_statements (rmd (d + 0) 0 0) Z n0 27 [.ref b, .int (nI (smN (vnm v) (vln v))), .int (nI (vnm v))] [] n (I, R) 0 0) : ∀ (k i : Nat), i + k = vnm v → G mX5_statements (rmd (d + 0) 0 0) Z n0 4 [.ref b, .int (nI (smN i (vln v))), .int (nI i)] [] n (I, R) 0 0 := by
  obtain ⟨hs, ⟨r0, s0⟩, ⟨r1, s1⟩, ⟨r2, s2⟩, ⟨r3, s3⟩, ⟨r4, s4⟩⟩ := id hW
  obtain ⟨hnm, hna, hmm, haa⟩ := id hC
  obtain ⟨v1, v2, v3, v4⟩ := id hV
  intro k
  induction k with
  | zero =>
    intro i hi
    have hi : i = vnm v := by omega
    subst hi
    refine g_iload_n (q := 5) dX5_statements_4 rfl rfl ?_
    refine g_aload_n (q := 6) dX5_statements_5 rfl rfl ?_
    refine gf_X5_27 (q := 9) rfl (by first | assumption | rfl) dX5_statements_6 rfl ?_
    rw [hnm]
    refine g_icmp_ge (tgt := 27) (q := 12) dX5_statements_9 (by decide) rfl (fun _ => ?_) (fun c9 => absurd (nI_le (Nat.le_refl _) (by omega)) c9)
    exact hex
  | succ k ih =>
    intro i hi
    refine g_iload_n (q := 5) dX5_statements_4 rfl rfl ?_
    refine g_aload_n (q := 6) dX5_statements_5 rfl rfl ?_
    refine gf_X5_27 (q := 9) rfl (by first | assumption | rfl) dX5_statements_6 rfl ?_
    rw [hnm]
    refine g_icmp_ge (tgt := 27) (q := 12) dX5_statements_9 (by decide) rfl (fun c9 => absurd c9 (nI_ge (by omega) (by omega))) (fun _ => ?_)
    refine g_iload_n (q := 13) dX5_statements_12 rfl rfl ?_
    refine g_aload_n (q := 14) dX5_statements_13 rfl rfl ?_
    refine gf_X5_15 (q := 17) rfl (by first | assumption | rfl) (by first | assumption | rfl) dX5_statements_14 rfl ?_
    refine g_iload_n (q := 18) dX5_statements_17 rfl rfl ?_
    refine g_ialdn (q := 19) (by first | assumption | rfl) (by repeat' first | apply nI_a | apply nI_m | exact rfl) (by omega) dX5_statements_18 rfl ?_
    rw [(hmm i (by omega)).2.1]
    refine g_iadd (q := 20) dX5_statements_19 rfl ?_
    rw [nI_add]
    refine g_istore_n (q := 21) dX5_statements_20 rfl (by decide) rfl rfl ?_
    refine g_iincn (q := 24) dX5_statements_21 rfl rfl (by decide) rfl rfl ?_
    refine g_goto (q := 4) dX5_statements_24 (by decide) ?_
    exact ih (i + 1) (by omega)
set_option maxRecDepth 100000 in
set_option maxHeartbeats 400000 in
theorem c_X5_statements {d n : Nat} {I : Nat → Nat → Int32} {R : Nat → Nat → Option Nat} {Q : Option Int32 → Wd → Prop} {b : Nat} {v : Vv} (hW : isWv R n b) (hC : CRep I b v) (hV : VOk v) (h : Q (some (nI (smN (vnm v) (vln v)))) (I, R)) : Ex d 0 0 mX5_statements [.ref b] n (I, R) n Q := by
  refine ex_intro (L0 := [.ref b, .null, .null]) (by decide +kernel) rfl rfl (Nat.le_of_ble_eq_true rfl) rfl ?_
  refine g_iconst (q := 1) (v := nI 0) dX5_statements_0 rfl (by decide) ?_
  refine g_istore_n (q := 2) dX5_statements_1 rfl (by decide) rfl rfl ?_
  refine g_iconst (q := 3) (v := nI 0) dX5_statements_2 rfl (by decide) ?_
  refine g_istore_n (q := 4) dX5_statements_3 rfl (by decide) rfl rfl ?_
  refine l_X5_statements_4 (d := d) hW hC hV ?_ (vnm v) 0 (by omega)
  refine g_iload_n (q := 28) dX5_statements_27 rfl rfl ?_
  refine g_iret rfl dX5_statements_28 (Nat.le_refl _) (Nat.le_refl _) ?_
  exact h
