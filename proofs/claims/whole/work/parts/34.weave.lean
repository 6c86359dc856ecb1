set_option maxRecDepth 100000 in
set_option maxHeartbeats 4000000 in
theorem c_X5_fact {d n : Nat} {I : Nat → Nat → Int32} {R : Nat → Nat → Option Nat} {Q : Option Int32 → Wd → Prop} {b a f : Nat} (hW : isWv R n b) (ha : a < 5) (hf : f < 6) (h : Q (some (I (b + 5) (a * 6 + f))) (I, R)) : Ex d 0 0 mX5_fact [.ref b, .int (nI a), .int (nI f)] n (I, R) n Q := by
  obtain ⟨hs, ⟨r0, s0⟩, ⟨r1, s1⟩, ⟨r2, s2⟩, ⟨r3, s3⟩, ⟨r4, s4⟩⟩ := id hW
  refine ex_intro (L0 := [.ref b, .int (nI a), .int (nI f)]) (by decide +kernel) rfl rfl (Nat.le_of_ble_eq_true rfl) rfl ?_
  refine g_aload_n (q := 1) dX5_fact_0 rfl rfl ?_
  refine gf_X5_24 (q := 4) rfl (by first | assumption | rfl) (by first | assumption | rfl) dX5_fact_1 rfl ?_
  refine g_iload_n (q := 5) dX5_fact_4 rfl rfl ?_
  refine g_bipush (q := 7) (v := nI 6) dX5_fact_5 rfl (by decide) ?_
  refine g_imul (q := 8) dX5_fact_7 rfl ?_
  refine g_iload_n (q := 9) dX5_fact_8 rfl rfl ?_
  refine g_iadd (q := 10) dX5_fact_9 rfl ?_
  refine g_ialdn (q := 11) (by first | assumption | rfl) (by repeat' first | apply nI_a | apply nI_m | exact rfl) (by omega) dX5_fact_10 rfl ?_
  refine g_iret rfl dX5_fact_11 (Nat.le_refl _) (Nat.le_refl _) ?_
  exact h
set_option maxRecDepth 100000 in
set_option maxHeartbeats 4000000 in
theorem c_X5_putFact {d n : Nat} {I : Nat → Nat → Int32} {R : Nat → Nat → Option Nat} {Q : Option Int32 → Wd → Prop} {b a f : Nat} {v : Int32} (hW : isWv R n b) (ha : a < 5) (hf : f < 6) (h : Q none (uI I (b + 5) (a * 6 + f) v, R)) : Ex d 0 0 mX5_putFact [.ref b, .int (nI a), .int (nI f), .int v] n (I, R) n Q := by
  obtain ⟨hs, ⟨r0, s0⟩, ⟨r1, s1⟩, ⟨r2, s2⟩, ⟨r3, s3⟩, ⟨r4, s4⟩⟩ := id hW
  refine ex_intro (L0 := [.ref b, .int (nI a), .int (nI f), .int v]) (by decide +kernel) rfl rfl (Nat.le_of_ble_eq_true rfl) rfl ?_
  refine g_aload_n (q := 1) dX5_putFact_0 rfl rfl ?_
  refine gf_X5_24 (q := 4) rfl (by first | assumption | rfl) (by first | assumption | rfl) dX5_putFact_1 rfl ?_
  refine g_iload_n (q := 5) dX5_putFact_4 rfl rfl ?_
  refine g_bipush (q := 7) (v := nI 6) dX5_putFact_5 rfl (by decide) ?_
  refine g_imul (q := 8) dX5_putFact_7 rfl ?_
  refine g_iload_n (q := 9) dX5_putFact_8 rfl rfl ?_
  refine g_iadd (q := 10) dX5_putFact_9 rfl ?_
  refine g_iload_n (q := 11) dX5_putFact_10 rfl rfl ?_
  refine g_iastn (q := 12) (by first | assumption | rfl) (by repeat' first | apply nI_a | apply nI_m | exact rfl) (by omega) dX5_putFact_11 rfl ?_
  refine g_vret rfl dX5_putFact_12 (Nat.le_refl _) (Nat.le_refl _) ?_
  exact h
set_option maxRecDepth 100000 in
set_option maxHeartbeats 4000000 in
theorem c_X5_methods {d n : Nat} {I : Nat → Nat → Int32} {R : Nat → Nat → Option Nat} {Q : Option Int32 → Wd → Prop} {b : Nat} (hW : isWv R n b) (h : Q (some (I b 5)) (I, R)) : Ex d 0 0 mX5_methods [.ref b] n (I, R) n Q := by
  obtain ⟨hs, ⟨r0, s0⟩, ⟨r1, s1⟩, ⟨r2, s2⟩, ⟨r3, s3⟩, ⟨r4, s4⟩⟩ := id hW
  refine ex_intro (L0 := [.ref b]) (by decide +kernel) rfl rfl (Nat.le_of_ble_eq_true rfl) rfl ?_
  refine g_aload_n (q := 1) dX5_methods_0 rfl rfl ?_
  refine gf_X5_27 (q := 4) rfl (by first | assumption | rfl) dX5_methods_1 rfl ?_
  refine g_iret rfl dX5_methods_4 (Nat.le_refl _) (Nat.le_refl _) ?_
  exact h
set_option maxRecDepth 100000 in
set_option maxHeartbeats 4000000 in
theorem c_X5_adviceCount {d n : Nat} {I : Nat → Nat → Int32} {R : Nat → Nat → Option Nat} {Q : Option Int32 → Wd → Prop} {b : Nat} (hW : isWv R n b) (h : Q (some (I b 6)) (I, R)) : Ex d 0 0 mX5_adviceCount [.ref b] n (I, R) n Q := by
  obtain ⟨hs, ⟨r0, s0⟩, ⟨r1, s1⟩, ⟨r2, s2⟩, ⟨r3, s3⟩, ⟨r4, s4⟩⟩ := id hW
  refine ex_intro (L0 := [.ref b]) (by decide +kernel) rfl rfl (Nat.le_of_ble_eq_true rfl) rfl ?_
  refine g_aload_n (q := 1) dX5_adviceCount_0 rfl rfl ?_
  refine gf_X5_31 (q := 4) rfl (by first | assumption | rfl) dX5_adviceCount_1 rfl ?_
  refine g_iret rfl dX5_adviceCount_4 (Nat.le_refl _) (Nat.le_refl _) ?_
  exact h
set_option maxRecDepth 100000 in
set_option maxHeartbeats 4000000 in
theorem c_X5_clear {d n : Nat} {I : Nat → Nat → Int32} {R : Nat → Nat → Option Nat} {Q : Option Int32 → Wd → Prop} {b : Nat} (hW : isWv R n b) (h : Q none (uI (uI I b 5 (nI 0)) b 6 (nI 0), R)) : Ex d 0 0 mX5_clear [.ref b] n (I, R) n Q := by
  obtain ⟨hs, ⟨r0, s0⟩, ⟨r1, s1⟩, ⟨r2, s2⟩, ⟨r3, s3⟩, ⟨r4, s4⟩⟩ := id hW
  refine ex_intro (L0 := [.ref b]) (by decide +kernel) rfl rfl (Nat.le_of_ble_eq_true rfl) rfl ?_
  refine g_aload_n (q := 1) dX5_clear_0 rfl rfl ?_
  refine g_iconst (q := 2) (v := nI 0) dX5_clear_1 rfl (by decide) ?_
  refine pf_X5_27 (q := 5) rfl (by first | assumption | rfl) dX5_clear_2 rfl ?_
  refine g_aload_n (q := 6) dX5_clear_5 rfl rfl ?_
  refine g_iconst (q := 7) (v := nI 0) dX5_clear_6 rfl (by decide) ?_
  refine pf_X5_31 (q := 10) rfl (by first | assumption | rfl) dX5_clear_7 rfl ?_
  refine g_vret rfl dX5_clear_10 (Nat.le_refl _) (Nat.le_refl _) ?_
  exact h
set_option maxRecDepth 100000 in
set_option maxHeartbeats 4000000 in
theorem c_X5_classOf {d n : Nat} {I : Nat → Nat → Int32} {R : Nat → Nat → Option Nat} {Q : Option Int32 → Wd → Prop} {b a : Nat} (hW : isWv R n b) (ha : a < 6) (h : Q (some (I (b + 1) a)) (I, R)) : Ex d 0 0 mX5_classOf [.ref b, .int (nI a)] n (I, R) n Q := by
  obtain ⟨hs, ⟨r0, s0⟩, ⟨r1, s1⟩, ⟨r2, s2⟩, ⟨r3, s3⟩, ⟨r4, s4⟩⟩ := id hW
  refine ex_intro (L0 := [.ref b, .int (nI a)]) (by decide +kernel) rfl rfl (Nat.le_of_ble_eq_true rfl) rfl ?_
  refine g_aload_n (q := 1) dX5_classOf_0 rfl rfl ?_
  refine gf_X5_9 (q := 4) rfl (by first | assumption | rfl) (by first | assumption | rfl) dX5_classOf_1 rfl ?_
  refine g_iload_n (q := 5) dX5_classOf_4 rfl rfl ?_
  refine g_ialdn (q := 6) (by first | assumption | rfl) (by repeat' first | apply nI_a | apply nI_m | exact rfl) (by omega) dX5_classOf_5 rfl ?_
  refine g_iret rfl dX5_classOf_6 (Nat.le_refl _) (Nat.le_refl _) ?_
  exact h
set_option maxRecDepth 100000 in
set_option maxHeartbeats 4000000 in
theorem c_X5_putClass {d n : Nat} {I : Nat → Nat → Int32} {R : Nat → Nat → Option Nat} {Q : Option Int32 → Wd → Prop} {b a : Nat} {v : Int32} (hW : isWv R n b) (ha : a < 6) (h : Q none (uI I (b + 1) a v, R)) : Ex d 0 0 mX5_putClass [.ref b, .int (nI a), .int v] n (I, R) n Q := by
  obtain ⟨hs, ⟨r0, s0⟩, ⟨r1, s1⟩, ⟨r2, s2⟩, ⟨r3, s3⟩, ⟨r4, s4⟩⟩ := id hW
  refine ex_intro (L0 := [.ref b, .int (nI a), .int v]) (by decide +kernel) rfl rfl (Nat.le_of_ble_eq_true rfl) rfl ?_
  refine g_aload_n (q := 1) dX5_putClass_0 rfl rfl ?_
  refine gf_X5_9 (q := 4) rfl (by first | assumption | rfl) (by first | assumption | rfl) dX5_putClass_1 rfl ?_
  refine g_iload_n (q := 5) dX5_putClass_4 rfl rfl ?_
  refine g_iload_n (q := 6) dX5_putClass_5 rfl rfl ?_
  refine g_iastn (q := 7) (by first | assumption | rfl) (by repeat' first | apply nI_a | apply nI_m | exact rfl) (by omega) dX5_putClass_6 rfl ?_
  refine g_vret rfl dX5_putClass_7 (Nat.le_refl _) (Nat.le_refl _) ?_
  exact h
set_option maxRecDepth 100000 in
set_option maxHeartbeats 4000000 in
theorem c_X5_length {d n : Nat} {I : Nat → Nat → Int32} {R : Nat → Nat → Option Nat} {Q : Option Int32 → Wd → Prop} {b a : Nat} (hW : isWv R n b) (ha : a < 6) (h : Q (some (I (b + 2) a)) (I, R)) : Ex d 0 0 mX5_length [.ref b, .int (nI a)] n (I, R) n Q := by
  obtain ⟨hs, ⟨r0, s0⟩, ⟨r1, s1⟩, ⟨r2, s2⟩, ⟨r3, s3⟩, ⟨r4, s4⟩⟩ := id hW
  refine ex_intro (L0 := [.ref b, .int (nI a)]) (by decide +kernel) rfl rfl (Nat.le_of_ble_eq_true rfl) rfl ?_
  refine g_aload_n (q := 1) dX5_length_0 rfl rfl ?_
  refine gf_X5_15 (q := 4) rfl (by first | assumption | rfl) (by first | assumption | rfl) dX5_length_1 rfl ?_
  refine g_iload_n (q := 5) dX5_length_4 rfl rfl ?_
  refine g_ialdn (q := 6) (by first | assumption | rfl) (by repeat' first | apply nI_a | apply nI_m | exact rfl) (by omega) dX5_length_5 rfl ?_
  refine g_iret rfl dX5_length_6 (Nat.le_refl _) (Nat.le_refl _) ?_
  exact h
set_option maxRecDepth 100000 in
set_option maxHeartbeats 4000000 in
theorem c_X5_sort {d n : Nat} {I : Nat → Nat → Int32} {R : Nat → Nat → Option Nat} {Q : Option Int32 → Wd → Prop} {b a i : Nat} (hW : isWv R n b) (ha : a < 6) (hi : i < 4) (h : Q (some (I (b + 3) (a * 4 + i))) (I, R)) : Ex d 0 0 mX5_sort [.ref b, .int (nI a), .int (nI i)] n (I, R) n Q := by
  obtain ⟨hs, ⟨r0, s0⟩, ⟨r1, s1⟩, ⟨r2, s2⟩, ⟨r3, s3⟩, ⟨r4, s4⟩⟩ := id hW
  refine ex_intro (L0 := [.ref b, .int (nI a), .int (nI i)]) (by decide +kernel) rfl rfl (Nat.le_of_ble_eq_true rfl) rfl ?_
  refine g_aload_n (q := 1) dX5_sort_0 rfl rfl ?_
  refine gf_X5_18 (q := 4) rfl (by first | assumption | rfl) (by first | assumption | rfl) dX5_sort_1 rfl ?_
  refine g_iload_n (q := 5) dX5_sort_4 rfl rfl ?_
  refine g_iconst (q := 6) (v := nI 4) dX5_sort_5 rfl (by decide) ?_
  refine g_imul (q := 7) dX5_sort_6 rfl ?_
  refine g_iload_n (q := 8) dX5_sort_7 rfl rfl ?_
  refine g_iadd (q := 9) dX5_sort_8 rfl ?_
  refine g_ialdn (q := 10) (by first | assumption | rfl) (by repeat' first | apply nI_a | apply nI_m | exact rfl) (by omega) dX5_sort_9 rfl ?_
  refine g_iret rfl dX5_sort_10 (Nat.le_refl _) (Nat.le_refl _) ?_
  exact h
set_option maxRecDepth 100000 in
set_option maxHeartbeats 4000000 in
theorem c_X5_operand {d n : Nat} {I : Nat → Nat → Int32} {R : Nat → Nat → Option Nat} {Q : Option Int32 → Wd → Prop} {b a i : Nat} (hW : isWv R n b) (ha : a < 6) (hi : i < 4) (h : Q (some (I (b + 4) (a * 4 + i))) (I, R)) : Ex d 0 0 mX5_operand [.ref b, .int (nI a), .int (nI i)] n (I, R) n Q := by
  obtain ⟨hs, ⟨r0, s0⟩, ⟨r1, s1⟩, ⟨r2, s2⟩, ⟨r3, s3⟩, ⟨r4, s4⟩⟩ := id hW
  refine ex_intro (L0 := [.ref b, .int (nI a), .int (nI i)]) (by decide +kernel) rfl rfl (Nat.le_of_ble_eq_true rfl) rfl ?_
  refine g_aload_n (q := 1) dX5_operand_0 rfl rfl ?_
  refine gf_X5_21 (q := 4) rfl (by first | assumption | rfl) (by first | assumption | rfl) dX5_operand_1 rfl ?_
  refine g_iload_n (q := 5) dX5_operand_4 rfl rfl ?_
  refine g_iconst (q := 6) (v := nI 4) dX5_operand_5 rfl (by decide) ?_
  refine g_imul (q := 7) dX5_operand_6 rfl ?_
  refine g_iload_n (q := 8) dX5_operand_7 rfl rfl ?_
  refine g_iadd (q := 9) dX5_operand_8 rfl ?_
  refine g_ialdn (q := 10) (by first | assumption | rfl) (by repeat' first | apply nI_a | apply nI_m | exact rfl) (by omega) dX5_operand_9 rfl ?_
  refine g_iret rfl dX5_operand_10 (Nat.le_refl _) (Nat.le_refl _) ?_
  exact h
set_option maxRecDepth 100000 in
set_option maxHeartbeats 4000000 in
theorem c_X5_putStatement {d n : Nat} {I : Nat → Nat → Int32} {R : Nat → Nat → Option Nat} {Q : Option Int32 → Wd → Prop} {b a i : Nat} {s v : Int32} (hW : isWv R n b) (ha : a < 6) (hi : i < 4) (h : Q none (uI (uI I (b + 3) (a * 4 + i) s) (b + 4) (a * 4 + i) v, R)) : Ex d 0 0 mX5_putStatement [.ref b, .int (nI a), .int (nI i), .int s, .int v] n (I, R) n Q := by
  obtain ⟨hs, ⟨r0, s0⟩, ⟨r1, s1⟩, ⟨r2, s2⟩, ⟨r3, s3⟩, ⟨r4, s4⟩⟩ := id hW
  refine ex_intro (L0 := [.ref b, .int (nI a), .int (nI i), .int s, .int v]) (by decide +kernel) rfl rfl (Nat.le_of_ble_eq_true rfl) rfl ?_
  refine g_aload_n (q := 1) dX5_putStatement_0 rfl rfl ?_
  refine gf_X5_18 (q := 4) rfl (by first | assumption | rfl) (by first | assumption | rfl) dX5_putStatement_1 rfl ?_
  refine g_iload_n (q := 5) dX5_putStatement_4 rfl rfl ?_
  refine g_iconst (q := 6) (v := nI 4) dX5_putStatement_5 rfl (by decide) ?_
  refine g_imul (q := 7) dX5_putStatement_6 rfl ?_
  refine g_iload_n (q := 8) dX5_putStatement_7 rfl rfl ?_
  refine g_iadd (q := 9) dX5_putStatement_8 rfl ?_
  refine g_iload_n (q := 10) dX5_putStatement_9 rfl rfl ?_
  refine g_iastn (q := 11) (by first | assumption | rfl) (by repeat' first | apply nI_a | apply nI_m | exact rfl) (by omega) dX5_putStatement_10 rfl ?_
  refine g_aload_n (q := 12) dX5_putStatement_11 rfl rfl ?_
  refine gf_X5_21 (q := 15) rfl (by first | assumption | rfl) (by first | assumption | rfl) dX5_putStatement_12 rfl ?_
  refine g_iload_n (q := 16) dX5_putStatement_15 rfl rfl ?_
  refine g_iconst (q := 17) (v := nI 4) dX5_putStatement_16 rfl (by decide) ?_
  refine g_imul (q := 18) dX5_putStatement_17 rfl ?_
  refine g_iload_n (q := 19) dX5_putStatement_18 rfl rfl ?_
  refine g_iadd (q := 20) dX5_putStatement_19 rfl ?_
  refine g_iload (q := 22) dX5_putStatement_20 rfl rfl ?_
  refine g_iastn (q := 23) (by first | assumption | rfl) (by repeat' first | apply nI_a | apply nI_m | exact rfl) (by omega) dX5_putStatement_22 rfl ?_
  refine g_vret rfl dX5_putStatement_23 (Nat.le_refl _) (Nat.le_refl _) ?_
  exact h
set_option maxRecDepth 100000 in
set_option maxHeartbeats 4000000 in
theorem c_X6_isWithin {d n : Nat} {I : Nat → Nat → Int32} {R : Nat → Nat → Option Nat} {Q : Option Int32 → Wd → Prop} {x lo hi : Int32} (h1 : lo ≤ x → x ≤ hi → Q (some (nI 1)) (I, R)) (h0 : ¬ (lo ≤ x ∧ x ≤ hi) → Q (some (nI 0)) (I, R)) : Ex d 0 0 mX6_isWithin [.int x, .int lo, .int hi] n (I, R) n Q := by
  refine ex_intro (L0 := [.int x, .int lo, .int hi]) (by decide +kernel) rfl rfl (Nat.le_of_ble_eq_true rfl) rfl ?_
  refine g_iload_n (q := 1) dX6_isWithin_0 rfl rfl ?_
  refine g_iload_n (q := 2) dX6_isWithin_1 rfl rfl ?_
  refine g_icmp_lt (tgt := 14) (q := 5) dX6_isWithin_2 (by decide) rfl (fun c2 => ?_) (fun c2 => ?_)
  · refine g_iconst (q := 15) (v := nI 0) dX6_isWithin_14 rfl (by decide) ?_
    refine g_zret rfl (by decide) dX6_isWithin_15 (Nat.le_refl _) (Nat.le_refl _) ?_
    first | exact h1 (Int32.not_lt.mp c2) (Int32.not_lt.mp c7) | exact h0 (fun z => absurd c2 (Int32.not_lt.mpr z.1)) | exact h0 (fun z => absurd c7 (Int32.not_lt.mpr z.2))
  · refine g_iload_n (q := 6) dX6_isWithin_5 rfl rfl ?_
    refine g_iload_n (q := 7) dX6_isWithin_6 rfl rfl ?_
    refine g_icmp_gt (tgt := 14) (q := 10) dX6_isWithin_7 (by decide) rfl (fun c7 => ?_) (fun c7 => ?_)
    · refine g_iconst (q := 15) (v := nI 0) dX6_isWithin_14 rfl (by decide) ?_
      refine g_zret rfl (by decide) dX6_isWithin_15 (Nat.le_refl _) (Nat.le_refl _) ?_
      first | exact h1 (Int32.not_lt.mp c2) (Int32.not_lt.mp c7) | exact h0 (fun z => absurd c2 (Int32.not_lt.mpr z.1)) | exact h0 (fun z => absurd c7 (Int32.not_lt.mpr z.2))
    · refine g_iconst (q := 11) (v := nI 1) dX6_isWithin_10 rfl (by decide) ?_
      refine g_goto (q := 15) dX6_isWithin_11 (by decide) ?_
      refine g_zret rfl (by decide) dX6_isWithin_15 (Nat.le_refl _) (Nat.le_refl _) ?_
      first | exact h1 (Int32.not_lt.mp c2) (Int32.not_lt.mp c7) | exact h0 (fun z => absurd c2 (Int32.not_lt.mpr z.1)) | exact h0 (fun z => absurd c7 (Int32.not_lt.mpr z.2))
set_option maxRecDepth 100000 in
set_option maxHeartbeats 4000000 in
theorem c_X6_hasBit {d n : Nat} {I : Nat → Nat → Int32} {R : Nat → Nat → Option Nat} {Q : Option Int32 → Wd → Prop} {x k : Nat} (hx : x < 64) (hk : k < 8) (h1 : x.testBit k = true → Q (some (nI 1)) (I, R)) (h0 : x.testBit k = false → Q (some (nI 0)) (I, R)) : Ex d 0 0 mX6_hasBit [.int (nI x), .int (nI k)] n (I, R) n Q := by
  refine ex_intro (L0 := [.int (nI x), .int (nI k)]) (by decide +kernel) rfl rfl (Nat.le_of_ble_eq_true rfl) rfl ?_
  refine g_iload_n (q := 1) dX6_hasBit_0 rfl rfl ?_
  refine g_iload_n (q := 2) dX6_hasBit_1 rfl rfl ?_
  refine g_ishr (q := 3) dX6_hasBit_2 rfl ?_
  refine g_iconst (q := 4) (v := nI 1) dX6_hasBit_3 rfl (by decide) ?_
  refine g_iand (q := 5) dX6_hasBit_4 rfl ?_
  rw [bit_has x hx k hk]
  refine g_if_eq (tgt := 12) (q := 8) dX6_hasBit_5 (by decide) rfl (fun c5 => ?_) (fun c5 => ?_)
  · refine g_iconst (q := 13) (v := nI 0) dX6_hasBit_12 rfl (by decide) ?_
    refine g_zret rfl (by decide) dX6_hasBit_13 (Nat.le_refl _) (Nat.le_refl _) ?_
    first | exact h0 (by cases hb : x.testBit k with | false => rfl | true => rw [hb] at c5; exact absurd c5 (by decide)) | exact h1 (by cases hb : x.testBit k with | true => rfl | false => rw [hb] at c5; exact absurd rfl c5)
  · refine g_iconst (q := 9) (v := nI 1) dX6_hasBit_8 rfl (by decide) ?_
    refine g_goto (q := 13) dX6_hasBit_9 (by decide) ?_
    refine g_zret rfl (by decide) dX6_hasBit_13 (Nat.le_refl _) (Nat.le_refl _) ?_
    first | exact h0 (by cases hb : x.testBit k with | false => rfl | true => rw [hb] at c5; exact absurd c5 (by decide)) | exact h1 (by cases hb : x.testBit k with | true => rfl | false => rw [hb] at c5; exact absurd rfl c5)
set_option maxRecDepth 100000 in
set_option maxHeartbeats 4000000 in
theorem l_X5_calledBy_4 {d n : Nat} {I : Nat → Nat → Int32} {R : Nat → Nat → Option Nat} {Z : Zt} {n0 : Nat} {b m : Nat} {v : Vv} (hW : isWv R n b) (hC : CRep I b v) (hV : VOk v) (hm : m < vnm v) (hex : G mX5_calledBy (rmd (d + 1) 0 0) Z n0 41 [.ref b, .int (nI m), .int (nI (orN (vln v m) (fun i => if vso v m i = 1 then 1 <<< vop v m i else 0))), .int (nI (vln v m))] [] n (I, R) 0 0) : ∀ (k i : Nat), i + k = vln v m → G mX5_calledBy (rmd (d + 1) 0 0) Z n0 4 [.ref b, .int (nI m), .int (nI (orN i (fun i => if vso v m i = 1 then 1 <<< vop v m i else 0))), .int (nI i)] [] n (I, R) 0 0 := by
  obtain ⟨hs, ⟨r0, s0⟩, ⟨r1, s1⟩, ⟨r2, s2⟩, ⟨r3, s3⟩, ⟨r4, s4⟩⟩ := id hW
  obtain ⟨hnm, hna, hmm, haa⟩ := id hC
  obtain ⟨v1, v2, v3, v4⟩ := id hV
  obtain ⟨e1, e2, e3⟩ := hmm m hm
  obtain ⟨u1, u2, u3⟩ := v3 m hm
  intro k
  induction k with
  | zero =>
    intro i hi
    have hi : i = vln v m := by omega
    subst hi
    refine g_iload_n (q := 5) dX5_calledBy_4 rfl rfl ?_
    refine g_aload_n (q := 6) dX5_calledBy_5 rfl rfl ?_
    refine gf_X5_15 (q := 9) rfl (by first | assumption | rfl) (by first | assumption | rfl) dX5_calledBy_6 rfl ?_
    refine g_iload_n (q := 10) dX5_calledBy_9 rfl rfl ?_
    refine g_ialdn (q := 11) (by first | assumption | rfl) (by repeat' first | apply nI_a | apply nI_m | exact rfl) (by omega) dX5_calledBy_10 rfl ?_
    rw [e2]
    refine g_icmp_ge (tgt := 41) (q := 14) dX5_calledBy_11 (by decide) rfl (fun _ => ?_) (fun c11 => absurd (nI_le (Nat.le_refl _) (by omega)) c11)
    exact hex
  | succ k ih =>
    intro i hi
    refine g_iload_n (q := 5) dX5_calledBy_4 rfl rfl ?_
    refine g_aload_n (q := 6) dX5_calledBy_5 rfl rfl ?_
    refine gf_X5_15 (q := 9) rfl (by first | assumption | rfl) (by first | assumption | rfl) dX5_calledBy_6 rfl ?_
    refine g_iload_n (q := 10) dX5_calledBy_9 rfl rfl ?_
    refine g_ialdn (q := 11) (by first | assumption | rfl) (by repeat' first | apply nI_a | apply nI_m | exact rfl) (by omega) dX5_calledBy_10 rfl ?_
    rw [e2]
    refine g_icmp_ge (tgt := 41) (q := 14) dX5_calledBy_11 (by decide) rfl (fun c11 => absurd c11 (nI_ge (by omega) (by omega))) (fun _ => ?_)
    refine g_aload_n (q := 15) dX5_calledBy_14 rfl rfl ?_
    refine g_iload_n (q := 16) dX5_calledBy_15 rfl rfl ?_
    refine g_iload_n (q := 17) dX5_calledBy_16 rfl rfl ?_
    refine k_X5_61 (q := 20) rfl (by decide) (by first | assumption | rfl) dX5_calledBy_17 rfl (c_X5_sort (by assumption) (by omega) (by omega) ?_)
    rw [(e3 i (by omega)).1]
    refine g_iconst (q := 21) (v := nI 1) dX5_calledBy_20 rfl (by decide) ?_
    refine g_icmp_ne (tgt := 35) (q := 24) dX5_calledBy_21 (by decide) rfl (fun c21 => ?_) (fun c21 => ?_)
    · refine g_iincn (q := 38) dX5_calledBy_35 rfl rfl (by decide) rfl rfl ?_
      refine g_goto (q := 4) dX5_calledBy_38 (by decide) ?_
      first
      | (have h1 : vso v m i = 1 := (nI_eq (by have := (u3 i (by omega)).1; omega) (by omega)).mp c21
         have := ih (i + 1) (by omega)
         rw [orN, if_pos h1] at this
         exact this)
      | (have h1 : ¬ vso v m i = 1 := fun z => c21 ((nI_eq (by have := (u3 i (by omega)).1; omega) (by omega)).mpr z)
         have := ih (i + 1) (by omega)
         rw [orN, if_neg h1, Nat.or_zero] at this
         exact this)
    · refine g_iload_n (q := 25) dX5_calledBy_24 rfl rfl ?_
      refine g_iconst (q := 26) (v := nI 1) dX5_calledBy_25 rfl (by decide) ?_
      refine g_aload_n (q := 27) dX5_calledBy_26 rfl rfl ?_
      refine g_iload_n (q := 28) dX5_calledBy_27 rfl rfl ?_
      refine g_iload_n (q := 29) dX5_calledBy_28 rfl rfl ?_
      refine k_X5_64 (q := 32) rfl (by decide) (by first | assumption | rfl) dX5_calledBy_29 rfl (c_X5_operand (by assumption) (by omega) (by omega) ?_)
      rw [(e3 i (by omega)).2]
      refine g_ishl (q := 33) dX5_calledBy_32 rfl ?_
      rw [bit_sh _ (by have := (u3 i (by omega)).2.2.1 ((nI_eq (by have := (u3 i (by omega)).1; omega) (by omega)).mp c21); omega)]
      refine g_ior (q := 34) dX5_calledBy_33 rfl ?_
      rw [bit_or _ (orN_lt (n := 6) _ _ (fun z hz => by
        have hk := (u3 z (by omega)).2.2.1
        split
        · next hz1 => have h6 : vop v m z < 6 := by have := hk hz1; omega
                     have : ∀ k, k < 6 → 1 <<< k < 2 ^ 6 := by decide
                     exact this _ h6
        · decide)) _ (by
        have h6 : vop v m i < 6 := by have := (u3 i (by omega)).2.2.1 ((nI_eq (by have := (u3 i (by omega)).1; omega) (by omega)).mp c21); omega
        have : ∀ k, k < 6 → 1 <<< k < 64 := by decide
        exact this _ h6)]
      refine g_istore_n (q := 35) dX5_calledBy_34 rfl (by decide) rfl rfl ?_
      refine g_iincn (q := 38) dX5_calledBy_35 rfl rfl (by decide) rfl rfl ?_
      refine g_goto (q := 4) dX5_calledBy_38 (by decide) ?_
      first
      | (have h1 : vso v m i = 1 := (nI_eq (by have := (u3 i (by omega)).1; omega) (by omega)).mp c21
         have := ih (i + 1) (by omega)
         rw [orN, if_pos h1] at this
         exact this)
      | (have h1 : ¬ vso v m i = 1 := fun z => c21 ((nI_eq (by have := (u3 i (by omega)).1; omega) (by omega)).mpr z)
         have := ih (i + 1) (by omega)
         rw [orN, if_neg h1, Nat.or_zero] at this
         exact this)
set_option maxRecDepth 100000 in
set_option maxHeartbeats 4000000 in
theorem c_X5_calledBy {d n : Nat} {I : Nat → Nat → Int32} {R : Nat → Nat → Option Nat} {Q : Option Int32 → Wd → Prop} {b m : Nat} {v : Vv} (hW : isWv R n b) (hC : CRep I b v) (hV : VOk v) (hm : m < vnm v) (h : Q (some (nI (callF v m))) (I, R)) : Ex (d + 1) 0 0 mX5_calledBy [.ref b, .int (nI m)] n (I, R) n Q := by
  refine ex_intro (L0 := [.ref b, .int (nI m), .null, .null]) (by decide +kernel) rfl rfl (Nat.le_of_ble_eq_true rfl) rfl ?_
  refine g_iconst (q := 1) (v := nI 0) dX5_calledBy_0 rfl (by decide) ?_
  refine g_istore_n (q := 2) dX5_calledBy_1 rfl (by decide) rfl rfl ?_
  refine g_iconst (q := 3) (v := nI 0) dX5_calledBy_2 rfl (by decide) ?_
  refine g_istore_n (q := 4) dX5_calledBy_3 rfl (by decide) rfl rfl ?_
  refine l_X5_calledBy_4 hW hC hV hm ?_ (vln v m) 0 (by omega)
  refine g_iload_n (q := 42) dX5_calledBy_41 rfl rfl ?_
  refine g_iret rfl dX5_calledBy_42 (Nat.le_refl _) (Nat.le_refl _) ?_
  exact h
